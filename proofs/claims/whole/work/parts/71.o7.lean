def fCn : Fpt := (fun _ => true, fun _ => false, fun _ => false, fun _ => false, fun _ _ _ => false)
def dyX0 (h : Hp) (j T : Nat) : Hp := xT (sI h (9, j) 7 (nI T)) 0
def dyM0 (h : Hp) (j T : Nat) : Hp := mT (sI (sI (mZ h) (38, 3) j (nI T)) (38, 4) j 0) 0
def dyX1 (h : Hp) (j r s T : Nat) : Hp := xT (sR (sI (sI (sI (sI h (9, j) 7 (nI T)) (9, j) 8 (-1)) (9, j) 9 0) (11, s) 3 (nI T)) (10, r) 1 none) 0
def dyM1 (h : Hp) (j r s T : Nat) : Hp := mT (sI (sI (sI (sI (sI (sI (mZ h) (38, 3) j (nI T)) (38, 16) s (nI T)) (38, 11) r (-1)) (38, 6) j (-1)) (38, 4) j 0) (38, 4) j 0) 0
theorem d0_g7 (h : Hp) (j T : Nat) (p : Nat) : vi (dyM0 (dyX0 h j T) j T) (9, p) 7 = if p = j then nI T else vi h (9, p) 7 := by unfold dyM0 dyX0 mT mZ xT; rw [vi_sI_ne _ _ _ _ (fun z => (by cases z)), vi_sI_ne _ _ _ _ (fun z => (by cases z)), vi_sI_ne _ _ _ _ (fun z => (by cases z)), vi_sI_ne _ _ _ _ (fun z => (by cases z)), vi_sI_ne _ _ _ _ (fun z => (by cases z)), vi_sI_ne _ _ _ _ (fun z => (by cases z)), vi_sI, upC]
theorem d0_g8 (h : Hp) (j T : Nat) (p : Nat) : vi (dyM0 (dyX0 h j T) j T) (9, p) 8 = vi h (9, p) 8 := by unfold dyM0 dyX0 mT mZ xT; rw [vi_sI_ne _ _ _ _ (fun z => (by cases z)), vi_sI_ne _ _ _ _ (fun z => (by cases z)), vi_sI_ne _ _ _ _ (fun z => (by cases z)), vi_sI_ne _ _ _ _ (fun z => (by cases z)), vi_sI_ne _ _ _ _ (fun z => (by cases z)), vi_sI_ne _ _ _ _ (fun z => (by cases z)), vi_sI_nk _ _ _ (by decide)]
theorem d0_g9 (h : Hp) (j T : Nat) (p : Nat) : vi (dyM0 (dyX0 h j T) j T) (9, p) 9 = vi h (9, p) 9 := by unfold dyM0 dyX0 mT mZ xT; rw [vi_sI_ne _ _ _ _ (fun z => (by cases z)), vi_sI_ne _ _ _ _ (fun z => (by cases z)), vi_sI_ne _ _ _ _ (fun z => (by cases z)), vi_sI_ne _ _ _ _ (fun z => (by cases z)), vi_sI_ne _ _ _ _ (fun z => (by cases z)), vi_sI_ne _ _ _ _ (fun z => (by cases z)), vi_sI_nk _ _ _ (by decide)]
theorem d0_m6 (h : Hp) (j T : Nat) (p : Nat) : vi (dyM0 (dyX0 h j T) j T) (38, 6) p = vi h (38, 6) p := by unfold dyM0 dyX0 mT mZ xT; rw [vi_sI_ne _ _ _ _ (fun z => (by cases z)), vi_sI_ne _ _ _ _ (fun z => (by cases z)), vi_sI_ne _ _ _ _ (fun z => (by cases z)), vi_sI_ne _ _ _ _ (fun z => (by cases z)), vi_sI_ne _ _ _ _ (fun z => (by cases z)), vi_sI_ne _ _ _ _ (fun z => (by cases z)), vi_sI_ne _ _ _ _ (fun z => (by cases z))]
theorem d0_m3 (h : Hp) (j T : Nat) (p : Nat) : vi (dyM0 (dyX0 h j T) j T) (38, 3) p = if p = j then nI T else vi h (38, 3) p := by unfold dyM0 dyX0 mT mZ xT; rw [vi_sI_ne _ _ _ _ (fun z => (by cases z)), vi_sI_ne _ _ _ _ (fun z => (by cases z)), vi_sI_ne _ _ _ _ (fun z => (by cases z)), vi_sI, upB, vi_sI_ne _ _ _ _ (fun z => (by cases z)), vi_sI_ne _ _ _ _ (fun z => (by cases z)), vi_sI_ne _ _ _ _ (fun z => (by cases z))]
theorem d0_m4 (h : Hp) (j T : Nat) (p : Nat) : vi (dyM0 (dyX0 h j T) j T) (38, 4) p = if p = j then 0 else vi h (38, 4) p := by unfold dyM0 dyX0 mT mZ xT; rw [vi_sI_ne _ _ _ _ (fun z => (by cases z)), vi_sI_ne _ _ _ _ (fun z => (by cases z)), vi_sI, upB, vi_sI_ne _ _ _ _ (fun z => (by cases z)), vi_sI_ne _ _ _ _ (fun z => (by cases z)), vi_sI_ne _ _ _ _ (fun z => (by cases z)), vi_sI_ne _ _ _ _ (fun z => (by cases z))]
theorem d0_e14 (h : Hp) (j T : Nat) (p : Nat) : vi (dyM0 (dyX0 h j T) j T) (0, 0) 14 = 0 := by unfold dyM0 dyX0 mT mZ xT; rw [vi_sI_ne _ _ _ _ (fun z => (by cases z)), vi_sI_ne _ _ _ _ (fun z => (by cases z)), vi_sI_ne _ _ _ _ (fun z => (by cases z)), vi_sI_ne _ _ _ _ (fun z => (by cases z)), vi_sI_ne _ _ _ _ (fun z => (by cases z)), vi_sI_eq]
theorem d0_fEm (h : Hp) (j T : Nat) : Eqv fEm h (dyM0 (dyX0 h j T) j T) := (Eqv.sI (Eqv.sI (Eqv.sI (Eqv.sI (Eqv.sI (Eqv.sI (Eqv.sI (Eqv.rf _) Bool.false_ne_true) Bool.false_ne_true) Bool.false_ne_true) Bool.false_ne_true) Bool.false_ne_true) Bool.false_ne_true) Bool.false_ne_true)
theorem d0_fX10 (h : Hp) (j T : Nat) : Eqv fX10 h (dyM0 (dyX0 h j T) j T) := (Eqv.sI (Eqv.sI (Eqv.sI (Eqv.sI (Eqv.sI (Eqv.sI (Eqv.sI (Eqv.rf _) Bool.false_ne_true) Bool.false_ne_true) Bool.false_ne_true) Bool.false_ne_true) Bool.false_ne_true) Bool.false_ne_true) Bool.false_ne_true)
theorem d0_fXI (h : Hp) (j T : Nat) : Eqv fXI h (dyM0 (dyX0 h j T) j T) := (Eqv.sI (Eqv.sI (Eqv.sI (Eqv.sI (Eqv.sI (Eqv.sI (Eqv.sI (Eqv.rf _) Bool.false_ne_true) Bool.false_ne_true) Bool.false_ne_true) Bool.false_ne_true) Bool.false_ne_true) Bool.false_ne_true) Bool.false_ne_true)
theorem d0_fLD (h : Hp) (j T : Nat) : Eqv fLD h (dyM0 (dyX0 h j T) j T) := (Eqv.sI (Eqv.sI (Eqv.sI (Eqv.sI (Eqv.sI (Eqv.sI (Eqv.sI (Eqv.rf _) Bool.false_ne_true) Bool.false_ne_true) Bool.false_ne_true) Bool.false_ne_true) Bool.false_ne_true) Bool.false_ne_true) Bool.false_ne_true)
theorem d0_fSk (h : Hp) (j T : Nat) : Eqv fSk h (dyM0 (dyX0 h j T) j T) := (Eqv.sI (Eqv.sI (Eqv.sI (Eqv.sI (Eqv.sI (Eqv.sI (Eqv.sI (Eqv.rf _) Bool.false_ne_true) Bool.false_ne_true) Bool.false_ne_true) Bool.false_ne_true) Bool.false_ne_true) Bool.false_ne_true) Bool.false_ne_true)
theorem d0_fTa (h : Hp) (j T : Nat) : Eqv fTa h (dyM0 (dyX0 h j T) j T) := (Eqv.sI (Eqv.sI (Eqv.sI (Eqv.sI (Eqv.sI (Eqv.sI (Eqv.sI (Eqv.rf _) Bool.false_ne_true) Bool.false_ne_true) Bool.false_ne_true) Bool.false_ne_true) Bool.false_ne_true) Bool.false_ne_true) Bool.false_ne_true)
theorem d0_fPa (h : Hp) (j T : Nat) : Eqv fPa h (dyM0 (dyX0 h j T) j T) := (Eqv.sI (Eqv.sI (Eqv.sI (Eqv.sI (Eqv.sI (Eqv.sI (Eqv.sI (Eqv.rf _) Bool.false_ne_true) Bool.false_ne_true) Bool.false_ne_true) Bool.false_ne_true) Bool.false_ne_true) Bool.false_ne_true) Bool.false_ne_true)
theorem d0_fTr (h : Hp) (j T : Nat) : Eqv fTr h (dyM0 (dyX0 h j T) j T) := (Eqv.sI (Eqv.sI (Eqv.sI (Eqv.sI (Eqv.sI (Eqv.sI (Eqv.sI (Eqv.rf _) Bool.false_ne_true) Bool.false_ne_true) Bool.false_ne_true) Bool.false_ne_true) Bool.false_ne_true) Bool.false_ne_true) Bool.false_ne_true)
theorem d0_fLa (h : Hp) (j T : Nat) : Eqv fLa h (dyM0 (dyX0 h j T) j T) := (Eqv.sI (Eqv.sI (Eqv.sI (Eqv.sI (Eqv.sI (Eqv.sI (Eqv.sI (Eqv.rf _) Bool.false_ne_true) Bool.false_ne_true) Bool.false_ne_true) Bool.false_ne_true) Bool.false_ne_true) Bool.false_ne_true) Bool.false_ne_true)
theorem d0_fCs (h : Hp) (j T : Nat) : Eqv fCs h (dyM0 (dyX0 h j T) j T) := (Eqv.sI (Eqv.sI (Eqv.sI (Eqv.sI (Eqv.sI (Eqv.sI (Eqv.sI (Eqv.rf _) Bool.false_ne_true) Bool.false_ne_true) Bool.false_ne_true) Bool.false_ne_true) Bool.false_ne_true) Bool.false_ne_true) Bool.false_ne_true)
theorem d0_fSR (h : Hp) (j T : Nat) : Eqv fSR h (dyM0 (dyX0 h j T) j T) := (Eqv.sI (Eqv.sI (Eqv.sI (Eqv.sI (Eqv.sI (Eqv.sI (Eqv.sI (Eqv.rf _) Bool.false_ne_true) Bool.false_ne_true) Bool.false_ne_true) Bool.false_ne_true) Bool.false_ne_true) Bool.false_ne_true) Bool.false_ne_true)
theorem d0_fRo (h : Hp) (j T : Nat) : Eqv fRo h (dyM0 (dyX0 h j T) j T) := (Eqv.sI (Eqv.sI (Eqv.sI (Eqv.sI (Eqv.sI (Eqv.sI (Eqv.sI (Eqv.rf _) Bool.false_ne_true) Bool.false_ne_true) Bool.false_ne_true) Bool.false_ne_true) Bool.false_ne_true) Bool.false_ne_true) Bool.false_ne_true)
theorem d0_fMJ (h : Hp) (j T : Nat) : Eqv fMJ h (dyM0 (dyX0 h j T) j T) := (Eqv.sI (Eqv.sI (Eqv.sI (Eqv.sI (Eqv.sI (Eqv.sI (Eqv.sI (Eqv.rf _) Bool.false_ne_true) Bool.false_ne_true) Bool.false_ne_true) Bool.false_ne_true) Bool.false_ne_true) Bool.false_ne_true) Bool.false_ne_true)
theorem d1_g7 (h : Hp) (j r s T : Nat) (p : Nat) : vi (dyM1 (dyX1 h j r s T) j r s T) (9, p) 7 = if p = j then nI T else vi h (9, p) 7 := by unfold dyM1 dyX1 mT mZ xT; rw [vi_sI_ne _ _ _ _ (fun z => (by cases z)), vi_sI_ne _ _ _ _ (fun z => (by cases z)), vi_sI_ne _ _ _ _ (fun z => (by cases z)), vi_sI_ne _ _ _ _ (fun z => (by cases z)), vi_sI_ne _ _ _ _ (fun z => (by cases z)), vi_sI_ne _ _ _ _ (fun z => (by cases z)), vi_sI_ne _ _ _ _ (fun z => (by cases z)), vi_sI_ne _ _ _ _ (fun z => (by cases z)), vi_sI_ne _ _ _ _ (fun z => (by cases z)), vi_sI_ne _ _ _ _ (fun z => (by cases z)), vi_sR, vi_sI_ne _ _ _ _ (fun z => (by cases z)), vi_sI_nk _ _ _ (by decide), vi_sI_nk _ _ _ (by decide), vi_sI, upC]
theorem d1_g8 (h : Hp) (j r s T : Nat) (p : Nat) : vi (dyM1 (dyX1 h j r s T) j r s T) (9, p) 8 = if p = j then -1 else vi h (9, p) 8 := by unfold dyM1 dyX1 mT mZ xT; rw [vi_sI_ne _ _ _ _ (fun z => (by cases z)), vi_sI_ne _ _ _ _ (fun z => (by cases z)), vi_sI_ne _ _ _ _ (fun z => (by cases z)), vi_sI_ne _ _ _ _ (fun z => (by cases z)), vi_sI_ne _ _ _ _ (fun z => (by cases z)), vi_sI_ne _ _ _ _ (fun z => (by cases z)), vi_sI_ne _ _ _ _ (fun z => (by cases z)), vi_sI_ne _ _ _ _ (fun z => (by cases z)), vi_sI_ne _ _ _ _ (fun z => (by cases z)), vi_sI_ne _ _ _ _ (fun z => (by cases z)), vi_sR, vi_sI_ne _ _ _ _ (fun z => (by cases z)), vi_sI_nk _ _ _ (by decide), vi_sI, upC, vi_sI_nk _ _ _ (by decide)]
theorem d1_g9 (h : Hp) (j r s T : Nat) (p : Nat) : vi (dyM1 (dyX1 h j r s T) j r s T) (9, p) 9 = if p = j then 0 else vi h (9, p) 9 := by unfold dyM1 dyX1 mT mZ xT; rw [vi_sI_ne _ _ _ _ (fun z => (by cases z)), vi_sI_ne _ _ _ _ (fun z => (by cases z)), vi_sI_ne _ _ _ _ (fun z => (by cases z)), vi_sI_ne _ _ _ _ (fun z => (by cases z)), vi_sI_ne _ _ _ _ (fun z => (by cases z)), vi_sI_ne _ _ _ _ (fun z => (by cases z)), vi_sI_ne _ _ _ _ (fun z => (by cases z)), vi_sI_ne _ _ _ _ (fun z => (by cases z)), vi_sI_ne _ _ _ _ (fun z => (by cases z)), vi_sI_ne _ _ _ _ (fun z => (by cases z)), vi_sR, vi_sI_ne _ _ _ _ (fun z => (by cases z)), vi_sI, upC, vi_sI_nk _ _ _ (by decide), vi_sI_nk _ _ _ (by decide)]
theorem d1_m6 (h : Hp) (j r s T : Nat) (p : Nat) : vi (dyM1 (dyX1 h j r s T) j r s T) (38, 6) p = if p = j then -1 else vi h (38, 6) p := by unfold dyM1 dyX1 mT mZ xT; rw [vi_sI_ne _ _ _ _ (fun z => (by cases z)), vi_sI_ne _ _ _ _ (fun z => (by cases z)), vi_sI_ne _ _ _ _ (fun z => (by cases z)), vi_sI_ne _ _ _ _ (fun z => (by cases z)), vi_sI, upB, vi_sI_ne _ _ _ _ (fun z => (by cases z)), vi_sI_ne _ _ _ _ (fun z => (by cases z)), vi_sI_ne _ _ _ _ (fun z => (by cases z)), vi_sI_ne _ _ _ _ (fun z => (by cases z)), vi_sI_ne _ _ _ _ (fun z => (by cases z)), vi_sR, vi_sI_ne _ _ _ _ (fun z => (by cases z)), vi_sI_ne _ _ _ _ (fun z => (by cases z)), vi_sI_ne _ _ _ _ (fun z => (by cases z)), vi_sI_ne _ _ _ _ (fun z => (by cases z))]
theorem d1_m3 (h : Hp) (j r s T : Nat) (p : Nat) : vi (dyM1 (dyX1 h j r s T) j r s T) (38, 3) p = if p = j then nI T else vi h (38, 3) p := by unfold dyM1 dyX1 mT mZ xT; rw [vi_sI_ne _ _ _ _ (fun z => (by cases z)), vi_sI_ne _ _ _ _ (fun z => (by cases z)), vi_sI_ne _ _ _ _ (fun z => (by cases z)), vi_sI_ne _ _ _ _ (fun z => (by cases z)), vi_sI_ne _ _ _ _ (fun z => (by cases z)), vi_sI_ne _ _ _ _ (fun z => (by cases z)), vi_sI_ne _ _ _ _ (fun z => (by cases z)), vi_sI, upB, vi_sI_ne _ _ _ _ (fun z => (by cases z)), vi_sI_ne _ _ _ _ (fun z => (by cases z)), vi_sR, vi_sI_ne _ _ _ _ (fun z => (by cases z)), vi_sI_ne _ _ _ _ (fun z => (by cases z)), vi_sI_ne _ _ _ _ (fun z => (by cases z)), vi_sI_ne _ _ _ _ (fun z => (by cases z))]
theorem d1_m4 (h : Hp) (j r s T : Nat) (p : Nat) : vi (dyM1 (dyX1 h j r s T) j r s T) (38, 4) p = if p = j then 0 else if p = j then 0 else vi h (38, 4) p := by unfold dyM1 dyX1 mT mZ xT; rw [vi_sI_ne _ _ _ _ (fun z => (by cases z)), vi_sI_ne _ _ _ _ (fun z => (by cases z)), vi_sI, upB, vi_sI, upB, vi_sI_ne _ _ _ _ (fun z => (by cases z)), vi_sI_ne _ _ _ _ (fun z => (by cases z)), vi_sI_ne _ _ _ _ (fun z => (by cases z)), vi_sI_ne _ _ _ _ (fun z => (by cases z)), vi_sI_ne _ _ _ _ (fun z => (by cases z)), vi_sI_ne _ _ _ _ (fun z => (by cases z)), vi_sR, vi_sI_ne _ _ _ _ (fun z => (by cases z)), vi_sI_ne _ _ _ _ (fun z => (by cases z)), vi_sI_ne _ _ _ _ (fun z => (by cases z)), vi_sI_ne _ _ _ _ (fun z => (by cases z))]
theorem d1_g10 (h : Hp) (j r s T : Nat) (p : Nat) : vr (dyM1 (dyX1 h j r s T) j r s T) (10, p) 1 = if p = r then none else vr h (10, p) 1 := by unfold dyM1 dyX1 mT mZ xT; rw [vr_sI, vr_sI, vr_sI, vr_sI, vr_sI, vr_sI, vr_sI, vr_sI, vr_sI, vr_sI, vr_sR, upR, vr_sI, vr_sI, vr_sI, vr_sI]
theorem d1_g3 (h : Hp) (j r s T : Nat) (p : Nat) : vi (dyM1 (dyX1 h j r s T) j r s T) (11, p) 3 = if p = s then nI T else vi h (11, p) 3 := by unfold dyM1 dyX1 mT mZ xT; rw [vi_sI_ne _ _ _ _ (fun z => (by cases z)), vi_sI_ne _ _ _ _ (fun z => (by cases z)), vi_sI_ne _ _ _ _ (fun z => (by cases z)), vi_sI_ne _ _ _ _ (fun z => (by cases z)), vi_sI_ne _ _ _ _ (fun z => (by cases z)), vi_sI_ne _ _ _ _ (fun z => (by cases z)), vi_sI_ne _ _ _ _ (fun z => (by cases z)), vi_sI_ne _ _ _ _ (fun z => (by cases z)), vi_sI_ne _ _ _ _ (fun z => (by cases z)), vi_sI_ne _ _ _ _ (fun z => (by cases z)), vi_sR, vi_sI, upC, vi_sI_ne _ _ _ _ (fun z => (by cases z)), vi_sI_ne _ _ _ _ (fun z => (by cases z)), vi_sI_ne _ _ _ _ (fun z => (by cases z))]
theorem d1_m11 (h : Hp) (j r s T : Nat) (p : Nat) : vi (dyM1 (dyX1 h j r s T) j r s T) (38, 11) p = if p = r then -1 else vi h (38, 11) p := by unfold dyM1 dyX1 mT mZ xT; rw [vi_sI_ne _ _ _ _ (fun z => (by cases z)), vi_sI_ne _ _ _ _ (fun z => (by cases z)), vi_sI_ne _ _ _ _ (fun z => (by cases z)), vi_sI_ne _ _ _ _ (fun z => (by cases z)), vi_sI_ne _ _ _ _ (fun z => (by cases z)), vi_sI, upB, vi_sI_ne _ _ _ _ (fun z => (by cases z)), vi_sI_ne _ _ _ _ (fun z => (by cases z)), vi_sI_ne _ _ _ _ (fun z => (by cases z)), vi_sI_ne _ _ _ _ (fun z => (by cases z)), vi_sR, vi_sI_ne _ _ _ _ (fun z => (by cases z)), vi_sI_ne _ _ _ _ (fun z => (by cases z)), vi_sI_ne _ _ _ _ (fun z => (by cases z)), vi_sI_ne _ _ _ _ (fun z => (by cases z))]
theorem d1_m16 (h : Hp) (j r s T : Nat) (p : Nat) : vi (dyM1 (dyX1 h j r s T) j r s T) (38, 16) p = if p = s then nI T else vi h (38, 16) p := by unfold dyM1 dyX1 mT mZ xT; rw [vi_sI_ne _ _ _ _ (fun z => (by cases z)), vi_sI_ne _ _ _ _ (fun z => (by cases z)), vi_sI_ne _ _ _ _ (fun z => (by cases z)), vi_sI_ne _ _ _ _ (fun z => (by cases z)), vi_sI_ne _ _ _ _ (fun z => (by cases z)), vi_sI_ne _ _ _ _ (fun z => (by cases z)), vi_sI, upB, vi_sI_ne _ _ _ _ (fun z => (by cases z)), vi_sI_ne _ _ _ _ (fun z => (by cases z)), vi_sI_ne _ _ _ _ (fun z => (by cases z)), vi_sR, vi_sI_ne _ _ _ _ (fun z => (by cases z)), vi_sI_ne _ _ _ _ (fun z => (by cases z)), vi_sI_ne _ _ _ _ (fun z => (by cases z)), vi_sI_ne _ _ _ _ (fun z => (by cases z))]
theorem d1_e14 (h : Hp) (j r s T : Nat) (p : Nat) : vi (dyM1 (dyX1 h j r s T) j r s T) (0, 0) 14 = 0 := by unfold dyM1 dyX1 mT mZ xT; rw [vi_sI_ne _ _ _ _ (fun z => (by cases z)), vi_sI_ne _ _ _ _ (fun z => (by cases z)), vi_sI_ne _ _ _ _ (fun z => (by cases z)), vi_sI_ne _ _ _ _ (fun z => (by cases z)), vi_sI_ne _ _ _ _ (fun z => (by cases z)), vi_sI_ne _ _ _ _ (fun z => (by cases z)), vi_sI_ne _ _ _ _ (fun z => (by cases z)), vi_sI_ne _ _ _ _ (fun z => (by cases z)), vi_sI_ne _ _ _ _ (fun z => (by cases z)), vi_sI_eq]
theorem d1_fEm (h : Hp) (j r s T : Nat) : Eqv fEm h (dyM1 (dyX1 h j r s T) j r s T) := (Eqv.sI (Eqv.sI (Eqv.sI (Eqv.sI (Eqv.sI (Eqv.sI (Eqv.sI (Eqv.sI (Eqv.sI (Eqv.sI (Eqv.sR (Eqv.sI (Eqv.sI (Eqv.sI (Eqv.sI (Eqv.rf _) Bool.false_ne_true) Bool.false_ne_true) Bool.false_ne_true) Bool.false_ne_true) Bool.false_ne_true) Bool.false_ne_true) Bool.false_ne_true) Bool.false_ne_true) Bool.false_ne_true) Bool.false_ne_true) Bool.false_ne_true) Bool.false_ne_true) Bool.false_ne_true) Bool.false_ne_true) Bool.false_ne_true)
theorem d1_fX10 (h : Hp) (j r s T : Nat) : Eqv fX10 h (dyM1 (dyX1 h j r s T) j r s T) := (Eqv.sI (Eqv.sI (Eqv.sI (Eqv.sI (Eqv.sI (Eqv.sI (Eqv.sI (Eqv.sI (Eqv.sI (Eqv.sI (Eqv.sR (Eqv.sI (Eqv.sI (Eqv.sI (Eqv.sI (Eqv.rf _) Bool.false_ne_true) Bool.false_ne_true) Bool.false_ne_true) Bool.false_ne_true) Bool.false_ne_true) Bool.false_ne_true) Bool.false_ne_true) Bool.false_ne_true) Bool.false_ne_true) Bool.false_ne_true) Bool.false_ne_true) Bool.false_ne_true) Bool.false_ne_true) Bool.false_ne_true) Bool.false_ne_true)
theorem d1_fLD (h : Hp) (j r s T : Nat) : Eqv fLD h (dyM1 (dyX1 h j r s T) j r s T) := (Eqv.sI (Eqv.sI (Eqv.sI (Eqv.sI (Eqv.sI (Eqv.sI (Eqv.sI (Eqv.sI (Eqv.sI (Eqv.sI (Eqv.sR (Eqv.sI (Eqv.sI (Eqv.sI (Eqv.sI (Eqv.rf _) Bool.false_ne_true) Bool.false_ne_true) Bool.false_ne_true) Bool.false_ne_true) Bool.false_ne_true) Bool.false_ne_true) Bool.false_ne_true) Bool.false_ne_true) Bool.false_ne_true) Bool.false_ne_true) Bool.false_ne_true) Bool.false_ne_true) Bool.false_ne_true) Bool.false_ne_true) Bool.false_ne_true)
theorem d1_fSk (h : Hp) (j r s T : Nat) : Eqv fSk h (dyM1 (dyX1 h j r s T) j r s T) := (Eqv.sI (Eqv.sI (Eqv.sI (Eqv.sI (Eqv.sI (Eqv.sI (Eqv.sI (Eqv.sI (Eqv.sI (Eqv.sI (Eqv.sR (Eqv.sI (Eqv.sI (Eqv.sI (Eqv.sI (Eqv.rf _) Bool.false_ne_true) Bool.false_ne_true) Bool.false_ne_true) Bool.false_ne_true) Bool.false_ne_true) Bool.false_ne_true) Bool.false_ne_true) Bool.false_ne_true) Bool.false_ne_true) Bool.false_ne_true) Bool.false_ne_true) Bool.false_ne_true) Bool.false_ne_true) Bool.false_ne_true) Bool.false_ne_true)
theorem d1_fTa (h : Hp) (j r s T : Nat) : Eqv fTa h (dyM1 (dyX1 h j r s T) j r s T) := (Eqv.sI (Eqv.sI (Eqv.sI (Eqv.sI (Eqv.sI (Eqv.sI (Eqv.sI (Eqv.sI (Eqv.sI (Eqv.sI (Eqv.sR (Eqv.sI (Eqv.sI (Eqv.sI (Eqv.sI (Eqv.rf _) Bool.false_ne_true) Bool.false_ne_true) Bool.false_ne_true) Bool.false_ne_true) Bool.false_ne_true) Bool.false_ne_true) Bool.false_ne_true) Bool.false_ne_true) Bool.false_ne_true) Bool.false_ne_true) Bool.false_ne_true) Bool.false_ne_true) Bool.false_ne_true) Bool.false_ne_true) Bool.false_ne_true)
theorem d1_fPa (h : Hp) (j r s T : Nat) : Eqv fPa h (dyM1 (dyX1 h j r s T) j r s T) := (Eqv.sI (Eqv.sI (Eqv.sI (Eqv.sI (Eqv.sI (Eqv.sI (Eqv.sI (Eqv.sI (Eqv.sI (Eqv.sI (Eqv.sR (Eqv.sI (Eqv.sI (Eqv.sI (Eqv.sI (Eqv.rf _) Bool.false_ne_true) Bool.false_ne_true) Bool.false_ne_true) Bool.false_ne_true) Bool.false_ne_true) Bool.false_ne_true) Bool.false_ne_true) Bool.false_ne_true) Bool.false_ne_true) Bool.false_ne_true) Bool.false_ne_true) Bool.false_ne_true) Bool.false_ne_true) Bool.false_ne_true) Bool.false_ne_true)
theorem d1_fTr (h : Hp) (j r s T : Nat) : Eqv fTr h (dyM1 (dyX1 h j r s T) j r s T) := (Eqv.sI (Eqv.sI (Eqv.sI (Eqv.sI (Eqv.sI (Eqv.sI (Eqv.sI (Eqv.sI (Eqv.sI (Eqv.sI (Eqv.sR (Eqv.sI (Eqv.sI (Eqv.sI (Eqv.sI (Eqv.rf _) Bool.false_ne_true) Bool.false_ne_true) Bool.false_ne_true) Bool.false_ne_true) Bool.false_ne_true) Bool.false_ne_true) Bool.false_ne_true) Bool.false_ne_true) Bool.false_ne_true) Bool.false_ne_true) Bool.false_ne_true) Bool.false_ne_true) Bool.false_ne_true) Bool.false_ne_true) Bool.false_ne_true)
theorem d1_fLa (h : Hp) (j r s T : Nat) : Eqv fLa h (dyM1 (dyX1 h j r s T) j r s T) := (Eqv.sI (Eqv.sI (Eqv.sI (Eqv.sI (Eqv.sI (Eqv.sI (Eqv.sI (Eqv.sI (Eqv.sI (Eqv.sI (Eqv.sR (Eqv.sI (Eqv.sI (Eqv.sI (Eqv.sI (Eqv.rf _) Bool.false_ne_true) Bool.false_ne_true) Bool.false_ne_true) Bool.false_ne_true) Bool.false_ne_true) Bool.false_ne_true) Bool.false_ne_true) Bool.false_ne_true) Bool.false_ne_true) Bool.false_ne_true) Bool.false_ne_true) Bool.false_ne_true) Bool.false_ne_true) Bool.false_ne_true) Bool.false_ne_true)
theorem d1_fCs (h : Hp) (j r s T : Nat) : Eqv fCs h (dyM1 (dyX1 h j r s T) j r s T) := (Eqv.sI (Eqv.sI (Eqv.sI (Eqv.sI (Eqv.sI (Eqv.sI (Eqv.sI (Eqv.sI (Eqv.sI (Eqv.sI (Eqv.sR (Eqv.sI (Eqv.sI (Eqv.sI (Eqv.sI (Eqv.rf _) Bool.false_ne_true) Bool.false_ne_true) Bool.false_ne_true) Bool.false_ne_true) Bool.false_ne_true) Bool.false_ne_true) Bool.false_ne_true) Bool.false_ne_true) Bool.false_ne_true) Bool.false_ne_true) Bool.false_ne_true) Bool.false_ne_true) Bool.false_ne_true) Bool.false_ne_true) Bool.false_ne_true)
theorem d1_fSR (h : Hp) (j r s T : Nat) : Eqv fSR h (dyM1 (dyX1 h j r s T) j r s T) := (Eqv.sI (Eqv.sI (Eqv.sI (Eqv.sI (Eqv.sI (Eqv.sI (Eqv.sI (Eqv.sI (Eqv.sI (Eqv.sI (Eqv.sR (Eqv.sI (Eqv.sI (Eqv.sI (Eqv.sI (Eqv.rf _) Bool.false_ne_true) Bool.false_ne_true) Bool.false_ne_true) Bool.false_ne_true) Bool.false_ne_true) Bool.false_ne_true) Bool.false_ne_true) Bool.false_ne_true) Bool.false_ne_true) Bool.false_ne_true) Bool.false_ne_true) Bool.false_ne_true) Bool.false_ne_true) Bool.false_ne_true) Bool.false_ne_true)
theorem d0_cn (h : Hp) (j T : Nat) : cn (dyM0 (dyX0 h j T) j T) = cn h := funext fun p => (show Eqv fCn h (dyM0 (dyX0 h j T) j T) from (Eqv.sI (Eqv.sI (Eqv.sI (Eqv.sI (Eqv.sI (Eqv.sI (Eqv.sI (Eqv.rf _) Bool.false_ne_true) Bool.false_ne_true) Bool.false_ne_true) Bool.false_ne_true) Bool.false_ne_true) Bool.false_ne_true) Bool.false_ne_true)).1 p rfl
theorem d1_cn (h : Hp) (j r s T : Nat) : cn (dyM1 (dyX1 h j r s T) j r s T) = cn h := funext fun p => (show Eqv fCn h (dyM1 (dyX1 h j r s T) j r s T) from (Eqv.sI (Eqv.sI (Eqv.sI (Eqv.sI (Eqv.sI (Eqv.sI (Eqv.sI (Eqv.sI (Eqv.sI (Eqv.sI (Eqv.sR (Eqv.sI (Eqv.sI (Eqv.sI (Eqv.sI (Eqv.rf _) Bool.false_ne_true) Bool.false_ne_true) Bool.false_ne_true) Bool.false_ne_true) Bool.false_ne_true) Bool.false_ne_true) Bool.false_ne_true) Bool.false_ne_true) Bool.false_ne_true) Bool.false_ne_true) Bool.false_ne_true) Bool.false_ne_true) Bool.false_ne_true) Bool.false_ne_true) Bool.false_ne_true)).1 p rfl
theorem RR_d0 {h : Hp} (r : RR h) {j T : Nat} (hj : j < cn h 9) (hT : T ≤ 40000) (e8 : vi h (9, j) 9 = 0) : RR (dyM0 (dyX0 h j T) j T) := by
  have p1 := fun p (hp : p < cn h 9) => (r.2.2.2.2.2.1.2.2.1 p hp).1
  refine ⟨XI_congr (d0_fXI h j T) r.1, LD_congr (d0_fLD h j T) r.2.1, MJ_congr (d0_fMJ h j T) r.2.2.1, ScA_k r.2.2.2.1 (d0_fSk h j T) 0 (by decide) (d0_e14 h j T 0) (mT_1 _ _) (mT_2 _ _), TaR_congr (d0_fTa h j T) r.2.2.2.2.1, PeR_em r.2.2.2.2.2.1 (d0_fEm h j T) hj ?_ ?_ ?_ ?_, PaR_congr (d0_fPa h j T) r.2.2.2.2.2.2.1, RoR_congr (d0_fRo h j T) r.2.2.2.2.2.2.2.1, TrR_congr (d0_fTr h j T) r.2.2.2.2.2.2.2.2.1, LaR_congr (d0_fLa h j T) r.2.2.2.2.2.2.2.2.2.1, CsR_congr (d0_fCs h j T) r.2.2.2.2.2.2.2.2.2.2.1, SR_congr (d0_fSR h j T) r.2.2.2.2.2.2.2.2.2.2.2⟩
  · intro p hp; rw [d0_g7, d0_m3]; by_cases z : p = j; (rw [if_pos z, if_pos z]; exact Or.inr ⟨T, hT, rfl, rfl⟩); (rw [if_neg z, if_neg z]; exact (p1 p hp).2.2.2.2.1)
  · intro p hp; rw [d0_g8, d0_m6, (p1 p hp).2.2.2.2.2.1]
  · intro p hp; rw [d0_g9, d0_m4]; by_cases z : p = j; (rw [if_pos z, z]; exact e8); (rw [if_neg z]; exact (p1 p hp).2.2.2.2.2.2.1)
  · intro p hp; rw [d0_m4, if_neg hp]
theorem RR_d1 {h : Hp} (x : RR h) {j r s T : Nat} (hr : r < cn h 10) (hj : j < cn h 9) (hT : T ≤ 40000) (eT : vi h (0, 0) 13 = nI T) (e1 : vr h (10, r) 1 = some (11, s)) (e2 : vi h (11, s) 1 = nI j) : RR (dyM1 (dyX1 h j r s T) j r s T) := by
  have le := x.1.le
  have p1 := fun p (hp : p < cn h 9) => (x.2.2.2.2.2.1.2.2.1 p hp).1
  have m4 : ∀ p, vi (dyM1 (dyX1 h j r s T) j r s T) (38, 4) p = if p = j then 0 else vi h (38, 4) p := fun p => by rw [d1_m4]; split <;> rfl
  have mj1 : MJ (sI (sI (mZ (dyX1 h j r s T)) (38, 3) j (nI T)) (38, 16) s (nI T)) := MJ_congr (h := h) (Eqv.sI (Eqv.sI (Eqv.sI (Eqv.sI (Eqv.sR (Eqv.sI (Eqv.sI (Eqv.sI (Eqv.sI (Eqv.rf _) Bool.false_ne_true) Bool.false_ne_true) Bool.false_ne_true) Bool.false_ne_true) Bool.false_ne_true) Bool.false_ne_true) Bool.false_ne_true) Bool.false_ne_true) Bool.false_ne_true) x.2.2.1
  have mj2 := MJ_6 (MJ_11 mj1 r) j
  have mj3 : MJ (dyM1 (dyX1 h j r s T) j r s T) := MJ_congr (Eqv.sI (Eqv.sI (Eqv.sI (Eqv.sI (Eqv.rf _) Bool.false_ne_true) Bool.false_ne_true) Bool.false_ne_true) Bool.false_ne_true) mj2
  refine ⟨XI_congrR (d1_fX10 h j r s T) ?_ x.1, LD_congr (d1_fLD h j r s T) x.2.1, mj3, ScA_k x.2.2.2.1 (d1_fSk h j r s T) 0 (by decide) (d1_e14 h j r s T 0) (mT_1 _ _) (mT_2 _ _), TaR_congr (d1_fTa h j r s T) x.2.2.2.2.1, PeR_em x.2.2.2.2.2.1 (d1_fEm h j r s T) hj ?_ ?_ ?_ ?_, PaR_congr (d1_fPa h j r s T) x.2.2.2.2.2.2.1, RoR_em x.2.2.2.2.2.2.2.1 ⟨le.2.2.1, le.2.2.2.1, le.2.1⟩ (d1_fEm h j r s T) hr hj hT eT e1 e2 (d1_g10 h j r s T) (d1_g3 h j r s T) (d1_g8 h j r s T) (d1_g9 h j r s T) (d1_m11 h j r s T) (d1_m16 h j r s T), TrR_congr (d1_fTr h j r s T) x.2.2.2.2.2.2.2.2.1, LaR_congr (d1_fLa h j r s T) x.2.2.2.2.2.2.2.2.2.1, CsR_congr (d1_fCs h j r s T) x.2.2.2.2.2.2.2.2.2.2.1, SR_congr (d1_fSR h j r s T) x.2.2.2.2.2.2.2.2.2.2.2⟩
  · intro r2 hr2 a ha
    rw [d1_g10] at ha
    split at ha
    · cases ha
    · exact x.1.rs r2 hr2 a ha
  · intro p hp; rw [d1_g7, d1_m3]; by_cases z : p = j; (rw [if_pos z, if_pos z]; exact Or.inr ⟨T, hT, rfl, rfl⟩); (rw [if_neg z, if_neg z]; exact (p1 p hp).2.2.2.2.1)
  · intro p hp; rw [d1_g8, d1_m6, (p1 p hp).2.2.2.2.2.1]
  · intro p hp; rw [d1_g9, m4, (p1 p hp).2.2.2.2.2.2.1]
  · intro p hp; rw [m4, if_neg hp]
theorem dyX0_m (h : Hp) (j T : Nat) (f : Nat) (hf : f ≠ 0) : vi (mZ (dyX0 h j T)) (32, 0) f = vi h (32, 0) f := by rw [mZ_v _ _ hf]; unfold dyX0 xT; rw [vi_sI_ne _ _ _ _ (fun z => (by cases z)), vi_sI_ne _ _ _ _ (fun z => (by cases z))]
theorem dyX0_38 (h : Hp) (j T : Nat) (i f : Nat) : vi (mZ (dyX0 h j T)) (38, i) f = vi h (38, i) f := by rw [mZ_o _ _ (fun z => (by cases z))]; unfold dyX0 xT; rw [vi_sI_ne _ _ _ _ (fun z => (by cases z)), vi_sI_ne _ _ _ _ (fun z => (by cases z))]
theorem dyX0_38x (h : Hp) (j T : Nat) (i f : Nat) : vi (dyX0 h j T) (38, i) f = vi h (38, i) f := by unfold dyX0 xT; rw [vi_sI_ne _ _ _ _ (fun z => (by cases z)), vi_sI_ne _ _ _ _ (fun z => (by cases z))]
theorem dyX0_fMJ (h : Hp) (j T : Nat) : Eqv fMJ h (dyX0 h j T) := (Eqv.sI (Eqv.sI (Eqv.rf _) Bool.false_ne_true) Bool.false_ne_true)
theorem dyX1_m (h : Hp) (j r s T : Nat) (f : Nat) (hf : f ≠ 0) : vi (mZ (dyX1 h j r s T)) (32, 0) f = vi h (32, 0) f := by rw [mZ_v _ _ hf]; unfold dyX1 xT; rw [vi_sI_ne _ _ _ _ (fun z => (by cases z)), vi_sR, vi_sI_ne _ _ _ _ (fun z => (by cases z)), vi_sI_ne _ _ _ _ (fun z => (by cases z)), vi_sI_ne _ _ _ _ (fun z => (by cases z)), vi_sI_ne _ _ _ _ (fun z => (by cases z))]
theorem dyX1_38 (h : Hp) (j r s T : Nat) (i f : Nat) : vi (mZ (dyX1 h j r s T)) (38, i) f = vi h (38, i) f := by rw [mZ_o _ _ (fun z => (by cases z))]; unfold dyX1 xT; rw [vi_sI_ne _ _ _ _ (fun z => (by cases z)), vi_sR, vi_sI_ne _ _ _ _ (fun z => (by cases z)), vi_sI_ne _ _ _ _ (fun z => (by cases z)), vi_sI_ne _ _ _ _ (fun z => (by cases z)), vi_sI_ne _ _ _ _ (fun z => (by cases z))]
theorem dyX1_38x (h : Hp) (j r s T : Nat) (i f : Nat) : vi (dyX1 h j r s T) (38, i) f = vi h (38, i) f := by unfold dyX1 xT; rw [vi_sI_ne _ _ _ _ (fun z => (by cases z)), vi_sR, vi_sI_ne _ _ _ _ (fun z => (by cases z)), vi_sI_ne _ _ _ _ (fun z => (by cases z)), vi_sI_ne _ _ _ _ (fun z => (by cases z)), vi_sI_ne _ _ _ _ (fun z => (by cases z))]
theorem dyX1_fMJ (h : Hp) (j r s T : Nat) : Eqv fMJ h (dyX1 h j r s T) := (Eqv.sI (Eqv.sR (Eqv.sI (Eqv.sI (Eqv.sI (Eqv.sI (Eqv.rf _) Bool.false_ne_true) Bool.false_ne_true) Bool.false_ne_true) Bool.false_ne_true) Bool.false_ne_true) Bool.false_ne_true)
set_option maxRecDepth 20000 in
theorem M_dies1 (g : G0) (h : Hp) (i : MJ h) {p : Int32} (no : mPb (mZ h) p = 0) : Mx g yX14_dies wX14_dies 12 [pR (32, 0), pI p] h 0 0 (qE (some (pI 0)) (mT (mZ h) 1)) noX := by
  have hM : SM h := i.1.1
  have hMz : SM (mZ h) := hM
  refine Mx.by kfX14_dies rfl (by decide) (Nat.le_of_ble_eq_true rfl) ?_
  refine v_aload_n dX14_dies_0 rfl ?_
  refine v_iconst (0) dX14_dies_1 (by decide) ?_
  refine v_putI fl_X14_112 (fun z => by cases z) dX14_dies_2 rfl rfl (Nat.le_of_ble_eq_true rfl) rfl rfl (mh_32_0 hM) ?_
  change V g _ _ _ _ _ _ _ (mZ h) _ _
  refine v_aload_n dX14_dies_5 rfl ?_
  refine v_iload_n dX14_dies_6 rfl ?_
  refine v_invVE (M_isPerson g (mZ h) hMz) dX14_dies_7 cwX14_isPerson mlX14_315 (ob_32 _) rfl rfl (by decide) (by decide) (Nat.le_of_ble_eq_true rfl) ?_
  refine v_if_ne 19 dX14_dies_10 (by decide) (fun z => absurd no z) (fun _ => ?_)
  refine v_aload_n dX14_dies_13 rfl ?_
  refine v_iconst (1) dX14_dies_14 (by decide) ?_
  refine v_invVE (M_denied g (mZ h) hMz) dX14_dies_15 cwX14_denied mlX14_361 (ob_32 _) rfl rfl (by decide) (by decide) (Nat.le_of_ble_eq_true rfl) ?_
  refine v_ireturn dX14_dies_18 rfl rfl ?_
  exact ⟨rfl, rfl⟩
set_option maxRecDepth 20000 in
theorem op_dies (g : G0) (h : Hp) (r : RR h) {p : Int32} : Op g h yX11_dies wX11_dies (pR (0, 0) :: [pI p]) yX14_dies wX14_dies (pR (32, 0) :: [pI p]) 8 12 0 0 0 0 := by
  have le := r.1.le
  obtain ⟨T, hT, t1, t2⟩ := r.2.2.2.1.2.2.1
  have hs0 : ∀ h', (∀ i f, vi h' (38, i) f = vi h (38, i) f) → ∀ k q, k < cn h 9 → vi h' (38, 6) k = nI q → q < 20 → ∃ s, s < 100 ∧ vi h' (38, 11) q = nI s := by
    intro h' e k q hk hq q20
    rw [e, ← ((r.2.2.2.2.2.1.2.2.1 k hk).1).2.2.2.2.2.1] at hq
    rcases r.2.2.2.2.2.2.2.1.2.2.2.2.2 k hk with ⟨z1, -⟩ | ⟨r2, s2, hr2, hs2, z1, z2, z3⟩
    · rw [z1] at hq; exact absurd hq.symm (nI_ne1 (by omega))
    · have er : r2 = q := (nI_eq (by omega) (by omega)).mp (z1.symm.trans hq)
      subst er
      rcases (r.2.2.2.2.2.2.2.1.2.2.1 r2 hr2).2.2 with ⟨y1, -⟩ | ⟨s, q, hs, hq2, y1, y2, -⟩
      · rw [y1] at z2; cases z2
      · exact ⟨s, by omega, by rw [e]; exact y2⟩
  by_cases c0 : mPb h p = 0
  · have z : xPer h p = none := by
      cases y : xPer h p with
      | none => rfl
      | some a => obtain ⟨-, -, -, -, w⟩ := xPer_yes (h' := h) r.1 r.2.2.2.2.2.1 rfl y; rw [w] at c0; exact absurd c0 (by decide)
    have eY : mDies (xT h 1) p = (0, mT (mZ (xT h 1)) 1) := by unfold mDies; rw [if_pos (xPer_no (h' := mZ (xT h 1)) r.1 r.2.2.2.2.2.1 rfl z)]
    have K := M_dies1 g (xT h 1) (mj_of r (Eqv.sI (Eqv.rf _) Bool.false_ne_true)) (xPer_no (h' := mZ (xT h 1)) r.1 r.2.2.2.2.2.1 rfl z)
    exact Op.of2 (Y := (0, mT (mZ (xT h 1)) 1)) (0 : Int32) (xT h 1) (mT (mZ (xT h 1)) 1) (by unfold xDies; rw [z]) rfl (m_dies g h r.1) K (RR_ref1 r) rfl
  · cases z : xPer h p with
    | none => exact absurd (xPer_no (h' := h) r.1 r.2.2.2.2.2.1 rfl z) c0
    | some a =>
      obtain ⟨j, rfl, rfl, hj, -⟩ := xPer_yes (h' := h) r.1 r.2.2.2.2.2.1 rfl z
      have ey : ∀ h', vi h' (32, 0) 22 = vi h (32, 0) 22 → ¬ mPb h' (nI j) = 0 := fun h' e => by obtain ⟨-, -, -, -, y⟩ := xPer_yes (h' := h') r.1 r.2.2.2.2.2.1 e z; rw [y]; decide
      have ncj : (nI j).toNatClampNeg = j := nI_clamp (by omega)
      have hsj : ∀ h', (∀ i f, vi h' (38, i) f = vi h (38, i) f) → ∀ k q, nI j = nI k → k < 40 → vi h' (38, 6) k = nI q → q < 20 → ∃ s, s < 100 ∧ vi h' (38, 11) q = nI s := fun h' e k q ek hk => by
        have := (nI_eq (by omega) (by omega)).mp ek
        subst this; exact hs0 h' e j q hj
      have p1 := (r.2.2.2.2.2.1.2.2.1 j hj).1
      rcases p1.2.2.2.2.1 with ⟨d1, d2⟩ | ⟨u, hu, d1, d2⟩
      · rcases r.2.2.2.2.2.2.2.1.2.2.2.2.2 j hj with ⟨z1, z9⟩ | ⟨w, s, hw, hs, z1, z2, z3⟩
        · have eX : xDies h (nI j) = (1, dyX0 h j T) := by
            unfold xDies; rw [z]; show (if vi h (9, j) 7 = 2147483647 then _ else _) = _; rw [if_pos d1]
            have e8 : vi (diH h j) (9, j) 8 = -1 := by unfold diH; rw [vi_sI_nk _ _ _ (by decide)]; exact z1
            have eR : xRoo (diH h j) (vi (diH h j) (9, j) 8) = none := by rw [e8]; rfl
            show ((1 : Int32), xT (xEmpty (diH h j) (xRoo (diH h j) (vi (diH h j) (9, j) 8))) 0) = _
            rw [eR]; unfold diH dyX0; rw [t1]; rfl
          have y3 : vi (mZ (dyX0 h j T)) (38, 3) j = -1 := (dyX0_38 _ _ _ _ _).trans d2
          have y6 : vi (mD1 (mZ (dyX0 h j T)) j) (38, 6) j = -1 := by rw [mD1_o _ _ _ (by decide), dyX0_38]; exact p1.2.2.2.2.2.1.symm.trans z1
          have yT : vi (mZ (dyX0 h j T)) (32, 0) 23 = nI T := (dyX0_m _ _ _ _ (by decide)).trans t2
          have eY : mDies (dyX0 h j T) (nI j) = (1, dyM0 (dyX0 h j T) j T) := by
            unfold mDies; rw [if_neg (ey _ (dyX0_m _ _ _ _ (by decide))), ncj]; unfold mDi; rw [if_pos y3, if_pos y6]; unfold mD1 dyM0; rw [yT]
          exact Op.of2 _ _ _ eX eY (m_dies g h r.1) (M_dies2 g _ (mj_of r (dyX0_fMJ h j T)) (hsj _ (dyX0_38x h j T))) (RR_d0 r hj hT z9) (d0_cn h j T)
        · rcases (r.2.2.2.2.2.2.2.1.2.2.1 w hw).2.2 with ⟨y1, -⟩ | ⟨s', q, hs', hq, y1, y2, y3, y4, y5, y6⟩
          · rw [y1] at z2; cases z2
          rw [z2] at y1; cases y1
          have ncw : (nI w).toNatClampNeg = w := nI_clamp (by omega)
          have ncs : (nI s).toNatClampNeg = s := nI_clamp (by omega)
          have eX : xDies h (nI j) = (1, dyX1 h j w s T) := by
            unfold xDies; rw [z]; show (if vi h (9, j) 7 = 2147483647 then _ else _) = _; rw [if_pos d1]
            have e8 : vi (diH h j) (9, j) 8 = nI w := by unfold diH; rw [vi_sI_nk _ _ _ (by decide)]; exact z1
            have eR : xRoo (diH h j) (vi (diH h j) (9, j) 8) = some (10, w) := by rw [e8]; exact xRoo_in (XIdi r.1 j) hw
            have e1 : vr (diH h j) (10, w) 1 = some (11, s) := z2
            have e5 : vi (diH h j) (11, s) 1 = nI j := by unfold diH; rw [vi_sI_ne _ _ _ _ (fun z => (by cases z))]; exact z3
            have e13 : vi (diH h j) (0, 0) 13 = nI T := by unfold diH; rw [vi_sI_ne _ _ _ _ (fun z => (by cases z))]; exact t1
            show ((1 : Int32), xT (xEmpty (diH h j) (xRoo (diH h j) (vi (diH h j) (9, j) 8))) 0) = _
            rw [eR]; show ((1 : Int32), xT (match vr (diH h j) (10, w) 1 with | none => diH h j | some s => xEmp1 (diH h j) (10, w) s) 0) = _
            rw [e1]; show ((1 : Int32), xT (xEmp1 (diH h j) (10, w) (11, s)) 0) = _
            unfold xEmp1 dyX1; rw [e5, ncj, e13]; unfold diH; rw [t1]
          have w3 : vi (mZ (dyX1 h j w s T)) (38, 3) j = -1 := (dyX1_38 _ _ _ _ _ _ _).trans d2
          have w6 : vi (mZ (dyX1 h j w s T)) (38, 6) j = nI w := (dyX1_38 _ _ _ _ _ _ _).trans (p1.2.2.2.2.2.1.symm.trans z1)
          have w6' : ¬ vi (mD1 (mZ (dyX1 h j w s T)) j) (38, 6) j = -1 := by rw [mD1_o _ _ _ (by decide), w6]; exact nI_ne1 (by omega)
          have w11 : vi (mZ (dyX1 h j w s T)) (38, 11) w = nI s := (dyX1_38 _ _ _ _ _ _ _).trans y2
          have w14 : vi (mZ (dyX1 h j w s T)) (38, 14) s = nI j := (dyX1_38 _ _ _ _ _ _ _).trans ((r.2.2.2.2.2.2.2.1.2.2.2.1 s hs).2.1.symm.trans z3)
          have yT : vi (mZ (dyX1 h j w s T)) (32, 0) 23 = nI T := (dyX1_m _ _ _ _ _ _ (by decide)).trans t2
          have yT2 : vi (mD1 (mZ (dyX1 h j w s T)) j) (32, 0) 23 = nI T := by rw [mD1_o _ _ _ (by decide)]; exact yT
          have eY : mDies (dyX1 h j w s T) (nI j) = (1, dyM1 (dyX1 h j w s T) j w s T) := by
            unfold mDies; rw [if_neg (ey _ (dyX1_m _ _ _ _ _ _ (by decide))), ncj]; unfold mDi; rw [if_pos w3, if_neg w6', w6, ncw, w11, ncs, w14, ncj]; unfold mEnH; rw [yT2]; unfold mD1 dyM1; rw [yT]
          exact Op.of2 _ _ _ eX eY (m_dies g h r.1) (M_dies2 g _ (mj_of r (dyX1_fMJ h j w s T)) (hsj _ (dyX1_38x h j w s T))) (RR_d1 r hw hj hT t1 z2 z3) (d1_cn h j w s T)
      · have nd : ¬ vi h (9, j) 7 = 2147483647 := by rw [d1]; exact fun y => by have := (nI_eq (a := u) (b := 2147483647) (by omega) (by decide)).mp y; omega
        have eX : xDies h (nI j) = (0, xT h 5) := by unfold xDies; rw [z]; show (if vi h (9, j) 7 = 2147483647 then _ else _) = _; rw [if_neg nd]
        have eY : mDies (xT h 5) (nI j) = (0, mT (mZ (xT h 5)) 5) := by unfold mDies; rw [if_neg (ey (mZ (xT h 5)) rfl), ncj]; unfold mDi; rw [show vi (mZ (xT h 5)) (38, 3) j = nI u from d2, if_neg (nI_ne1 (by omega))]
        exact Op.of2 _ _ _ eX eY (m_dies g h r.1) (M_dies2 g _ (mj_of (h' := xT h 5) r (Eqv.sI (Eqv.rf _) Bool.false_ne_true)) (hsj _ (fun i f => rfl))) (RR_ref5 r) rfl
