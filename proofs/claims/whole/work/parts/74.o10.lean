theorem ALs_add {hp h2 : Hp} {j : Nat} (ld : LD hp) (f : AddF hp h2 j) {j' q n : Nat} (hj' : j' < 5) (hj : j < 5) (ne : j' ≠ j) (a : AL hp j' q n) : AL h2 j' q n := AL_add a ne (fun e z1 z2 => ne (ld.2 j' j e hj' hj z1 z2)) f
def fN (Z : Nat) : Fpt := (fun p => !(p == 16) && !(p == Z), fun p => !(p == 16) && !(p == Z), fun p => !(p == 16) && !(p == 7) && !(p == Z), fun p => !(p == 16) && !(p == Z), fun p i f => !(p == 16) && !(p == 7) && !(p == Z))
theorem Op.add {g : G0} {h : Hp} {yx : MethodName} {wx : Cond} {A : List PV} {ym : MethodName} {wm : Cond} {B : List PV} {dx dm mc ms : Nat} (Q : Hp → Prop) (v : Int32) (hx : Mx g yx wx dx A h mc ms (fun r h1 => r = some (pI v) ∧ Q h1) noX) (hm : ∀ h1, Q h1 → ∃ Y : Int32 × Hp, Mx g ym wm dm B h1 0 0 (qE (some (pI Y.1)) Y.2) noX ∧ Y.1 = v ∧ RR Y.2 ∧ potC Y.2 + mc ≤ potC h ∧ potS Y.2 + ms ≤ potS h) : Op g h yx wx A ym wm B dx dm mc ms 0 0 := by
  refine Mx.mono ?_ (fun _ _ z => z) hx
  rintro r h1 ⟨rfl, q⟩
  obtain ⟨Y, k1, k2, k3, k4, k5⟩ := hm h1 q
  refine ⟨v, rfl, Mx.mono ?_ (fun _ _ z => z) k1⟩
  rintro r h2 ⟨rfl, rfl⟩
  exact ⟨by rw [k2], k3, k4, k5⟩
theorem Op.wide {g : G0} {h : Hp} {yx : MethodName} {wx : Cond} {A : List PV} {ym : MethodName} {wm : Cond} {B : List PV} {dx dm : Nat} (o : Op g h yx wx A ym wm B dx dm 0 0 0 0) : Op g h yx wx A ym wm B dx dm 0 0 0 0 := o
theorem AddF.vi7 {h h' : Hp} {j : Nat} (f : AddF h h' j) {p i k : Nat} (h7 : p ≠ 7) (h16 : p ≠ 16) : vi h' (p, i) k = vi h (p, i) k := f.2.2.2.1 (p, i) k (fun z => h7 (by cases z; rfl)) h16
theorem AddF.vr7 {h h' : Hp} {j : Nat} (f : AddF h h' j) {p i k : Nat} (h7 : p ≠ 7) (h16 : p ≠ 16) : vr h' (p, i) k = vr h (p, i) k := f.2.2.2.2.2.1 (p, i) k h16 (fun z => h7 (by cases z; rfl))
/-! a room -/
def rmM (h2 : Hp) (n : Nat) (w : Int32) : Hp := mT (sI (sI (sI (sI (mZ (xT h2 0)) (38, 10) n w) (38, 11) n (-1)) (38, 12) n (-2)) (32, 0) 36 (nI (n + 1))) 0
theorem roN_10 (h : Hp) (w : Int32) (p f : Nat) : vi (roN h w) (10, p) f = if p = cn h 10 then (if f = 0 then w else if f = 2 then -2 else 0) else vi h (10, p) f := by
  unfold roN ro1
  by_cases z : p = cn h 10
  · subst z
    rw [if_pos rfl]
    by_cases f0 : f = 0
    · rw [f0, vi_sI_eq, if_pos rfl]
    · rw [vi_sI_nk _ _ _ f0, if_neg f0]
      by_cases f2 : f = 2
      · rw [f2, vi_sI_eq, if_pos rfl]
      · rw [vi_sI_nk _ _ _ f2, if_neg f2, vi_nw, if_pos rfl]
  · have n : ((10, p) : Ad) ≠ (10, cn h 10) := fun y => z (by cases y; rfl)
    rw [if_neg z, vi_sI_ne _ _ _ _ n, vi_sI_ne _ _ _ _ n, vi_nw, if_neg n]
theorem roN_r (h : Hp) (w : Int32) (p f : Nat) : vr (roN h w) (10, p) f = if p = cn h 10 then none else vr h (10, p) f := by
  unfold roN ro1
  rw [vr_sI, vr_sI, vr_nw]
  by_cases z : p = cn h 10
  · rw [if_pos z, if_pos (by rw [z])]
  · rw [if_neg z, if_neg (fun y => z (by cases y; rfl))]
theorem roN_cn (h : Hp) (w : Int32) : cn (roN h w) 10 = cn h 10 + 1 := by unfold roN ro1; rw [cn_sI, cn_sI, cn_nw, if_pos rfl]
theorem MJ_36 {h : Hp} (m : MJ h) {t : Nat} (ht : t ≤ 20) : MJ (sI h (32, 0) 36 (nI t)) :=
  ⟨⟨m.1.1, m.1.2.1, ⟨t, ht, rfl⟩, m.1.2.2.2.1, m.1.2.2.2.2.1, m.1.2.2.2.2.2⟩, m.2.1, m.2.2.1, m.2.2.2.1, m.2.2.2.2⟩
theorem MJ_48 {h : Hp} (m : MJ h) {t : Nat} (ht : t ≤ 10) : MJ (sI h (32, 0) 48 (nI t)) :=
  ⟨⟨m.1.1, m.1.2.1, m.1.2.2.1, m.1.2.2.2.1, m.1.2.2.2.2.1, ⟨t, ht, rfl⟩⟩, m.2.1, m.2.2.1, m.2.2.2.1, m.2.2.2.2⟩
theorem rm_10 (h2 : Hp) (n : Nat) (w : Int32) (p : Nat) : vi (rmM h2 n w) (38, 10) p = if p = n then w else vi h2 (38, 10) p := by unfold rmM mT mZ xT; rw [vi_sI_ne _ _ _ _ (fun z => (by cases z)), vi_sI_ne _ _ _ _ (fun z => (by cases z)), vi_sI_ne _ _ _ _ (fun z => (by cases z)), vi_sI_ne _ _ _ _ (fun z => (by cases z)), vi_sI_ne _ _ _ _ (fun z => (by cases z)), vi_sI, upB, vi_sI_ne _ _ _ _ (fun z => (by cases z)), vi_sI_ne _ _ _ _ (fun z => (by cases z))]
theorem rm_11 (h2 : Hp) (n : Nat) (w : Int32) (p : Nat) : vi (rmM h2 n w) (38, 11) p = if p = n then -1 else vi h2 (38, 11) p := by unfold rmM mT mZ xT; rw [vi_sI_ne _ _ _ _ (fun z => (by cases z)), vi_sI_ne _ _ _ _ (fun z => (by cases z)), vi_sI_ne _ _ _ _ (fun z => (by cases z)), vi_sI_ne _ _ _ _ (fun z => (by cases z)), vi_sI, upB, vi_sI_ne _ _ _ _ (fun z => (by cases z)), vi_sI_ne _ _ _ _ (fun z => (by cases z)), vi_sI_ne _ _ _ _ (fun z => (by cases z))]
theorem rm_12 (h2 : Hp) (n : Nat) (w : Int32) (p : Nat) : vi (rmM h2 n w) (38, 12) p = if p = n then -2 else vi h2 (38, 12) p := by unfold rmM mT mZ xT; rw [vi_sI_ne _ _ _ _ (fun z => (by cases z)), vi_sI_ne _ _ _ _ (fun z => (by cases z)), vi_sI_ne _ _ _ _ (fun z => (by cases z)), vi_sI, upB, vi_sI_ne _ _ _ _ (fun z => (by cases z)), vi_sI_ne _ _ _ _ (fun z => (by cases z)), vi_sI_ne _ _ _ _ (fun z => (by cases z)), vi_sI_ne _ _ _ _ (fun z => (by cases z))]
theorem rm_14 (h2 : Hp) (n : Nat) (w : Int32) (p : Nat) : vi (rmM h2 n w) (0, 0) 14 = 0 := by unfold rmM mT mZ xT; rw [vi_sI_ne _ _ _ _ (fun z => (by cases z)), vi_sI_ne _ _ _ _ (fun z => (by cases z)), vi_sI_ne _ _ _ _ (fun z => (by cases z)), vi_sI_ne _ _ _ _ (fun z => (by cases z)), vi_sI_ne _ _ _ _ (fun z => (by cases z)), vi_sI_ne _ _ _ _ (fun z => (by cases z)), vi_sI_ne _ _ _ _ (fun z => (by cases z)), vi_sI_eq]
theorem rm_36 (h2 : Hp) (n : Nat) (w : Int32) (p : Nat) : vi (rmM h2 n w) (32, 0) 36 = nI (n + 1) := by unfold rmM mT mZ xT; rw [vi_sI_nk _ _ _ (by decide), vi_sI_nk _ _ _ (by decide), vi_sI_eq]
def fRn : Fpt := (fun p => p == 9 || p == 11, fun _ => false, fun _ => false, fun _ => false, fun p i f => p == 11 || (p == 9 && (f == 8 || f == 9)) || (p == 0 && f == 13) || (p == 38 && Nat.ble 13 i && Nat.ble i 16) || (p == 32 && f == 37))
def f10 : Fpt := (fun _ => false, fun _ => false, fun p => p == 10, fun _ => false, fun p i f => p == 10)
theorem RR_room {h h2 : Hp} (r : RR h) {w : Int32} (hc : cn h 10 < 20) (f : AddF (roN h w) h2 2) (al : AL h2 2 10 (cn h 10 + 1)) : RR (rmM h2 (cn h 10) w) := by
  have x := r.1
  have le := x.le
  have ld1 : LD (roN h w) := LDsI (LDsI (LDnw r.2.1 (by decide) (by decide)))
  have e1 : Eqv (fN 10) h h2 := (Eqv.add (show Eqv (fN 10) h (roN h w) from (Eqv.sI (Eqv.sI (Eqv.nw (Eqv.rf h) Bool.false_ne_true Bool.false_ne_true Bool.false_ne_true Bool.false_ne_true (fun _ _ => Bool.false_ne_true)) Bool.false_ne_true) Bool.false_ne_true)) f Bool.false_ne_true Bool.false_ne_true ⟨Bool.false_ne_true, Bool.false_ne_true⟩ Bool.false_ne_true (fun _ _ => Bool.false_ne_true) (fun _ _ => Bool.false_ne_true))
  have c10 : cn h2 10 = cn h 10 + 1 := (f.1 10 (by decide)).trans (roN_cn h w)
  have c8 : cn h2 8 = cn h 8 := e1.1 8 rfl
  have c9 : cn h2 9 = cn h 9 := e1.1 9 rfl
  have c11 : cn h2 11 = cn h 11 := e1.1 11 rfl
  have c12 : cn h2 12 = cn h 12 := e1.1 12 rfl
  have c17 : cn h2 17 = cn h 17 := e1.1 17 rfl
  have c18 : cn h2 18 = cn h 18 := e1.1 18 rfl
  have c19 : cn h2 19 = cn h 19 := e1.1 19 rfl
  have r10 : ∀ p, vr h2 (10, p) 1 = if p = cn h 10 then none else vr h (10, p) 1 := fun p => by rw [f.vr7 (by decide) (by decide), roN_r]
  have v10 : ∀ p k, vi h2 (10, p) k = if p = cn h 10 then (if k = 0 then w else if k = 2 then -2 else 0) else vi h (10, p) k := fun p k => by rw [f.vi7 (by decide) (by decide), roN_10]
  have xi : XI h2 := by
    refine ⟨SX_add f (SXro x.1), ⟨by rw [c8]; exact ALs_add ld1 f (by decide) (by decide) (by decide) (ALro x.a0), by rw [c9]; exact ALs_add ld1 f (by decide) (by decide) (by decide) (ALro x.a1), by rw [c10]; exact al, by rw [c11]; exact ALs_add ld1 f (by decide) (by decide) (by decide) (ALro x.a3), by rw [c12]; exact ALs_add ld1 f (by decide) (by decide) (by decide) (ALro x.a4)⟩, ?_, ?_, by rw [c17, c8, c18, c19, c9]; exact x.2.2.2.2.1, by rw [c8, c9, c10, c11, c12]; omega, ?_, ?_, by rw [e1.2.2.2.2 5 0 1 rfl]; exact x.tr⟩
    · intro p hp; rw [c9] at hp; rw [c18, c19, e1.2.1 18 p rfl, e1.2.1 19 p rfl, e1.2.2.1 9 p 4 rfl, e1.2.2.1 9 p 5 rfl, e1.2.2.2.2 9 p 6 rfl]; exact x.ps p hp
    · intro c hc; rw [c8] at hc; rw [c17, e1.2.1 17 c rfl, e1.2.2.1 8 c 5 rfl, e1.2.2.2.2 8 c 4 rfl]; exact x.cs c hc
    · intro q hq a ha
      rw [c10] at hq; rw [r10] at ha; rw [c11]
      by_cases z : q = cn h 10
      · rw [if_pos z] at ha; cases ha
      · rw [if_neg z] at ha; exact x.rs q (by omega) a ha
    · intro s hs; rw [c11] at hs; rw [c9, e1.2.2.2.2 11 s 1 rfl]; exact x.ss s hs
  have mj0 : MJ (sI (mZ (xT h2 0)) (38, 10) (cn h 10) w) := MJ_congr (h := h) ((show Eqv fMJ h h2 from (Eqv.add (show Eqv fMJ h (roN h w) from (Eqv.sI (Eqv.sI (Eqv.nw (Eqv.rf h) Bool.false_ne_true Bool.false_ne_true Bool.false_ne_true Bool.false_ne_true (fun _ _ => Bool.false_ne_true)) Bool.false_ne_true) Bool.false_ne_true)) f Bool.false_ne_true Bool.false_ne_true ⟨Bool.false_ne_true, Bool.false_ne_true⟩ Bool.false_ne_true (fun _ _ => Bool.false_ne_true) (fun _ _ => Bool.false_ne_true))).tr (show Eqv fMJ h2 (sI (mZ (xT h2 0)) (38, 10) (cn h 10) w) from (Eqv.sI (Eqv.sI (Eqv.sI (Eqv.rf _) Bool.false_ne_true) Bool.false_ne_true) Bool.false_ne_true))) r.2.2.1
  have mj1 : MJ (sI (sI (sI (mZ (xT h2 0)) (38, 10) (cn h 10) w) (38, 11) (cn h 10) (-1)) (38, 12) (cn h 10) (-2)) := MJ_congr (Eqv.sI (Eqv.rf _) Bool.false_ne_true) (MJ_11 mj0 (cn h 10))
  have mj : MJ (rmM h2 (cn h 10) w) := MJ_congr (Eqv.sI (Eqv.sI (Eqv.rf _) Bool.false_ne_true) Bool.false_ne_true) (MJ_36 mj1 (t := cn h 10 + 1) (by omega))
  have ro := r.2.2.2.2.2.2.2.1
  have er : Eqv fRn h (rmM h2 (cn h 10) w) := ((show Eqv fRn h h2 from (Eqv.add (show Eqv fRn h (roN h w) from (Eqv.sI (Eqv.sI (Eqv.nw (Eqv.rf h) Bool.false_ne_true Bool.false_ne_true Bool.false_ne_true Bool.false_ne_true (fun _ _ => Bool.false_ne_true)) Bool.false_ne_true) Bool.false_ne_true)) f Bool.false_ne_true Bool.false_ne_true ⟨Bool.false_ne_true, Bool.false_ne_true⟩ Bool.false_ne_true (fun _ _ => Bool.false_ne_true) (fun _ _ => Bool.false_ne_true))).tr (show Eqv fRn h2 (rmM h2 (cn h 10) w) from (Eqv.sI (Eqv.sI (Eqv.sI (Eqv.sI (Eqv.sI (Eqv.sI (Eqv.sI (Eqv.sI (Eqv.rf _) Bool.false_ne_true) Bool.false_ne_true) Bool.false_ne_true) Bool.false_ne_true) Bool.false_ne_true) Bool.false_ne_true) Bool.false_ne_true) Bool.false_ne_true)))
  have h10 : ∀ p k, vi (rmM h2 (cn h 10) w) (10, p) k = vi h2 (10, p) k := fun p k => (show Eqv f10 h2 (rmM h2 (cn h 10) w) from (Eqv.sI (Eqv.sI (Eqv.sI (Eqv.sI (Eqv.sI (Eqv.sI (Eqv.sI (Eqv.sI (Eqv.rf _) Bool.false_ne_true) Bool.false_ne_true) Bool.false_ne_true) Bool.false_ne_true) Bool.false_ne_true) Bool.false_ne_true) Bool.false_ne_true) Bool.false_ne_true)).2.2.2.2 10 p k rfl
  have k10 : ∀ p, vr (rmM h2 (cn h 10) w) (10, p) 1 = vr h2 (10, p) 1 := fun p => (show Eqv f10 h2 (rmM h2 (cn h 10) w) from (Eqv.sI (Eqv.sI (Eqv.sI (Eqv.sI (Eqv.sI (Eqv.sI (Eqv.sI (Eqv.sI (Eqv.rf _) Bool.false_ne_true) Bool.false_ne_true) Bool.false_ne_true) Bool.false_ne_true) Bool.false_ne_true) Bool.false_ne_true) Bool.false_ne_true) Bool.false_ne_true)).2.2.1 10 p 1 rfl
  have k38 : ∀ i p, vi h2 (38, i) p = vi h (38, i) p := fun i p => e1.2.2.2.2 38 i p rfl
  have d10 : cn (rmM h2 (cn h 10) w) 10 = cn h 10 + 1 := ((show Eqv fCn h2 (rmM h2 (cn h 10) w) from (Eqv.sI (Eqv.sI (Eqv.sI (Eqv.sI (Eqv.sI (Eqv.sI (Eqv.sI (Eqv.sI (Eqv.rf _) Bool.false_ne_true) Bool.false_ne_true) Bool.false_ne_true) Bool.false_ne_true) Bool.false_ne_true) Bool.false_ne_true) Bool.false_ne_true) Bool.false_ne_true)).1 10 rfl).trans c10
  have d11 : cn (rmM h2 (cn h 10) w) 11 = cn h 11 := er.1 11 rfl
  have d9 : cn (rmM h2 (cn h 10) w) 9 = cn h 9 := er.1 9 rfl
  refine ⟨XI_congr (Eqv.sI (Eqv.sI (Eqv.sI (Eqv.sI (Eqv.sI (Eqv.sI (Eqv.sI (Eqv.sI (Eqv.rf _) Bool.false_ne_true) Bool.false_ne_true) Bool.false_ne_true) Bool.false_ne_true) Bool.false_ne_true) Bool.false_ne_true) Bool.false_ne_true) Bool.false_ne_true) xi, LD_congr (Eqv.sI (Eqv.sI (Eqv.sI (Eqv.sI (Eqv.sI (Eqv.sI (Eqv.sI (Eqv.sI (Eqv.rf _) Bool.false_ne_true) Bool.false_ne_true) Bool.false_ne_true) Bool.false_ne_true) Bool.false_ne_true) Bool.false_ne_true) Bool.false_ne_true) Bool.false_ne_true) (LD_add ld1 f al), mj, ScA_k r.2.2.2.1 ((show Eqv fSk h h2 from (Eqv.add (show Eqv fSk h (roN h w) from (Eqv.sI (Eqv.sI (Eqv.nw (Eqv.rf h) Bool.false_ne_true Bool.false_ne_true Bool.false_ne_true Bool.false_ne_true (fun _ _ => Bool.false_ne_true)) Bool.false_ne_true) Bool.false_ne_true)) f Bool.false_ne_true Bool.false_ne_true ⟨Bool.false_ne_true, Bool.false_ne_true⟩ Bool.false_ne_true (fun _ _ => Bool.false_ne_true) (fun _ _ => Bool.false_ne_true))).tr (show Eqv fSk h2 (rmM h2 (cn h 10) w) from (Eqv.sI (Eqv.sI (Eqv.sI (Eqv.sI (Eqv.sI (Eqv.sI (Eqv.sI (Eqv.sI (Eqv.rf _) Bool.false_ne_true) Bool.false_ne_true) Bool.false_ne_true) Bool.false_ne_true) Bool.false_ne_true) Bool.false_ne_true) Bool.false_ne_true) Bool.false_ne_true))) 0 (by decide) (rm_14 _ _ _ 0) (mT_1 _ _) (mT_2 _ _), TaR_congr ((show Eqv fTa h h2 from (Eqv.add (show Eqv fTa h (roN h w) from (Eqv.sI (Eqv.sI (Eqv.nw (Eqv.rf h) Bool.false_ne_true Bool.false_ne_true Bool.false_ne_true Bool.false_ne_true (fun _ _ => Bool.false_ne_true)) Bool.false_ne_true) Bool.false_ne_true)) f Bool.false_ne_true Bool.false_ne_true ⟨Bool.false_ne_true, Bool.false_ne_true⟩ Bool.false_ne_true (fun _ _ => Bool.false_ne_true) (fun _ _ => Bool.false_ne_true))).tr (show Eqv fTa h2 (rmM h2 (cn h 10) w) from (Eqv.sI (Eqv.sI (Eqv.sI (Eqv.sI (Eqv.sI (Eqv.sI (Eqv.sI (Eqv.sI (Eqv.rf _) Bool.false_ne_true) Bool.false_ne_true) Bool.false_ne_true) Bool.false_ne_true) Bool.false_ne_true) Bool.false_ne_true) Bool.false_ne_true) Bool.false_ne_true))) r.2.2.2.2.1, PeR_congr ((show Eqv fPe h h2 from (Eqv.add (show Eqv fPe h (roN h w) from (Eqv.sI (Eqv.sI (Eqv.nw (Eqv.rf h) Bool.false_ne_true Bool.false_ne_true Bool.false_ne_true Bool.false_ne_true (fun _ _ => Bool.false_ne_true)) Bool.false_ne_true) Bool.false_ne_true)) f Bool.false_ne_true Bool.false_ne_true ⟨Bool.false_ne_true, Bool.false_ne_true⟩ Bool.false_ne_true (fun _ _ => Bool.false_ne_true) (fun _ _ => Bool.false_ne_true))).tr (show Eqv fPe h2 (rmM h2 (cn h 10) w) from (Eqv.sI (Eqv.sI (Eqv.sI (Eqv.sI (Eqv.sI (Eqv.sI (Eqv.sI (Eqv.sI (Eqv.rf _) Bool.false_ne_true) Bool.false_ne_true) Bool.false_ne_true) Bool.false_ne_true) Bool.false_ne_true) Bool.false_ne_true) Bool.false_ne_true) Bool.false_ne_true))) r.2.2.2.2.2.1, PaR_congr ((show Eqv fPa h h2 from (Eqv.add (show Eqv fPa h (roN h w) from (Eqv.sI (Eqv.sI (Eqv.nw (Eqv.rf h) Bool.false_ne_true Bool.false_ne_true Bool.false_ne_true Bool.false_ne_true (fun _ _ => Bool.false_ne_true)) Bool.false_ne_true) Bool.false_ne_true)) f Bool.false_ne_true Bool.false_ne_true ⟨Bool.false_ne_true, Bool.false_ne_true⟩ Bool.false_ne_true (fun _ _ => Bool.false_ne_true) (fun _ _ => Bool.false_ne_true))).tr (show Eqv fPa h2 (rmM h2 (cn h 10) w) from (Eqv.sI (Eqv.sI (Eqv.sI (Eqv.sI (Eqv.sI (Eqv.sI (Eqv.sI (Eqv.sI (Eqv.rf _) Bool.false_ne_true) Bool.false_ne_true) Bool.false_ne_true) Bool.false_ne_true) Bool.false_ne_true) Bool.false_ne_true) Bool.false_ne_true) Bool.false_ne_true))) r.2.2.2.2.2.2.1, ?_, TrR_congr ((show Eqv fTr h h2 from (Eqv.add (show Eqv fTr h (roN h w) from (Eqv.sI (Eqv.sI (Eqv.nw (Eqv.rf h) Bool.false_ne_true Bool.false_ne_true Bool.false_ne_true Bool.false_ne_true (fun _ _ => Bool.false_ne_true)) Bool.false_ne_true) Bool.false_ne_true)) f Bool.false_ne_true Bool.false_ne_true ⟨Bool.false_ne_true, Bool.false_ne_true⟩ Bool.false_ne_true (fun _ _ => Bool.false_ne_true) (fun _ _ => Bool.false_ne_true))).tr (show Eqv fTr h2 (rmM h2 (cn h 10) w) from (Eqv.sI (Eqv.sI (Eqv.sI (Eqv.sI (Eqv.sI (Eqv.sI (Eqv.sI (Eqv.sI (Eqv.rf _) Bool.false_ne_true) Bool.false_ne_true) Bool.false_ne_true) Bool.false_ne_true) Bool.false_ne_true) Bool.false_ne_true) Bool.false_ne_true) Bool.false_ne_true))) r.2.2.2.2.2.2.2.2.1, LaR_congr ((show Eqv fLa h h2 from (Eqv.add (show Eqv fLa h (roN h w) from (Eqv.sI (Eqv.sI (Eqv.nw (Eqv.rf h) Bool.false_ne_true Bool.false_ne_true Bool.false_ne_true Bool.false_ne_true (fun _ _ => Bool.false_ne_true)) Bool.false_ne_true) Bool.false_ne_true)) f Bool.false_ne_true Bool.false_ne_true ⟨Bool.false_ne_true, Bool.false_ne_true⟩ Bool.false_ne_true (fun _ _ => Bool.false_ne_true) (fun _ _ => Bool.false_ne_true))).tr (show Eqv fLa h2 (rmM h2 (cn h 10) w) from (Eqv.sI (Eqv.sI (Eqv.sI (Eqv.sI (Eqv.sI (Eqv.sI (Eqv.sI (Eqv.sI (Eqv.rf _) Bool.false_ne_true) Bool.false_ne_true) Bool.false_ne_true) Bool.false_ne_true) Bool.false_ne_true) Bool.false_ne_true) Bool.false_ne_true) Bool.false_ne_true))) r.2.2.2.2.2.2.2.2.2.1, CsR_congr ((show Eqv fCs h h2 from (Eqv.add (show Eqv fCs h (roN h w) from (Eqv.sI (Eqv.sI (Eqv.nw (Eqv.rf h) Bool.false_ne_true Bool.false_ne_true Bool.false_ne_true Bool.false_ne_true (fun _ _ => Bool.false_ne_true)) Bool.false_ne_true) Bool.false_ne_true)) f Bool.false_ne_true Bool.false_ne_true ⟨Bool.false_ne_true, Bool.false_ne_true⟩ Bool.false_ne_true (fun _ _ => Bool.false_ne_true) (fun _ _ => Bool.false_ne_true))).tr (show Eqv fCs h2 (rmM h2 (cn h 10) w) from (Eqv.sI (Eqv.sI (Eqv.sI (Eqv.sI (Eqv.sI (Eqv.sI (Eqv.sI (Eqv.sI (Eqv.rf _) Bool.false_ne_true) Bool.false_ne_true) Bool.false_ne_true) Bool.false_ne_true) Bool.false_ne_true) Bool.false_ne_true) Bool.false_ne_true) Bool.false_ne_true))) r.2.2.2.2.2.2.2.2.2.2.1, SR_congr ((show Eqv fSR h h2 from (Eqv.add (show Eqv fSR h (roN h w) from (Eqv.sI (Eqv.sI (Eqv.nw (Eqv.rf h) Bool.false_ne_true Bool.false_ne_true Bool.false_ne_true Bool.false_ne_true (fun _ _ => Bool.false_ne_true)) Bool.false_ne_true) Bool.false_ne_true)) f Bool.false_ne_true Bool.false_ne_true ⟨Bool.false_ne_true, Bool.false_ne_true⟩ Bool.false_ne_true (fun _ _ => Bool.false_ne_true) (fun _ _ => Bool.false_ne_true))).tr (show Eqv fSR h2 (rmM h2 (cn h 10) w) from (Eqv.sI (Eqv.sI (Eqv.sI (Eqv.sI (Eqv.sI (Eqv.sI (Eqv.sI (Eqv.sI (Eqv.rf _) Bool.false_ne_true) Bool.false_ne_true) Bool.false_ne_true) Bool.false_ne_true) Bool.false_ne_true) Bool.false_ne_true) Bool.false_ne_true) Bool.false_ne_true))) r.2.2.2.2.2.2.2.2.2.2.2⟩
  obtain ⟨x1, x2, x3, x4, x5, x6⟩ := ro
  have v := er.2.2.2.2
  refine ⟨by rw [rm_36 _ _ _ 0, d10], by rw [v 32 0 37 rfl, d11]; exact x2, fun q hq => ?_, fun s hs => ?_, fun s s' hss hs' z => ?_, fun p hp => ?_⟩
  · rw [d10] at hq
    by_cases z : q = cn h 10
    · refine ⟨by rw [h10, v10, if_pos z, if_pos rfl, rm_10, if_pos z], by rw [h10, v10, if_pos z, if_neg (by decide), if_pos rfl, rm_12, if_pos z], Or.inl ⟨by rw [k10, r10, if_pos z], by rw [rm_11, if_pos z]⟩⟩
    · obtain ⟨y1, y2, y3⟩ := x3 q (by omega)
      refine ⟨by rw [h10, v10, if_neg z, rm_10, if_neg z, k38]; exact y1, by rw [h10, v10, if_neg z, rm_12, if_neg z, k38]; exact y2, ?_⟩
      rw [k10, r10, if_neg z, rm_11, if_neg z, k38, d11, d9]
      rcases y3 with y | ⟨s, p, y1, y2, y3, y4, y5, y6, y7, y8⟩
      · exact Or.inl y
      · exact Or.inr ⟨s, p, y1, y2, y3, y4, by rw [v 11 s 0 rfl]; exact y5, by rw [v 11 s 3 rfl]; exact y6, by rw [v 11 s 1 rfl]; exact y7, by rw [v 9 p 8 rfl]; exact y8⟩
  · rw [d11] at hs
    obtain ⟨y1, y2, y3, ⟨ra, hra, era⟩, y5, y6⟩ := x4 s hs
    refine ⟨by rw [v 11 s 0 rfl, v 38 13 s rfl]; exact y1, by rw [v 11 s 1 rfl, v 38 14 s rfl]; exact y2, by rw [v 11 s 2 rfl, v 38 15 s rfl]; exact y3, ⟨ra, by rw [d10]; omega, by rw [v 11 s 0 rfl]; exact era⟩, by rw [v 11 s 2 rfl, v 0 0 13 rfl]; exact y5, ?_⟩
    rw [v 11 s 3 rfl, v 38 16 s rfl, v 11 s 0 rfl, v 0 0 13 rfl, d10]
    rcases y6 with ⟨z1, z2, q, hq, z3, z4⟩ | z
    · exact Or.inl ⟨z1, z2, q, by omega, z3, by rw [k10, r10, if_neg (by omega)]; exact z4⟩
    · exact Or.inr z
  · rw [d11] at hs'; rw [v 11 s 0 rfl, v 11 s' 0 rfl] at z; rw [v 11 s 3 rfl, v 11 s' 2 rfl]; exact x5 s s' hss hs' z
  · rw [d9] at hp; rw [v 9 p 8 rfl, v 9 p 9 rfl, d10, d11]
    rcases x6 p hp with y | ⟨q, s, hq, hs, y1, y2, y3⟩
    · exact Or.inl y
    · exact Or.inr ⟨q, s, by omega, hs, y1, by rw [k10, r10, if_neg (by omega)]; exact y2, by rw [v 11 s 1 rfl]; exact y3⟩
set_option maxRecDepth 20000 in
theorem op_room (g : G0) (h : Hp) (r : RR h) {w : Int32} : ∃ mc ms, mc ≤ 4 ∧ ms ≤ 1523 ∧ Op g h yX11_room wX11_room (pR (0, 0) :: [pI w]) yX14_room wX14_room (pR (32, 0) :: [pI w]) 8 12 mc ms 0 0 := by
  have le := r.1.le
  have ro := r.2.2.2.2.2.2.2.1
  by_cases c1 : xWb h w = 0
  · refine ⟨0, 0, by decide, by decide, Op.of2 (-1 : Int32) (xT h 1) (mT (mZ (xT h 1)) 1) ?_ ?_ (m_roomN g h r.1 (fun z => z.1 c1)) (M_room g (xT h 1) (MJ_congr (h' := xT h 1) (Eqv.sI (Eqv.rf _) Bool.false_ne_true) r.2.2.1).1) (RR_ref1 r) rfl⟩
    · unfold xRoomN; rw [if_pos c1]
    · unfold mRoom; rw [if_pos (by rw [wb_eq (h := h) r.2.2.2.1 (by rw [mZ_v _ _ (by decide), xT_o _ _ (by decide)])]; exact c1)]
  · have c1' : ∀ h', vi h' (32, 0) 4 = vi h (32, 0) 4 → ¬ mWb h' w = 0 := fun h' e => by rw [wb_eq r.2.2.2.1 e]; exact c1
    by_cases c2 : cn h 10 < 20
    · have c3 : vi h (7, 2) 2 < 20 := by rw [r.1.a2.1]; exact nI_lt (b := 20) c2 (by decide)
      refine ⟨2, 1503, by decide, by decide, Op.add _ _ (m_roomY g h r.1 ⟨c1, c3⟩) ?_⟩
      rintro h1 ⟨h2, f, al, rfl⟩
      have rr := RR_room r c2 f al
      have e1 : Eqv (fN 10) h h2 := (Eqv.add (show Eqv (fN 10) h (roN h w) from (Eqv.sI (Eqv.sI (Eqv.nw (Eqv.rf h) Bool.false_ne_true Bool.false_ne_true Bool.false_ne_true Bool.false_ne_true (fun _ _ => Bool.false_ne_true)) Bool.false_ne_true) Bool.false_ne_true)) f Bool.false_ne_true Bool.false_ne_true ⟨Bool.false_ne_true, Bool.false_ne_true⟩ Bool.false_ne_true (fun _ _ => Bool.false_ne_true) (fun _ _ => Bool.false_ne_true))
      have e36 : vi (mZ (xT h2 0)) (32, 0) 36 = nI (cn h 10) := by rw [mZ_v _ _ (by decide), xT_o _ _ (by decide), e1.2.2.2.2 32 0 36 rfl]; exact ro.1
      have eY : mRoom (xT h2 0) w = (nI (cn h 10), rmM h2 (cn h 10) w) := by
        unfold mRoom; rw [if_neg (c1' _ (by rw [mZ_v _ _ (by decide), xT_o _ _ (by decide), e1.2.2.2.2 32 0 4 rfl])), e36, if_neg (fun z => by have := (nI_eq (a := cn h 10) (b := 20) (by omega) (by decide)).mp z; omega), nI_clamp (by omega)]; unfold mRoN rmM; rw [nI_1]
      have mj : MJ (xT h2 0) := MJ_congr (h := h) ((show Eqv fMJ h h2 from (Eqv.add (show Eqv fMJ h (roN h w) from (Eqv.sI (Eqv.sI (Eqv.nw (Eqv.rf h) Bool.false_ne_true Bool.false_ne_true Bool.false_ne_true Bool.false_ne_true (fun _ _ => Bool.false_ne_true)) Bool.false_ne_true) Bool.false_ne_true)) f Bool.false_ne_true Bool.false_ne_true ⟨Bool.false_ne_true, Bool.false_ne_true⟩ Bool.false_ne_true (fun _ _ => Bool.false_ne_true) (fun _ _ => Bool.false_ne_true))).tr (show Eqv fMJ h2 (xT h2 0) from (Eqv.sI (Eqv.rf _) Bool.false_ne_true))) r.2.2.1
      refine ⟨mRoom (xT h2 0) w, M_room g _ mj.1, by rw [eY], by rw [eY]; exact rr, ?_, ?_⟩
      all_goals
        rw [eY]
        have k : ∀ p, cn (rmM h2 (cn h 10) w) p = cn h2 p := fun p => (show Eqv fCn h2 (rmM h2 (cn h 10) w) from (Eqv.sI (Eqv.sI (Eqv.sI (Eqv.sI (Eqv.sI (Eqv.sI (Eqv.sI (Eqv.sI (Eqv.rf _) Bool.false_ne_true) Bool.false_ne_true) Bool.false_ne_true) Bool.false_ne_true) Bool.false_ne_true) Bool.false_ne_true) Bool.false_ne_true) Bool.false_ne_true)).1 p rfl
        have c10 : cn h2 10 = cn h 10 + 1 := (f.1 10 (by decide)).trans (roN_cn h w)
        simp only [potC, potS, k, c10, e1.1 8 rfl, e1.1 9 rfl, e1.1 11 rfl, e1.1 12 rfl, e1.1 33 rfl]
        omega
    · have e20 : cn h 10 = 20 := by omega
      refine ⟨0, 0, by decide, by decide, Op.of2 (-1 : Int32) (xT h 3) (mT (mZ (xT h 3)) 3) ?_ ?_ (m_roomN g h r.1 (fun z => ?_)) (M_room g (xT h 3) (MJ_congr (h' := xT h 3) (Eqv.sI (Eqv.rf _) Bool.false_ne_true) r.2.2.1).1) (RR_ref3 r) rfl⟩
      · unfold xRoomN; rw [if_neg c1]
      · unfold mRoom; rw [if_neg (c1' _ (by rw [mZ_v _ _ (by decide), xT_o _ _ (by decide)])), mZ_v _ _ (by decide), xT_o _ _ (by decide), ro.1, e20]; rfl
      · have := z.2; rw [r.1.a2.1, e20] at this; exact absurd this (by decide)
