/-! what a scheme leaves alone -/
def fO8 : Fpt := (fun p => Nat.blt p 32, fun p => Nat.blt p 32, fun p => Nat.blt p 32, fun p => Nat.blt p 32, fun p _ f => (Nat.blt p 32 && !(p == 1) && !(p == 2) && !(p == 3) && !(p == 13) && !(p == 0 && (f == 11 || f == 14 || f == 15 || f == 16))) || (Nat.ble 38 p && Nat.blt p 40) || (p == 32 && (f == 4 || Nat.ble 21 f)))
def x78 (p : Nat) : Bool := !(p == 7) && !(p == 8) && !(p == 16) && !(p == 17)
def fO6 : Fpt := (fun p => Nat.blt p 32 && x78 p, fun p => Nat.blt p 32 && x78 p, fun p => Nat.blt p 32 && x78 p, fun p => Nat.blt p 32 && x78 p, fun p i f => fO8.2.2.2.2 p i f && x78 p)
theorem O8_6 {h h' : Hp} (e : Eqv fO8 h h') : Eqv fO6 h h' := Eqv.sub (P := fO6) (Q := fO8) ⟨fun _ z => ((Bool.and_eq_true _ _).mp z).1, fun _ z => ((Bool.and_eq_true _ _).mp z).1, fun _ z => ((Bool.and_eq_true _ _).mp z).1, fun _ z => ((Bool.and_eq_true _ _).mp z).1, fun _ _ _ z => ((Bool.and_eq_true _ _).mp z).1⟩ e
theorem O6_Pe {h h' : Hp} (e : Eqv fO6 h h') : Eqv fPe h h' := Eqv.sub (P := fPe) (Q := fO6) ⟨fun p z => by simp only [fPe, Bool.or_eq_true, Bool.and_eq_true, beq_iff_eq] at z; rcases z with rfl <;> rfl, fun p z => absurd z Bool.false_ne_true, fun p z => absurd z Bool.false_ne_true, fun p z => absurd z Bool.false_ne_true, fun p i f z => by simp only [fPe, Bool.or_eq_true, Bool.and_eq_true, beq_iff_eq] at z; rcases z with ((((rfl | rfl) | rfl) | ⟨rfl, _⟩) | ⟨rfl, rfl⟩) | ⟨rfl, rfl⟩ <;> rfl⟩ e
theorem O6_Pa {h h' : Hp} (e : Eqv fO6 h h') : Eqv fPa h h' := Eqv.sub (P := fPa) (Q := fO6) ⟨fun p z => by simp only [fPa, Bool.or_eq_true, Bool.and_eq_true, beq_iff_eq] at z; rcases z with rfl <;> rfl, fun p z => absurd z Bool.false_ne_true, fun p z => absurd z Bool.false_ne_true, fun p z => absurd z Bool.false_ne_true, fun p i f z => by simp only [fPa, Bool.or_eq_true, Bool.and_eq_true, beq_iff_eq] at z; rcases z with ⟨rfl, rfl⟩ | ⟨rfl, rfl⟩ <;> rfl⟩ e
theorem O6_Ro {h h' : Hp} (e : Eqv fO6 h h') : Eqv fRo h h' := Eqv.sub (P := fRo) (Q := fO6) ⟨fun p z => by simp only [fRo, Bool.or_eq_true, Bool.and_eq_true, beq_iff_eq] at z; rcases z with (rfl | rfl) | rfl <;> rfl, fun p z => absurd z Bool.false_ne_true, fun p z => by simp only [fRo, Bool.or_eq_true, Bool.and_eq_true, beq_iff_eq] at z; rcases z with rfl <;> rfl, fun p z => absurd z Bool.false_ne_true, fun p i f z => by simp only [fRo, Bool.or_eq_true, Bool.and_eq_true, beq_iff_eq] at z; rcases z with ((((rfl | rfl) | ⟨rfl, rfl | rfl⟩) | ⟨rfl, rfl⟩) | ⟨⟨rfl, _⟩, _⟩) | ⟨rfl, rfl | rfl⟩ <;> rfl⟩ e
theorem O6_Tr {h h' : Hp} (e : Eqv fO6 h h') : Eqv fTr h h' := Eqv.sub (P := fTr) (Q := fO6) ⟨fun p z => absurd z Bool.false_ne_true, fun p z => absurd z Bool.false_ne_true, fun p z => absurd z Bool.false_ne_true, fun p z => absurd z Bool.false_ne_true, fun p i f z => by simp only [fTr, Bool.or_eq_true, Bool.and_eq_true, beq_iff_eq] at z; rcases z with ((⟨rfl, rfl | rfl⟩ | rfl) | ⟨rfl, rfl⟩) | ⟨rfl, rfl | rfl⟩ <;> rfl⟩ e
theorem O6_La {h h' : Hp} (e : Eqv fO6 h h') : Eqv fLa h h' := Eqv.sub (P := fLa) (Q := fO6) ⟨fun p z => by simp only [fLa, Bool.or_eq_true, Bool.and_eq_true, beq_iff_eq] at z; rcases z with rfl <;> rfl, fun p z => absurd z Bool.false_ne_true, fun p z => absurd z Bool.false_ne_true, fun p z => absurd z Bool.false_ne_true, fun p i f z => by simp only [fLa, Bool.or_eq_true, Bool.and_eq_true, beq_iff_eq] at z; rcases z with (rfl | ⟨⟨rfl, _⟩, _⟩) | ⟨rfl, rfl⟩ <;> rfl⟩ e
theorem O6_Cs {h h' : Hp} (e : Eqv fO6 h h') : Eqv fCs h h' := Eqv.sub (P := fCs) (Q := fO6) ⟨fun p z => absurd z Bool.false_ne_true, fun p z => absurd z Bool.false_ne_true, fun p z => absurd z Bool.false_ne_true, fun p z => by simp only [fCs, Bool.or_eq_true, Bool.and_eq_true, beq_iff_eq] at z; rcases z with rfl <;> rfl, fun p i f z => by simp only [fCs, Bool.or_eq_true, Bool.and_eq_true, beq_iff_eq] at z; rcases z with (⟨rfl, rfl⟩ | ⟨rfl, rfl⟩) | ⟨rfl, rfl | rfl⟩ <;> rfl⟩ e
theorem O8_LD {h h' : Hp} (e : Eqv fO8 h h') : Eqv fLD h h' := Eqv.sub (P := fLD) (Q := fO8) ⟨fun p z => by simp only [fLD, Bool.or_eq_true, Bool.and_eq_true, beq_iff_eq] at z; rcases z with rfl <;> rfl, fun p z => absurd z Bool.false_ne_true, fun p z => by simp only [fLD, Bool.or_eq_true, Bool.and_eq_true, beq_iff_eq] at z; rcases z with rfl <;> rfl, fun p z => absurd z Bool.false_ne_true, fun p i f z => absurd z Bool.false_ne_true⟩ e
theorem O8_XI {h h' : Hp} (e : Eqv fO8 h h') : Eqv fXI h h' := Eqv.sub (P := fXI) (Q := fO8) ⟨fun _ z => z, fun _ z => z, fun _ z => ((Bool.and_eq_true _ _).mp z).1, fun _ z => absurd z Bool.false_ne_true, fun p i f z => by simp only [fXI, Bool.or_eq_true, Bool.and_eq_true, beq_iff_eq] at z; rcases z with (((rfl | ⟨rfl, rfl⟩) | ⟨rfl, rfl⟩) | ⟨rfl, rfl⟩) | ⟨rfl, rfl⟩ <;> rfl⟩ e
theorem O6_MJ {h h' : Hp} (s : SM h') (e : Eqv fO6 h h') (m : MJ h) : MJ h' := by
  obtain ⟨⟨m1, m2⟩, n1, n2, n3, n4⟩ := m
  refine ⟨⟨s, ?_⟩, fun p hp => ?_, fun p hp => ?_, fun p hp => ?_, fun p hp => ?_⟩
  · rw [e.2.2.2.2 32 0 22 rfl, e.2.2.2.2 32 0 36 rfl, e.2.2.2.2 32 0 37 rfl, e.2.2.2.2 32 0 38 rfl, e.2.2.2.2 32 0 48 rfl]; exact m2
  · rw [e.2.2.2.2 38 7 p rfl]; exact n1 p hp
  · rw [e.2.2.2.2 38 11 p rfl]; exact n2 p hp
  · rw [e.2.2.2.2 38 14 p rfl]; exact n3 p hp
  · rw [e.2.2.2.2 38 6 p rfl]; exact n4 p hp
theorem RR_asm {h hf : Hp} (r : RR h) (e : Eqv fO6 h hf) (xi : XI hf) (ld : LD hf) (sm : SM hf) (sc : ScA hf) (ta : TaR hf) (sr : SR hf) : RR hf := ⟨xi, ld, O6_MJ sm e r.2.2.1, sc, ta, PeR_congr (O6_Pe e) r.2.2.2.2.2.1, PaR_congr (O6_Pa e) r.2.2.2.2.2.2.1, RoR_congr (O6_Ro e) r.2.2.2.2.2.2.2.1, TrR_congr (O6_Tr e) r.2.2.2.2.2.2.2.2.1, LaR_congr (O6_La e) r.2.2.2.2.2.2.2.2.2.1, CsR_congr (O6_Cs e) r.2.2.2.2.2.2.2.2.2.2.1, sr⟩
theorem O8_rz {h h' : Hp} (e : Eqv fRz h h') : Eqv fO8 h h' := e.of_rz (fun _ _ => Bool.false_ne_true) (fun _ _ => Bool.false_ne_true) (fun _ _ => Bool.false_ne_true) (fun _ _ => Bool.false_ne_true)
theorem blt_no {p n : Nat} (h : n ≤ p) : Nat.blt p n = false := by
  rw [← Bool.not_eq_true]; intro z
  have := Nat.le_of_ble_eq_true z; omega
theorem ble_no {p n : Nat} (h : n < p) : Nat.ble p n = false := by
  rw [← Bool.not_eq_true]; intro z
  have := Nat.le_of_ble_eq_true z; omega
theorem O8_no {p i f : Nat} (h : 40 ≤ p) : ¬ fO8.2.2.2.2 p i f = true := by
  show ¬ ((Nat.blt p 32 && !(p == 1) && !(p == 2) && !(p == 3) && !(p == 13) && !(p == 0 && (f == 11 || f == 14 || f == 15 || f == 16))) || (Nat.ble 38 p && Nat.blt p 40) || (p == 32 && (f == 4 || Nat.ble 21 f))) = true
  rw [blt_no (n := 32) (by omega), blt_no (n := 40) h, show (p == 32) = false by rw [beq_eq_false_iff_ne]; omega]
  simp
theorem O8_32 {i f : Nat} (h : f ≤ 20) (h4 : 5 ≤ f) : ¬ fO8.2.2.2.2 32 i f = true := by
  show ¬ ((false || false) || (true && (f == 4 || Nat.ble 21 f))) = true
  rw [ble_no (by omega), show (f == 4) = false by rw [beq_eq_false_iff_ne]; omega]; decide
theorem O8_rw {k : Nat} {h h' : Hp} (e : Eqv (fRw k) h h') : Eqv fO8 h h' := e.of_rw Bool.false_ne_true (fun _ _ h1 h2 => O8_32 (by omega) (by omega)) (fun _ _ => Bool.false_ne_true) (fun _ _ => Bool.false_ne_true) (fun _ _ h1 _ => O8_no h1)
theorem O8_rws {k : Nat} {h h' : Hp} (e : Eqv (fRw_s k) h h') : Eqv fO8 h h' := by
  refine ⟨fun p _ => e.1 p rfl, fun p i _ => e.2.1 p i rfl, fun p i k _ => e.2.2.1 p i k rfl, fun p i k z => e.2.2.2.1 p i k ?_, fun p i f z => e.2.2.2.2 p i f ?_⟩
  · show (!(p == 32)) = true
    rw [show (p == 32) = false by rw [beq_eq_false_iff_ne]; rintro rfl; exact Bool.false_ne_true z]; rfl
  · show (!(p == 32 && (Nat.ble 12 f && Nat.ble f 18)) && !(p == 35) && !(p == 34 && i == 0 && (f == 2 || f == 3)) && !(Nat.ble 50 p && Nat.blt p 60 && i == 0)) = true
    have a1 : (p == 32 && (Nat.ble 12 f && Nat.ble f 18)) = false := by
      rw [← Bool.not_eq_true]; intro y
      rw [Bool.and_eq_true, Bool.and_eq_true] at y
      have e1 := eq_of_beq y.1; subst e1
      exact O8_32 (by have := Nat.le_of_ble_eq_true y.2.2; omega) (by have := Nat.le_of_ble_eq_true y.2.1; omega) z
    have a2 : (p == 35) = false := by rw [beq_eq_false_iff_ne]; rintro rfl; exact Bool.false_ne_true z
    have a3 : (p == 34) = false := by rw [beq_eq_false_iff_ne]; rintro rfl; exact Bool.false_ne_true z
    have a4 : Nat.ble 50 p = false := by
      rw [← Bool.not_eq_true]; intro y
      exact O8_no (by have := Nat.le_of_ble_eq_true y; omega) z
    rw [a1, a2, a3, a4]; rfl
theorem O8_scA (h : Hp) (e : Nat) : Eqv fO8 h (scA h e) := (Eqv.sI (Eqv.sI (Eqv.sI (Eqv.sI (Eqv.sI (Eqv.rf h) Bool.false_ne_true) Bool.false_ne_true) Bool.false_ne_true) Bool.false_ne_true) Bool.false_ne_true)
theorem O8_scB (h : Hp) (e n : Nat) : Eqv fO8 h (scB h e n) := Eqv.sR (O8_scA h e) Bool.false_ne_true
theorem O8_scI (h : Hp) (e n : Nat) : Eqv fO8 h (scI h e n) := by
  unfold scI iSch40_9 iSch40_8 iSch40_7 iSch40_6 iSch40_5 iSch40_4 iSch40_3 iSch40_2 iSch40_1 iSch40_0
  exact (Eqv.aN (p := 49) (a := 33) (Eqv.aN (p := 48) (a := 33) (Eqv.aN (p := 47) (a := 33) (Eqv.aN (p := 46) (a := 33) (Eqv.aN (p := 45) (a := 33) (Eqv.aN (p := 44) (a := 33) (Eqv.aN (p := 43) (a := 33) (Eqv.aN (p := 42) (a := 33) (Eqv.aN (p := 41) (a := 33) (Eqv.aN (p := 40) (a := 33) (show Eqv fO8 h (nw (scA h e) 33 0) from Eqv.nw (O8_scA h e) Bool.false_ne_true Bool.false_ne_true Bool.false_ne_true Bool.false_ne_true (fun _ _ => Bool.false_ne_true)) Bool.false_ne_true Bool.false_ne_true Bool.false_ne_true Bool.false_ne_true (fun _ _ => Bool.false_ne_true) Bool.false_ne_true) Bool.false_ne_true Bool.false_ne_true Bool.false_ne_true Bool.false_ne_true (fun _ _ => Bool.false_ne_true) Bool.false_ne_true) Bool.false_ne_true Bool.false_ne_true Bool.false_ne_true Bool.false_ne_true (fun _ _ => Bool.false_ne_true) Bool.false_ne_true) Bool.false_ne_true Bool.false_ne_true Bool.false_ne_true Bool.false_ne_true (fun _ _ => Bool.false_ne_true) Bool.false_ne_true) Bool.false_ne_true Bool.false_ne_true Bool.false_ne_true Bool.false_ne_true (fun _ _ => Bool.false_ne_true) Bool.false_ne_true) Bool.false_ne_true Bool.false_ne_true Bool.false_ne_true Bool.false_ne_true (fun _ _ => Bool.false_ne_true) Bool.false_ne_true) Bool.false_ne_true Bool.false_ne_true Bool.false_ne_true Bool.false_ne_true (fun _ _ => Bool.false_ne_true) Bool.false_ne_true) Bool.false_ne_true Bool.false_ne_true Bool.false_ne_true Bool.false_ne_true (fun _ _ => Bool.false_ne_true) Bool.false_ne_true) Bool.false_ne_true Bool.false_ne_true Bool.false_ne_true Bool.false_ne_true (fun _ _ => Bool.false_ne_true) Bool.false_ne_true) Bool.false_ne_true Bool.false_ne_true Bool.false_ne_true Bool.false_ne_true (fun _ _ => Bool.false_ne_true) Bool.false_ne_true)
theorem O8_scN (h : Hp) (e n : Nat) : Eqv fO8 h (scN h e n) := Eqv.sR (O8_scI h e n) Bool.false_ne_true
theorem O8_cth (h : Hp) : Eqv fO8 h (cthH h) := (Eqv.sI (Eqv.sI (Eqv.sI (Eqv.rf h) Bool.false_ne_true) Bool.false_ne_true) Bool.false_ne_true)
theorem O8_xT (h : Hp) (x : Int32) : Eqv fO8 h (xT h x) := (Eqv.sI (Eqv.rf h) Bool.false_ne_true)
theorem O8_mT (h : Hp) (x : Int32) : Eqv fO8 h (mT h x) := (Eqv.sI (Eqv.sI (Eqv.rf h) Bool.false_ne_true) Bool.false_ne_true)
theorem O8_dn (h : Hp) (k : Nat) (w d : Int32) (n : Nat) : Eqv fO8 h (dnH h k w d n) := (Eqv.sI (Eqv.sI (Eqv.sI (Eqv.sI (Eqv.sI (Eqv.rf h) Bool.false_ne_true) Bool.false_ne_true) Bool.false_ne_true) Bool.false_ne_true) Bool.false_ne_true)
theorem O8_Sc {h Z : Hp} (e : Eqv fRz h Z) : Eqv fO8 h (hSc Z) := hSc_E (O8_rz e) Bool.false_ne_true Bool.false_ne_true Bool.false_ne_true
