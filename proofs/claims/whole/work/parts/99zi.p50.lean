/-! the class's own numbers, while the reference reads -/
def fX0 : Fpt := (fun p => Nat.blt p 32, fun p => Nat.blt p 32, fun p => Nat.blt p 32, fun _ => false, fun p _ _ => Nat.blt p 32)
theorem X0_no {p i f : Nat} (h : 32 ≤ p) : ¬ fX0.2.2.2.2 p i f = true := by
  show ¬ Nat.blt p 32 = true
  rw [blt_no h]; decide
theorem X0_rw {k : Nat} {h h' : Hp} (e : Eqv (fRw k) h h') : Eqv fX0 h h' := e.of_rw Bool.false_ne_true (fun _ _ _ _ => Bool.false_ne_true) (fun _ _ => Bool.false_ne_true) (fun _ _ => Bool.false_ne_true) (fun _ _ h1 _ => X0_no (by omega))
theorem X0_rws {k : Nat} {h h' : Hp} (e : Eqv (fRw_s k) h h') : Eqv fX0 h h' := by
  refine ⟨fun p _ => e.1 p rfl, fun p i _ => e.2.1 p i rfl, fun p i k _ => e.2.2.1 p i k rfl, fun p i k z => absurd z Bool.false_ne_true, fun p i f z => e.2.2.2.2 p i f ?_⟩
  have z' : p < 32 := Nat.le_of_ble_eq_true z
  show (!(p == 32 && (Nat.ble 12 f && Nat.ble f 18)) && !(p == 35) && !(p == 34 && i == 0 && (f == 2 || f == 3)) && !(Nat.ble 50 p && Nat.blt p 60 && i == 0)) = true
  rw [show (p == 32) = false by rw [beq_eq_false_iff_ne]; omega, show (p == 35) = false by rw [beq_eq_false_iff_ne]; omega, show (p == 34) = false by rw [beq_eq_false_iff_ne]; omega, ble_no (p := 50) (by omega)]; rfl
theorem X0_scA (h : Hp) (e : Nat) : Eqv fX0 h (scA h e) := (Eqv.sI (Eqv.sI (Eqv.sI (Eqv.sI (Eqv.sI (Eqv.rf h) Bool.false_ne_true) Bool.false_ne_true) Bool.false_ne_true) Bool.false_ne_true) Bool.false_ne_true)
theorem X0_scB (h : Hp) (e n : Nat) : Eqv fX0 h (scB h e n) := Eqv.sR (X0_scA h e) Bool.false_ne_true
theorem X0_scI (h : Hp) (e n : Nat) : Eqv fX0 h (scI h e n) := by
  unfold scI iSch40_9 iSch40_8 iSch40_7 iSch40_6 iSch40_5 iSch40_4 iSch40_3 iSch40_2 iSch40_1 iSch40_0
  exact (Eqv.aN (p := 49) (a := 33) (Eqv.aN (p := 48) (a := 33) (Eqv.aN (p := 47) (a := 33) (Eqv.aN (p := 46) (a := 33) (Eqv.aN (p := 45) (a := 33) (Eqv.aN (p := 44) (a := 33) (Eqv.aN (p := 43) (a := 33) (Eqv.aN (p := 42) (a := 33) (Eqv.aN (p := 41) (a := 33) (Eqv.aN (p := 40) (a := 33) (show Eqv fX0 h (nw (scA h e) 33 0) from Eqv.nw (X0_scA h e) Bool.false_ne_true Bool.false_ne_true Bool.false_ne_true Bool.false_ne_true (fun _ _ => Bool.false_ne_true)) Bool.false_ne_true Bool.false_ne_true Bool.false_ne_true Bool.false_ne_true (fun _ _ => Bool.false_ne_true) Bool.false_ne_true) Bool.false_ne_true Bool.false_ne_true Bool.false_ne_true Bool.false_ne_true (fun _ _ => Bool.false_ne_true) Bool.false_ne_true) Bool.false_ne_true Bool.false_ne_true Bool.false_ne_true Bool.false_ne_true (fun _ _ => Bool.false_ne_true) Bool.false_ne_true) Bool.false_ne_true Bool.false_ne_true Bool.false_ne_true Bool.false_ne_true (fun _ _ => Bool.false_ne_true) Bool.false_ne_true) Bool.false_ne_true Bool.false_ne_true Bool.false_ne_true Bool.false_ne_true (fun _ _ => Bool.false_ne_true) Bool.false_ne_true) Bool.false_ne_true Bool.false_ne_true Bool.false_ne_true Bool.false_ne_true (fun _ _ => Bool.false_ne_true) Bool.false_ne_true) Bool.false_ne_true Bool.false_ne_true Bool.false_ne_true Bool.false_ne_true (fun _ _ => Bool.false_ne_true) Bool.false_ne_true) Bool.false_ne_true Bool.false_ne_true Bool.false_ne_true Bool.false_ne_true (fun _ _ => Bool.false_ne_true) Bool.false_ne_true) Bool.false_ne_true Bool.false_ne_true Bool.false_ne_true Bool.false_ne_true (fun _ _ => Bool.false_ne_true) Bool.false_ne_true) Bool.false_ne_true Bool.false_ne_true Bool.false_ne_true Bool.false_ne_true (fun _ _ => Bool.false_ne_true) Bool.false_ne_true)
theorem X0_scN (h : Hp) (e n : Nat) : Eqv fX0 h (scN h e n) := Eqv.sR (X0_scI h e n) Bool.false_ne_true
theorem X0_cth (h : Hp) : Eqv fX0 h (cthH h) := (Eqv.sI (Eqv.sI (Eqv.sI (Eqv.rf h) Bool.false_ne_true) Bool.false_ne_true) Bool.false_ne_true)
theorem X0_mT (h : Hp) (x : Int32) : Eqv fX0 h (mT h x) := (Eqv.sI (Eqv.sI (Eqv.rf h) Bool.false_ne_true) Bool.false_ne_true)
theorem X0_dn (h : Hp) (k : Nat) (w d : Int32) (n : Nat) : Eqv fX0 h (dnH h k w d n) := (Eqv.sI (Eqv.sI (Eqv.sI (Eqv.sI (Eqv.sI (Eqv.rf h) Bool.false_ne_true) Bool.false_ne_true) Bool.false_ne_true) Bool.false_ne_true) Bool.false_ne_true)
/-- the schemes below n stand as they stood -/
def Old (h hf : Hp) (n : Nat) : Prop := ∀ j, j < n → (∀ f, vi hf (33, j) f = vi h (33, j) f) ∧ (∀ f, vr hf (33, j) f = vr h (33, j) f) ∧ vr hf (36, 0) j = vr h (36, 0) j ∧ ∀ p, 40 ≤ p → p < 50 → ln hf (p, j) = ln h (p, j) ∧ ∀ i, vi hf (p, j) i = vi h (p, j) i
def O17 (h hf : Hp) (C : Nat) : Prop := ∀ x, x < C → (∀ f, vi hf (8, x) f = vi h (8, x) f) ∧ (∀ f, vi hf (17, x) f = vi h (17, x) f) ∧ ln hf (17, x) = ln h (17, x)
theorem Old.off {h hf : Hp} {n : Nat} (o : Old h hf n) : ∀ m, m ≤ n → offN hf m = offN h m := fun m hm => offN_congr m (fun k hk => by unfold chN; rw [(o k (by omega)).1])
theorem off_mono (h : Hp) : ∀ (m n : Nat), m ≤ n → offN h m ≤ offN h n
  | m, 0, hm => by rw [Nat.le_zero.mp hm]; exact Nat.le_refl _
  | m, n + 1, hm => by
    by_cases z : m = n + 1
    · rw [z]; exact Nat.le_refl _
    · exact Nat.le_trans (off_mono h m n (by omega)) (Nat.le_add_right _ _)
theorem Old.ch {h hf : Hp} {n : Nat} (o : Old h hf n) (e : O17 h hf (offN h n)) (s : ∀ k, k < n → chN h k ≤ 12 ∧ ∀ c, c < chN h k → ChR h k c (offN h k + c)) : ∀ k, k < n → chN hf k ≤ 12 ∧ ∀ c, c < chN hf k → ChR hf k c (offN hf k + c) := by
  intro k hk
  obtain ⟨o1, o2, o3, o4⟩ := o k hk
  have ek : chN hf k = chN h k := by unfold chN; rw [o1]
  rw [ek, o.off k (by omega)]
  refine ⟨(s k hk).1, fun c hc => ?_⟩
  have lt : offN h k + c < offN h n := by
    have := off_mono h (k + 1) n hk
    have e2 : offN h (k + 1) = offN h k + chN h k := rfl
    omega
  obtain ⟨a1, a2, a3⟩ := e _ lt
  exact ChR_congr a1 a2 a3 o1 (fun p hp hq => (o4 p hp hq).2) ((s k hk).2 c hc)
theorem Old.sk {h hf : Hp} {n : Nat} (o : Old h hf n) (ec : ∀ p, (p = 33 ∨ (40 ≤ p ∧ p < 50)) → cn h p ≤ cn hf p) (s : ∀ k, k < n → SK h k) : ∀ k, k < n → SK hf k := fun k hk =>
  SK_congr ec (fun p hp hq => ((o k hk).2.2.2 p hp hq).1) (o k hk).2.1 (o k hk).2.2.1 ((o k hk).1 2) (s k hk)
/-- a scheme was read but not kept -/
theorem SR_no {h hf : Hp} {n : Nat} (h5n : vi h (32, 0) 5 = nI n) (s : SR h) (h11 : vi hf (0, 0) 11 = vi h (0, 0) 11) (h5 : vi hf (32, 0) 5 = vi h (32, 0) 5) (c8 : cn hf 8 = cn h 8) (hn40 : n ≤ 40) (o : Old h hf n) (e : O17 h hf (cn h 8)) (c33 : n = cn hf 33 ∨ n + 1 = cn hf 33) (cle : cn hf 33 ≤ 40) (cge : cn h 33 ≤ cn hf 33) (c40 : ∀ i, 40 ≤ i → i < 50 → cn hf i = cn hf 33) (kn : n < cn hf 33 → SK hf n) (nn : ∀ j, cn hf 33 ≤ j → j < 40 → vr hf (36, 0) j = vr h (36, 0) j) : SR hf := by
  obtain ⟨n', s1, s2, s3, s4, s5, s6, s7, s8, s9⟩ := s
  obtain rfl : n' = n := (nI_eq (by omega) (by omega)).mp (s3.symm.trans h5n)
  have ec : ∀ p, (p = 33 ∨ (40 ≤ p ∧ p < 50)) → cn h p ≤ cn hf p := by
    rintro p (rfl | ⟨z1, z2⟩)
    · exact cge
    · rw [c40 p z1 z2, s8 p z1 z2]; exact cge
  have e' : O17 h hf (offN h n') := by rw [← s9.1]; exact e
  have sk := o.sk ec (fun k hk => s6 k (by omega))
  refine ⟨n', s1, h11.trans s2, h5.trans s3, c33, cle, fun k hk => ?_, fun k hk hk2 => ?_, c40, ?_, o.ch e' s9.2⟩
  · by_cases z : k < n'
    · exact sk k z
    · have : k = n' := by omega
      rw [this]; exact kn (by omega)
  · rw [nn k hk hk2]; exact s7 k (by omega) hk2
  · rw [c8, o.off n' (Nat.le_refl _)]; exact s9.1
