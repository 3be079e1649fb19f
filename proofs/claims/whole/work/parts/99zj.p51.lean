/-! the schemes that stand -/
def fM3 : Fpt := (fun p => Nat.ble 32 p, fun p => Nat.ble 32 p, fun p => Nat.ble 32 p, fun _ => false, fun p _ _ => Nat.ble 32 p)
theorem M3_rz {h h' : Hp} (e : Eqv fRz h h') : Eqv fM3 h h' := e.of_rz (fun _ _ => Bool.false_ne_true) (fun _ _ => Bool.false_ne_true) (fun _ _ => Bool.false_ne_true) (fun _ _ => Bool.false_ne_true)
theorem M3_Sc {h Z : Hp} (e : Eqv fRz h Z) : Eqv fM3 h (hSc Z) := hSc_E (M3_rz e) Bool.false_ne_true Bool.false_ne_true Bool.false_ne_true
theorem M3_xT (h : Hp) (x : Int32) : Eqv fM3 h (xT h x) := Eqv.sI (Eqv.rf h) Bool.false_ne_true
theorem M3_kp {h h' : Hp} (e : Eqv fKp h h') : Eqv fM3 h h' := e.of_kp ⟨Bool.false_ne_true, Bool.false_ne_true, Bool.false_ne_true⟩ ⟨Bool.false_ne_true, Bool.false_ne_true, Bool.false_ne_true⟩ ⟨Bool.false_ne_true, Bool.false_ne_true, Bool.false_ne_true, Bool.false_ne_true⟩ ⟨Bool.false_ne_true, Bool.false_ne_true, Bool.false_ne_true⟩ (fun _ _ => Bool.false_ne_true) (fun _ _ => Bool.false_ne_true) (fun _ _ => Bool.false_ne_true) (fun _ _ => Bool.false_ne_true)
theorem SM_M3 {h h' : Hp} (e : Eqv fM3 h h') (s : SM h) : SM h' := ⟨fun z hz => by rw [e.1 _ ((by decide : ∀ q ∈ mC, fM3.1 q.1 = true) z hz)]; exact s.1 z hz, fun z hz => (e.2.1 z.1.1 z.1.2 ((by decide : ∀ q ∈ mLn, fM3.2.1 q.1.1 = true) z hz)).trans (s.2.1 z hz), fun z hz => (e.2.2.1 z.1.1.1 z.1.1.2 z.1.2 ((by decide : ∀ q ∈ mR, fM3.2.2.1 q.1.1.1 = true) z hz)).trans (s.2.2 z hz)⟩
theorem Old_M3 {h h' : Hp} (e : Eqv fM3 h h') (n : Nat) : Old h h' n := fun j _ => ⟨fun f => e.2.2.2.2 33 j f rfl, fun f => e.2.2.1 33 j f rfl, e.2.2.1 36 0 j rfl, fun p hp hq => ⟨e.2.1 p j (Nat.ble_eq.mpr (by omega)), fun i => e.2.2.2.2 p j i (Nat.ble_eq.mpr (by omega))⟩⟩
theorem Old.tr {h h1 h2 : Hp} {n : Nat} (a : Old h h1 n) (b : Old h1 h2 n) : Old h h2 n := fun j hj => ⟨fun f => ((b j hj).1 f).trans ((a j hj).1 f), fun f => ((b j hj).2.1 f).trans ((a j hj).2.1 f), (b j hj).2.2.1.trans (a j hj).2.2.1, fun p hp hq => ⟨((b j hj).2.2.2 p hp hq).1.trans ((a j hj).2.2.2 p hp hq).1, fun i => (((b j hj).2.2.2 p hp hq).2 i).trans (((a j hj).2.2.2 p hp hq).2 i)⟩⟩
theorem Old_scA (h : Hp) (e n : Nat) : Old h (scA h e) n := fun j _ => ⟨fun f => scA_p h e (by decide) j f, fun _ => rfl, rfl, fun p _ _ => ⟨rfl, fun i => scA_p h e (by omega) j i⟩⟩
theorem Old_scB (h : Hp) (e n : Nat) : Old h (scB h e n) n := by
  intro j hj
  refine ⟨fun f => ?_, fun f => ?_, ?_, fun p hp hq => ⟨?_, fun i => ?_⟩⟩
  · unfold scB; rw [vi_sR]; exact scA_p h e (by decide) j f
  · unfold scB; rw [vr_sR, if_neg (fun z => (by cases z.1))]; rfl
  · unfold scB; rw [vr_sR, if_neg (fun z => by have := z.2; omega)]; rfl
  · unfold scB; rw [ln_sR]; rfl
  · unfold scB; rw [vi_sR]; exact scA_p h e (by omega) j i
theorem Old_scN {h : Hp} {e n : Nat} (c33 : cn h 33 = n) (c40 : ∀ i, 40 ≤ i → i < 50 → cn h i = n) : Old h (scN h e n) n := by
  intro j hj
  have cA : cn (scA h e) 33 = n := (scA_c h e 33).trans c33
  have n33 : ∀ q : Nat, q ≠ 33 → ∀ i : Nat, ((q, i) : Ad) ≠ (33, cn (scA h e) 33) := fun q hq i z => hq (congrArg Prod.fst z)
  have j33 : ((33, j) : Ad) ≠ (33, cn (scA h e) 33) := fun z => by have := congrArg Prod.snd z; have : j = cn (scA h e) 33 := this; omega
  refine ⟨fun f => ?_, fun f => ?_, ?_, fun p hp hq => ?_⟩
  · unfold scN scI; rw [vi_sR, iS_v _ _ (by decide), vi_nw, if_neg j33]; exact scA_p h e (by decide) j f
  · unfold scN scI; rw [vr_sR, if_neg (fun z => (by cases z.1)), iS_r _ _ (by decide) (by omega), vr_nw, if_neg j33]; rfl
  · unfold scN scI; rw [vr_sR, if_neg (fun z => by have := z.2; omega), iS_r _ _ (by decide) (by omega), vr_nw, if_neg (n33 36 (by decide) 0)]; rfl
  · have cX : ∀ p, 40 ≤ p → p < 50 → cn (nw (scA h e) 33 0) p = n := fun p h1 h2 => (sX_c (by omega)).trans (c40 p h1 h2)
    have cs : p = 40 ∨ p = 41 ∨ p = 42 ∨ p = 43 ∨ p = 44 ∨ p = 45 ∨ p = 46 ∨ p = 47 ∨ p = 48 ∨ p = 49 := by omega
    have lA : ln (nw (scA h e) 33 0) (p, j) = ln h (p, j) := by rw [ln_nw, if_neg (n33 p (by omega) j)]; rfl
    have vA : ∀ i, vi (nw (scA h e) 33 0) (p, j) i = vi h (p, j) i := fun i => by rw [vi_nw, if_neg (n33 p (by omega) j)]; exact scA_p h e (by omega) j i
    have jn : j ≠ cn (nw (scA h e) 33 0) p := by rw [cX p hp hq]; omega
    unfold scN scI
    rw [ln_sR]
    refine ⟨?_, fun i => ?_⟩
    · rw [← lA]
      rcases cs with rfl | rfl | rfl | rfl | rfl | rfl | rfl | rfl | rfl | rfl
      · exact iS_lo40 _ _ jn
      · exact iS_lo41 _ _ jn
      · exact iS_lo42 _ _ jn
      · exact iS_lo43 _ _ jn
      · exact iS_lo44 _ _ jn
      · exact iS_lo45 _ _ jn
      · exact iS_lo46 _ _ jn
      · exact iS_lo47 _ _ jn
      · exact iS_lo48 _ _ jn
      · exact iS_lo49 _ _ jn
    · rw [vi_sR, ← vA i]
      rcases cs with rfl | rfl | rfl | rfl | rfl | rfl | rfl | rfl | rfl | rfl
      · exact iS_o40 _ _ jn i
      · exact iS_o41 _ _ jn i
      · exact iS_o42 _ _ jn i
      · exact iS_o43 _ _ jn i
      · exact iS_o44 _ _ jn i
      · exact iS_o45 _ _ jn i
      · exact iS_o46 _ _ jn i
      · exact iS_o47 _ _ jn i
      · exact iS_o48 _ _ jn i
      · exact iS_o49 _ _ jn i
theorem Old_rw {k n : Nat} {h h' : Hp} (e : Eqv (fRw k) h h') (hk : n ≤ k) : Old h h' n := by
  intro j hj
  have jk : (j == k) = false := by rw [beq_eq_false_iff_ne]; omega
  refine ⟨fun f => e.2.2.2.2 33 j f ?_, fun f => e.2.2.1 33 j f rfl, e.2.2.1 36 0 j rfl, fun p hp hq => ⟨e.2.1 p j rfl, fun i => e.2.2.2.2 p j i ?_⟩⟩
  · show (true && true && !(true && j == k && (f == 2 || f == 3)) && true) = true
    rw [jk]; rfl
  · show (!(p == 32 && (Nat.ble 12 i && Nat.ble i 18)) && !(p == 35) && !(p == 33 && j == k && (i == 2 || i == 3)) && !(Nat.ble 40 p && Nat.blt p 50 && j == k)) = true
    rw [jk, show (p == 32) = false by rw [beq_eq_false_iff_ne]; omega, show (p == 35) = false by rw [beq_eq_false_iff_ne]; omega]; simp
theorem Old_rws {k n : Nat} {h h' : Hp} (e : Eqv (fRw_s k) h h') : Old h h' n := by
  intro j hj
  refine ⟨fun f => e.2.2.2.2 33 j f rfl, fun f => e.2.2.1 33 j f rfl, e.2.2.1 36 0 j rfl, fun p hp hq => ⟨e.2.1 p j rfl, fun i => e.2.2.2.2 p j i ?_⟩⟩
  show (!(p == 32 && (Nat.ble 12 i && Nat.ble i 18)) && !(p == 35) && !(p == 34 && j == 0 && (i == 2 || i == 3)) && !(Nat.ble 50 p && Nat.blt p 60 && j == 0)) = true
  rw [show (p == 32) = false by rw [beq_eq_false_iff_ne]; omega, show (p == 35) = false by rw [beq_eq_false_iff_ne]; omega, show (p == 34) = false by rw [beq_eq_false_iff_ne]; omega, ble_no (p := 50) (by omega)]; rfl
theorem cth_p (h : Hp) {p : Nat} (hp : p ≠ 32) (i f : Nat) : vi (cthH h) (p, i) f = vi h (p, i) f :=
  have n : ((p, i) : Ad) ≠ (32, 0) := fun z => hp (congrArg Prod.fst z)
  (vi_sI_ne _ _ _ _ n).trans ((vi_sI_ne _ _ _ _ n).trans (vi_sI_ne _ _ _ _ n))
theorem mT_p (h : Hp) (x : Int32) {p : Nat} (hp : p ≠ 32) (i f : Nat) : vi (mT h x) (p, i) f = vi h (p, i) f :=
  have n : ((p, i) : Ad) ≠ (32, 0) := fun z => hp (congrArg Prod.fst z)
  (vi_sI_ne _ _ _ _ n).trans (vi_sI_ne _ _ _ _ n)
theorem Old_cth (h : Hp) (n : Nat) : Old h (cthH h) n := fun j _ => ⟨fun f => cth_p h (by decide) j f, fun _ => rfl, rfl, fun p _ _ => ⟨rfl, fun i => cth_p h (by omega) j i⟩⟩
theorem Old_mT (h : Hp) (x : Int32) (n : Nat) : Old h (mT h x) n := fun j _ => ⟨fun f => mT_p h x (by decide) j f, fun _ => rfl, rfl, fun p _ _ => ⟨rfl, fun i => mT_p h x (by omega) j i⟩⟩
theorem dn_p (h : Hp) (k : Nat) (w d : Int32) (n : Nat) {p i : Nat} (hp : p ≠ 32) (hk : ¬ (p = 33 ∧ i = k)) (f : Nat) : vi (dnH h k w d n) (p, i) f = vi h (p, i) f := by
  have n3 : ((p, i) : Ad) ≠ (33, k) := fun z => hk ⟨congrArg Prod.fst z, congrArg Prod.snd z⟩
  unfold dnH
  rw [mT_p _ _ hp, vi_sI_ne _ _ _ _ (fun z => hp (congrArg Prod.fst z)), vi_sI_ne _ _ _ _ n3, vi_sI_ne _ _ _ _ n3]
theorem Old_dn (h : Hp) (k : Nat) (w d : Int32) (n m : Nat) (hk : m ≤ k) : Old h (dnH h k w d n) m := fun j hj => ⟨fun f => dn_p h k w d n (by decide) (by omega) f, fun _ => rfl, rfl, fun p _ _ => ⟨rfl, fun i => dn_p h k w d n (by omega) (by omega) i⟩⟩
theorem SK_rw {k : Nat} {h h' : Hp} (s : SK h k) (e : Eqv (fRw k) h h') (c2 : ∃ c, c ≤ 12 ∧ vi h' (33, k) 2 = nI c) : SK h' k := by
  obtain ⟨a1, a2, a3, a4, a5, a6⟩ := s
  have ec : ∀ p, cn h' p = cn h p := fun p => e.1 p rfl
  have el : ∀ p, ln h' (p, k) = ln h (p, k) := fun p => e.2.1 p k rfl
  have er : ∀ f, vr h' (33, k) f = vr h (33, k) f := fun f => e.2.2.1 33 k f rfl
  refine ⟨by rw [ec]; exact a1, (e.2.2.1 36 0 k rfl).trans a2, ?_, ?_, ?_, c2⟩
  · simp only [ec]; exact a3
  · simp only [er]; exact a4
  · simp only [el]; exact a5
theorem SK_cth {k : Nat} {h : Hp} (s : SK h k) : SK (cthH h) k := by
  obtain ⟨a1, a2, a3, a4, a5, c, hc, a6⟩ := s
  exact ⟨a1, a2, a3, a4, a5, c, hc, (cth_p h (by decide) k 2).trans a6⟩
/-- the way to the reading, with scheme n -/
def WB (h1 : Hp) (n : Nat) (hB : Hp) : Prop := Eqv fO8 h1 hB ∧ Eqv fX0 h1 hB ∧ vi hB (32, 0) 10 = 0 ∧ vi hB (32, 0) 5 = vi h1 (32, 0) 5 ∧ SM hB ∧ SK hB n ∧ Old h1 hB n ∧ n + 1 = cn hB 33 ∧ cn h1 33 ≤ cn hB 33 ∧ (∀ i, 40 ≤ i → i < 50 → cn hB i = cn hB 33) ∧ ∀ j, cn hB 33 ≤ j → j < 40 → vr hB (36, 0) j = vr h1 (36, 0) j
theorem scA_10 (h : Hp) (e : Nat) : vi (scA h e) (32, 0) 10 = 0 := (vi_sI_nk _ _ _ (by decide)).trans ((vi_sI_nk _ _ _ (by decide)).trans (vi_sI_eq _ _ _ _))
theorem WB_E {h : Hp} {e n : Nat} (m : SM h) (k : SK h n) (c33 : n + 1 = cn h 33) (c40 : ∀ i, 40 ≤ i → i < 50 → cn h i = cn h 33) : WB h n (scB h e n) := by
  refine ⟨O8_scB h e n, X0_scB h e n, ?_, ?_, scB_SM m, scB_SK k, Old_scB h e n, c33, Nat.le_refl _, c40, fun j hj _ => ?_⟩
  · unfold scB; rw [vi_sR]; exact scA_10 h e
  · unfold scB; rw [vi_sR]; exact scA_5 h e
  · have hj' : n + 1 ≤ j := by rw [c33]; exact hj
    unfold scB; rw [vr_sR, if_neg (fun z => by have := z.2; omega)]; rfl
theorem WB_N {h : Hp} {e n : Nat} (m : SM h) (c33 : cn h 33 = n) (c40 : ∀ i, 40 ≤ i → i < 50 → cn h i = n) : WB h n (scN h e n) := by
  have e33 : cn (scN h e n) 33 = n + 1 := by rw [scN_33, c33]
  refine ⟨O8_scN h e n, X0_scN h e n, (scN_v h e n (by decide) 0 10).trans (scA_10 h e), (scN_v h e n (by decide) 0 5).trans (scA_5 h e), scN_SM m e n, scN_SK c33 c40, Old_scN c33 c40, e33.symm, by omega, fun i h1 h2 => ?_, fun j hj _ => ?_⟩
  · rw [e33]
    have cX : ∀ p, 40 ≤ p → p < 50 → cn (nw (scA h e) 33 0) p = n := fun p h1 h2 => (sX_c (by omega)).trans (c40 p h1 h2)
    have cs : i = 40 ∨ i = 41 ∨ i = 42 ∨ i = 43 ∨ i = 44 ∨ i = 45 ∨ i = 46 ∨ i = 47 ∨ i = 48 ∨ i = 49 := by omega
    unfold scN scI
    rw [cn_sR]
    rcases cs with rfl | rfl | rfl | rfl | rfl | rfl | rfl | rfl | rfl | rfl
    · rw [iS_c40, cX 40 (by decide) (by decide)]
    · rw [iS_c41, cX 41 (by decide) (by decide)]
    · rw [iS_c42, cX 42 (by decide) (by decide)]
    · rw [iS_c43, cX 43 (by decide) (by decide)]
    · rw [iS_c44, cX 44 (by decide) (by decide)]
    · rw [iS_c45, cX 45 (by decide) (by decide)]
    · rw [iS_c46, cX 46 (by decide) (by decide)]
    · rw [iS_c47, cX 47 (by decide) (by decide)]
    · rw [iS_c48, cX 48 (by decide) (by decide)]
    · rw [iS_c49, cX 49 (by decide) (by decide)]
  · have hj' : n + 1 ≤ j := by rw [← e33]; exact hj
    unfold scN scI; rw [vr_sR, if_neg (fun z => by have := z.2; omega), iS_r _ _ (by decide) (by omega), vr_nw, if_neg (fun z => (by cases z))]; rfl
