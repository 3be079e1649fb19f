def hKp (h2 : Hp) (n : Nat) : Hp := xT (sI h2 (0, 0) 11 (nI (n + 1))) 0
theorem hKp_E {P : Fpt} {h h2 : Hp} {n : Nat} (e : Eqv P h h2) (a : ¬ P.2.2.2.2 0 0 11 = true) (b : ¬ P.2.2.2.2 0 0 14 = true) : Eqv P h (hKp h2 n) := Eqv.sI (Eqv.sI e a) b
theorem hKp_v (h2 : Hp) (n : Nat) {p : Nat} (hp : p ≠ 0) (i f : Nat) : vi (hKp h2 n) (p, i) f = vi h2 (p, i) f := (vi_sI_ne _ _ _ _ (fun z => hp (congrArg Prod.fst z))).trans (vi_sI_ne _ _ _ _ (fun z => hp (congrArg Prod.fst z)))
theorem hKp_11 (h2 : Hp) (n : Nat) : vi (hKp h2 n) (0, 0) 11 = nI (n + 1) := (vi_sI_nk _ _ _ (by decide)).trans (vi_sI_eq _ _ _ _)
theorem hKp_14 (h2 : Hp) (n : Nat) : vi (hKp h2 n) (0, 0) 14 = 0 := vi_sI_eq _ _ _ _
theorem hKp_o (h2 : Hp) (n : Nat) {f : Nat} (h1 : f ≠ 11) (h14 : f ≠ 14) : vi (hKp h2 n) (0, 0) f = vi h2 (0, 0) f := (vi_sI_nk _ _ _ h14).trans (vi_sI_nk _ _ _ h1)
theorem dn_1 (h : Hp) (k : Nat) (w d : Int32) (n : Nat) : vi (dnH h k w d n) (32, 0) 1 = 0 := (vi_sI_nk _ _ _ (by decide)).trans (vi_sI_eq _ _ _ _)
theorem dn_2 (h : Hp) (k : Nat) (w d : Int32) (n : Nat) : vi (dnH h k w d n) (32, 0) 2 = -1 := vi_sI_eq _ _ _ _
theorem dn_5 (h : Hp) (k : Nat) (w d : Int32) (n : Nat) : vi (dnH h k w d n) (32, 0) 5 = nI (n + 1) := (vi_sI_nk _ _ _ (by decide)).trans ((vi_sI_nk _ _ _ (by decide)).trans (vi_sI_eq _ _ _ _))
theorem dn_o (h : Hp) (k : Nat) (w d : Int32) (n : Nat) {f : Nat} (h1 : f ≠ 1) (h2 : f ≠ 2) (h5 : f ≠ 5) : vi (dnH h k w d n) (32, 0) f = vi h (32, 0) f := (vi_sI_nk _ _ _ h2).trans ((vi_sI_nk _ _ _ h1).trans ((vi_sI_nk _ _ _ h5).trans ((vi_sI_ne _ _ _ _ (fun z => (by cases z))).trans (vi_sI_ne _ _ _ _ (fun z => (by cases z))))))
theorem dn_w (h : Hp) (k : Nat) (w d : Int32) (n : Nat) : vi (dnH h k w d n) (33, k) 0 = w := (mT_p _ _ (by decide) _ _).trans ((vi_sI_ne _ _ _ _ (fun z => (by cases z))).trans ((vi_sI_nk _ _ _ (by decide)).trans (vi_sI_eq _ _ _ _)))
theorem dn_d (h : Hp) (k : Nat) (w d : Int32) (n : Nat) : vi (dnH h k w d n) (33, k) 1 = d := (mT_p _ _ (by decide) _ _).trans ((vi_sI_ne _ _ _ _ (fun z => (by cases z))).trans (vi_sI_eq _ _ _ _))
theorem dn_c (h : Hp) (k : Nat) (w d : Int32) (n : Nat) : vi (dnH h k w d n) (33, k) 2 = vi h (33, k) 2 := (mT_p _ _ (by decide) _ _).trans ((vi_sI_ne _ _ _ _ (fun z => (by cases z))).trans ((vi_sI_nk _ _ _ (by decide)).trans (vi_sI_nk _ _ _ (by decide))))
theorem SK_dn {h : Hp} {k : Nat} {w d : Int32} {n : Nat} (s : SK h k) : SK (dnH h k w d n) k := by
  obtain ⟨a1, a2, a3, a4, a5, c, hc, a6⟩ := s
  exact ⟨a1, a2, a3, a4, a5, c, hc, (dn_c h k w d n).trans a6⟩
/-- the new changes -/
theorem keep_ch {h Z h2 h' hf : Hp} {n c : Nat} {T : Nat → Nat} {w d : Int32} (kp : KP (hSc Z) (cn (hSc Z) 8) T (nI n) w d (vi (hSc Z) (13, 3)) (vi (hSc Z) (13, 4)) c h2) (kn : Kn h Z h' n c T) (hv8 : ∀ x f, vi hf (8, x) f = vi h2 (8, x) f) (hv17 : ∀ x f, vi hf (17, x) f = vi h2 (17, x) f) (hl17 : ∀ x, ln hf (17, x) = ln h2 (17, x)) (e0 : vi hf (33, n) 0 = w) (e1 : vi hf (33, n) 1 = d) (er : ∀ p, 40 ≤ p → p < 50 → ∀ i, vi hf (p, n) i = vi h' (p, n) i) {i : Nat} (hi : i < c) : ChR hf n i (cn (hSc Z) 8 + i) := by
  obtain ⟨N, C, R, cd', rl', d1, pl, rs, lr, eF, eL⟩ := kn.at i hi
  obtain ⟨a0, a1, a2, a3, a4, a5, a6, a7⟩ := kp.2.2.2.2.2.2.2 i hi
  have df : DF n (i + 1) h' hf (vi Z (13, 3)) (vi Z (13, 4)) N (vi Z (13, 3)) (vi Z (13, 4)) N := ⟨fun p hp j _ => er p (by omega) (by omega) j, fun j _ => er 48 (by decide) (by decide) j, fun j _ => er 49 (by decide) (by decide) j, fun _ _ => rfl, fun _ _ => rfl, fun _ _ => rfl⟩
  refine ChR_of (Z := Z) (cd' := cd') (D1_c df d1) (RLs_c (er 45 (by decide) (by decide)) (er 46 (by decide) (by decide)) (er 47 (by decide) (by decide)) _ rs) lr pl ((hv8 _ _).trans a0) ((hv8 _ _).trans (a1.trans e0.symm)) ((hv8 _ _).trans (a2.trans e1.symm)) ((hv8 _ _).trans (a3.trans (hSc_n Z (by decide) (by decide)))) ((hv8 _ _).trans (a4.trans (hSc_n Z (by decide) (by decide)))) ((hl17 _).trans (a6.trans eL)) (fun j hj => ?_)
  rw [hv17, a7 j (by rw [eL]; exact hj), eF]; exact hSc_n Z (by decide) (by decide)
theorem SR_keep {h Z h2 hB h' : Hp} {n c : Nat} {T : Nat → Nat} {w d : Int32} (r : RR h) (ez : Eqv fRz h Z) (h5n : vi h (32, 0) 5 = nI n) (hn : n < 40) (kp : KP (hSc Z) (cn (hSc Z) 8) T (nI n) w d (vi (hSc Z) (13, 3)) (vi (hSc Z) (13, 4)) c h2) (kn : Kn h Z h' n c T) (wb : WB (hKp h2 n) n hB) (er : Eqv (fRw n) hB h') : SR (dnH h' n w d n) := by
  obtain ⟨b8, b0, b10, b5, bm, bk, bo, b33, bge, b40, bn⟩ := wb
  have m3 : Eqv fM3 h (hKp h2 n) := hKp_E ((M3_Sc ez).tr (M3_kp kp.2.2.2.1)) Bool.false_ne_true Bool.false_ne_true
  have x : Eqv fX0 (hKp h2 n) (dnH h' n w d n) := b0.tr ((X0_rw er).tr (X0_dn h' n w d n))
  have c33 : cn (dnH h' n w d n) 33 = cn hB 33 := er.1 33 rfl
  have h1c : cn (hKp h2 n) 33 = cn h 33 := m3.1 33 rfl
  have ea := O8_Sc ez
  have e8 : cn (hSc Z) 8 = cn h 8 := ea.1 8 rfl
  have v8 : ∀ y f, vi (dnH h' n w d n) (8, y) f = vi h2 (8, y) f := fun y f => (x.2.2.2.2 8 y f rfl).trans (hKp_v h2 n (by decide) y f)
  have v17 : ∀ y f, vi (dnH h' n w d n) (17, y) f = vi h2 (17, y) f := fun y f => (x.2.2.2.2 17 y f rfl).trans (hKp_v h2 n (by decide) y f)
  have l17 : ∀ y, ln (dnH h' n w d n) (17, y) = ln h2 (17, y) := fun y => x.2.1 17 y rfl
  have c8 : cn (dnH h' n w d n) 8 = cn h2 8 := x.1 8 rfl
  have old : Old h (dnH h' n w d n) n := (Old_M3 m3 n).tr (bo.tr ((Old_rw er (Nat.le_refl n)).tr (Old_dn h' n w d n n (Nat.le_refl n))))
  have er2 : ∀ p, 40 ≤ p → p < 50 → ∀ i, vi (dnH h' n w d n) (p, n) i = vi h' (p, n) i := fun p h1 h2 i => dn_p h' n w d n (by omega) (by omega) i
  have kn2 := kn
  obtain ⟨rl, N, cd, k1, k2, k3, k4, k5, k6, k7, k9, k10, k11⟩ := kn2
  obtain ⟨n', s1, s2, s3, s4, s5, s6, s7, s8, s9⟩ := r.2.2.2.2.2.2.2.2.2.2.2
  have nn : n' = n := (nI_eq (by omega) (by omega)).mp (s3.symm.trans h5n)
  subst nn
  have ec : ∀ p, (p = 33 ∨ (40 ≤ p ∧ p < 50)) → cn h p ≤ cn (dnH h' n' w d n') p := by
    rintro p (rfl | ⟨z1, z2⟩)
    · rw [c33]; omega
    · rw [show cn (dnH h' n' w d n') p = cn hB p from er.1 p rfl, b40 p z1 z2, s8 p z1 z2]; omega
  have o17 : O17 h (dnH h' n' w d n') (offN h n') := by
    rw [← s9.1]
    intro y hy
    obtain ⟨o1, o2, o3, o4⟩ := kp.2.2.2.2.2.2.1 y (by rw [e8]; exact hy)
    exact ⟨fun f => (v8 y f).trans ((o1 f).trans (ea.2.2.2.2 8 y f rfl)), fun f => (v17 y f).trans ((o3 f).trans (ea.2.2.2.2 17 y f rfl)), (l17 y).trans (o4.trans (ea.2.1 17 y rfl))⟩
  have ch : chN (dnH h' n' w d n') n' = c := by unfold chN; rw [dn_c, k5, nI_clamp (by omega)]
  have off : offN (dnH h' n' w d n') n' = cn h 8 := by rw [old.off n' (Nat.le_refl _)]; exact s9.1.symm
  refine ⟨n' + 1, by omega, (x.2.2.2.2 0 0 11 rfl).trans (hKp_11 h2 n'), dn_5 h' n' w d n', Or.inl (b33.trans c33.symm), by rw [c33]; omega, fun k hk => ?_, fun j h1 h2' => ?_, fun i h1 h2' => ?_, ?_, fun k hk => ?_⟩
  · by_cases z : k < n'
    · exact old.sk ec (fun k hk => s6 k (by omega)) k z
    · have : k = n' := by omega
      rw [this]; exact SK_dn k2
  · rw [c33] at h1
    exact ((er.2.2.1 36 0 j rfl).trans (bn j h1 h2')).trans ((m3.2.2.1 36 0 j rfl).trans (s7 j (by omega) h2'))
  · rw [c33]; exact (er.1 i rfl).trans (b40 i h1 h2')
  · show _ = offN (dnH h' n' w d n') n' + chN (dnH h' n' w d n') n'
    rw [ch, off, c8, kp.2.2.2.2.1, e8]
  · by_cases z : k < n'
    · exact old.ch o17 s9.2 k z
    · have : k = n' := by omega
      subst this
      rw [ch, off, ← e8]
      exact ⟨k6, fun i hi => keep_ch kp kn v8 v17 l17 (dn_w _ _ _ _ _) (dn_d _ _ _ _ _) er2 hi⟩
theorem RR_keep {h Z h2 hB h' : Hp} {n c : Nat} {T : Nat → Nat} {w d : Int32} (r : RR h) (ez : Eqv fRz h Z) (fz : vi Z (2, 0) 6 = 0) (h5n : vi h (32, 0) 5 = nI n) (hn : n < 40) (kp : KP (hSc Z) (cn (hSc Z) 8) T (nI n) w d (vi (hSc Z) (13, 3)) (vi (hSc Z) (13, 4)) c h2) (kn : Kn h Z h' n c T) (wb : WB (hKp h2 n) n hB) (b3 : vi hB (32, 0) 3 = 0) (er : Eqv (fRw n) hB h') : RR (dnH h' n w d n) ∧ cn h 8 + c ≤ 480 := by
  have sr := SR_keep r ez h5n hn kp kn wb er
  have h480 : cn h 8 + c ≤ 480 := by
    obtain ⟨n', s1, s2, s3, s4, s5, s6, s7, s8, s9⟩ := r.2.2.2.2.2.2.2.2.2.2.2
    have nn : n' = n := (nI_eq (by omega) (by omega)).mp (s3.symm.trans h5n)
    have ol := off_le n' (fun k hk => (s9.2 k hk).1)
    obtain ⟨rl, N, cd, k1, k2, k3, k4, k5, k6, _⟩ := kn
    have := s9.1
    omega
  refine ⟨?_, h480⟩
  obtain ⟨b8, b0, b10, b5, bm, bk, bo, b33, bge, b40, bn⟩ := wb
  have x : Eqv fX0 (hKp h2 n) (dnH h' n w d n) := b0.tr ((X0_rw er).tr (X0_dn h' n w d n))
  have e6 : Eqv fO6 h (dnH h' n w d n) := (hKp_E ((O8_6 (O8_Sc ez)).tr (O6_kp kp.2.2.2.1)) Bool.false_ne_true Bool.false_ne_true).tr ((O8_6 b8).tr ((O8_6 (O8_rw er)).tr (O8_6 (O8_dn h' n w d n))))
  have xi1 : XI (hKp h2 n) := XI_congr (hKp_E (Eqv.rf h2) Bool.false_ne_true Bool.false_ne_true) (XI_keep r ez kp kn h480)
  have ld1 : LD (hKp h2 n) := LD_congr (hKp_E (Eqv.rf h2) Bool.false_ne_true Bool.false_ne_true) kp.2.1
  have k4 := kp.2.2.2.1
  have v0 : ∀ f, vi (dnH h' n w d n) (0, 0) f = vi (hKp h2 n) (0, 0) f := fun f => x.2.2.2.2 0 0 f rfl
  have sm : SM h' := by obtain ⟨rl, N, cd, k1, _⟩ := kn; exact k1
  refine RR_asm r e6 (XI_congr (X0_XI x) xi1) (LD_congr (X0_LD x) ld1) sm (ScA_w r.2.2.2.1 e6 ?_ ?_ ?_) (TaR_0 ?_ ?_) sr
  · rw [v0, hKp_14, dn_1]
  · rw [v0, hKp_o h2 n (by decide) (by decide), k4.2.2.2.2 0 0 15 rfl, hSc_15, fz, dn_o h' n w d n (by decide) (by decide) (by decide), er.2.2.2.2 32 0 3 rfl, b3]
  · rw [v0, hKp_14, if_neg (by decide), dn_2]
  · rw [x.2.2.2.2 1 0 1 rfl, hKp_v h2 n (by decide), k4.2.2.2.2 1 0 1 rfl]; exact vi_sI_eq _ _ _ _
  · rw [dn_o h' n w d n (by decide) (by decide) (by decide), er.2.2.2.2 32 0 10 rfl, b10]; rfl
