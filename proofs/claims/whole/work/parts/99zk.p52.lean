/-! a scheme that is not kept -/
theorem hX_14 (Z : Hp) (x : Int32) : vi (xT (hSc Z) x) (0, 0) 14 = x := vi_sI_eq _ _ _ _
theorem hX_15 (Z : Hp) (x : Int32) : vi (xT (hSc Z) x) (0, 0) 15 = vi Z (2, 0) 6 := (vi_sI_nk _ _ _ (by decide)).trans (hSc_15 Z)
theorem hX_16 (Z : Hp) (x : Int32) : vi (xT (hSc Z) x) (0, 0) 16 = vi Z (1, 0) 4 := (vi_sI_nk _ _ _ (by decide)).trans (hSc_16 Z)
theorem hX_11 {h Z : Hp} (ez : Eqv fRz h Z) (x : Int32) : vi (xT (hSc Z) x) (0, 0) 11 = vi h (0, 0) 11 := (vi_sI_nk _ _ _ (by decide)).trans ((hSc_o Z (by decide) (by decide)).trans (ez.2.2.2.2 0 0 11 rfl))
theorem hX_1 (Z : Hp) (x : Int32) : vi (xT (hSc Z) x) (1, 0) 1 = nI 0 := (vi_sI_ne _ _ _ _ (fun z => (by cases z))).trans (vi_sI_eq _ _ _ _)
theorem ScA_w {h hf : Hp} (s : ScA h) (e : Eqv fO6 h hf) (h14 : vi hf (0, 0) 14 = vi hf (32, 0) 1) (h15 : vi hf (0, 0) 15 = vi hf (32, 0) 3) (h2 : vi hf (32, 0) 2 = if vi hf (0, 0) 14 = 4 then vi hf (0, 0) 16 else -1) : ScA hf := by
  obtain ⟨⟨w, hw, w1, w2⟩, ⟨dd, hd, d1, d2⟩, ⟨t, ht, t1, t2⟩, a4, a5, a6⟩ := s
  exact ⟨⟨w, hw, (e.2.2.2.2 0 0 10 rfl).trans w1, (e.2.2.2.2 32 0 4 rfl).trans w2⟩, ⟨dd, hd, (e.2.2.2.2 0 0 12 rfl).trans d1, (e.2.2.2.2 32 0 49 rfl).trans d2⟩, ⟨t, ht, (e.2.2.2.2 0 0 13 rfl).trans t1, (e.2.2.2.2 32 0 23 rfl).trans t2⟩, h14, h15, h2⟩
theorem TaR_0 {hf : Hp} (a : vi hf (1, 0) 1 = nI 0) (b : vi hf (32, 0) 10 = nI 0) : TaR hf := ⟨0, by decide, a, b, fun i hi => absurd hi (Nat.not_lt_zero i)⟩
theorem cth_1 (h : Hp) : vi (cthH h) (32, 0) 1 = 4 := (vi_sI_nk _ _ _ (by decide)).trans (vi_sI_eq _ _ _ _)
theorem cth_3 (h : Hp) : vi (cthH h) (32, 0) 3 = vi h (35, 0) 6 := (vi_sI_nk _ _ _ (by decide)).trans ((vi_sI_nk _ _ _ (by decide)).trans (vi_sI_eq _ _ _ _))
theorem cth_2 (h : Hp) : vi (cthH h) (32, 0) 2 = vi h (35, 0) 7 := vi_sI_eq _ _ _ _
theorem cth_o (h : Hp) {f : Nat} (h1 : f ≠ 1) (h2 : f ≠ 2) (h3 : f ≠ 3) : vi (cthH h) (32, 0) f = vi h (32, 0) f := (vi_sI_nk _ _ _ h2).trans ((vi_sI_nk _ _ _ h1).trans (vi_sI_nk _ _ _ h3))
theorem RR_cth {h Z hB h' : Hp} (r : RR h) (ez : Eqv fRz h Z) (b8 : Eqv fO8 (xT (hSc Z) 4) hB) (b0 : Eqv fX0 (xT (hSc Z) 4) hB) (t10 : vi hB (32, 0) 10 = 0) (e8 : Eqv fO8 hB h') (e0 : Eqv fX0 hB h') (t' : vi h' (32, 0) 10 = vi hB (32, 0) 10) (sm : SM h') {kk : Int32} {p : Nat} (k6 : vi h' (35, 0) 6 = kk) (k7 : vi h' (35, 0) 7 = nI p) (ce : CE Z kk p) (sr : SR (cthH h')) : RR (cthH h') := by
  have e : Eqv fO8 h (cthH h') := (O8_Sc ez).tr ((O8_xT _ 4).tr (b8.tr (e8.tr (O8_cth h'))))
  have x : Eqv fX0 (xT (hSc Z) 4) (cthH h') := b0.tr (e0.tr (X0_cth h'))
  have v0 : ∀ f, vi (cthH h') (0, 0) f = vi (xT (hSc Z) 4) (0, 0) f := fun f => x.2.2.2.2 0 0 f rfl
  refine RR_asm r (O8_6 e) (XI_congr (O8_XI e) r.1) (LD_congr (O8_LD e) r.2.1) sm (ScA_w r.2.2.2.1 (O8_6 e) ?_ ?_ ?_) (TaR_0 ?_ ?_) sr
  · rw [v0, hX_14, cth_1]
  · rw [v0, hX_15, cth_3, k6]; exact ce.1
  · rw [v0, v0, hX_14, if_pos rfl, hX_16, cth_2, k7]; exact ce.2.1.symm
  · exact (x.2.2.2.2 1 0 1 rfl).trans (hX_1 Z 4)
  · rw [cth_o h' (by decide) (by decide) (by decide), t', t10]; rfl
theorem O17_O8 {h hf : Hp} (e : Eqv fO8 h hf) (C : Nat) : O17 h hf C := fun x _ => ⟨fun f => e.2.2.2.2 8 x f rfl, fun f => e.2.2.2.2 17 x f rfl, e.2.1 17 x rfl⟩
theorem SR_cth {h Z hB h' : Hp} {n : Nat} (r : RR h) (ez : Eqv fRz h Z) (h5n : vi h (32, 0) 5 = nI n) (hn : n < 40) (wb : WB (xT (hSc Z) 4) n hB) (er : Eqv (fRw n) hB h') (c2 : ∃ c, c ≤ 12 ∧ vi h' (33, n) 2 = nI c) : SR (cthH h') := by
  obtain ⟨b8, b0, b10, b5, bm, bk, bo, b33, bge, b40, bn⟩ := wb
  have e : Eqv fO8 h (cthH h') := (O8_Sc ez).tr ((O8_xT _ 4).tr (b8.tr ((O8_rw er).tr (O8_cth h'))))
  have x : Eqv fX0 (xT (hSc Z) 4) (cthH h') := b0.tr ((X0_rw er).tr (X0_cth h'))
  have m3 : Eqv fM3 h (xT (hSc Z) 4) := (M3_Sc ez).tr (M3_xT _ 4)
  have c33 : cn (cthH h') 33 = cn hB 33 := er.1 33 rfl
  have h1c : cn (xT (hSc Z) 4) 33 = cn h 33 := m3.1 33 rfl
  refine SR_no h5n r.2.2.2.2.2.2.2.2.2.2.2 ((x.2.2.2.2 0 0 11 rfl).trans (hX_11 ez 4)) ?_ (e.1 8 rfl) (by omega) ((Old_M3 m3 n).tr (bo.tr ((Old_rw er (Nat.le_refl n)).tr (Old_cth h' n)))) (O17_O8 e _) (Or.inr (b33.trans c33.symm)) (by rw [c33]; omega) (by rw [c33]; omega) (fun i h1 h2 => ?_) (fun _ => SK_cth (SK_rw bk er c2)) (fun j h1 h2 => ?_)
  · rw [cth_o h' (by decide) (by decide) (by decide), er.2.2.2.2 32 0 5 rfl, b5]; exact m3.2.2.2.2 32 0 5 rfl
  · rw [c33]; exact (er.1 i rfl).trans (b40 i h1 h2)
  · rw [c33] at h1
    exact ((er.2.2.1 36 0 j rfl).trans (bn j h1 h2)).trans (m3.2.2.1 36 0 j rfl)
/-! the spare -/
theorem RR_sp {h Z h' : Hp} {e : Nat} (r : RR h) (ez : Eqv fRz h Z) (fz : vi Z (2, 0) 6 = 0) (er : Eqv (fRw_s 0) (scA (xT (hSc Z) 3) e) h') (sm : SM h') (sr : SR (mT h' 3)) : RR (mT h' 3) := by
  have b8 := O8_scA (xT (hSc Z) 3) e
  have b0 := X0_scA (xT (hSc Z) 3) e
  have e8 : Eqv fO8 h (mT h' 3) := (O8_Sc ez).tr ((O8_xT _ 3).tr (b8.tr ((O8_rws er).tr (O8_mT h' 3))))
  have x : Eqv fX0 (xT (hSc Z) 3) (mT h' 3) := b0.tr ((X0_rws er).tr (X0_mT h' 3))
  have v0 : ∀ f, vi (mT h' 3) (0, 0) f = vi (xT (hSc Z) 3) (0, 0) f := fun f => x.2.2.2.2 0 0 f rfl
  have m1 : vi (mT h' 3) (32, 0) 1 = 3 := (vi_sI_nk _ _ _ (by decide)).trans (vi_sI_eq _ _ _ _)
  have m2 : vi (mT h' 3) (32, 0) 2 = -1 := vi_sI_eq _ _ _ _
  have mo : ∀ f, f ≠ 1 → f ≠ 2 → vi (mT h' 3) (32, 0) f = vi h' (32, 0) f := fun f h1 h2 => (vi_sI_nk _ _ _ h2).trans (vi_sI_nk _ _ _ h1)
  refine RR_asm r (O8_6 e8) (XI_congr (O8_XI e8) r.1) (LD_congr (O8_LD e8) r.2.1) sm (ScA_w r.2.2.2.1 (O8_6 e8) ?_ ?_ ?_) (TaR_0 ?_ ?_) sr
  · rw [v0, hX_14, m1]
  · rw [v0, hX_15, fz, mo 3 (by decide) (by decide), er.2.2.2.2 32 0 3 rfl]; exact (vi_sI_eq _ _ _ _).symm
  · rw [v0, hX_14, if_neg (by decide), m2]
  · exact (x.2.2.2.2 1 0 1 rfl).trans (hX_1 Z 3)
  · rw [mo 10 (by decide) (by decide), er.2.2.2.2 32 0 10 rfl, scA_10]; rfl
theorem SR_sp {h Z h' hf : Hp} {e n : Nat} {y : Int32} (r : RR h) (ez : Eqv fRz h Z) (hn : n = 40) (h5n : vi h (32, 0) 5 = nI n) (er : Eqv (fRw_s 0) (scA (xT (hSc Z) y) e) h') (ef : Eqv fO8 h' hf) (xf : Eqv fX0 h' hf) (of : Old h' hf n) (v5 : vi hf (32, 0) 5 = vi h' (32, 0) 5) (cf : ∀ p, cn hf p = cn h' p) : SR hf := by
  have e8 : Eqv fO8 h hf := (O8_Sc ez).tr ((O8_xT _ y).tr ((O8_scA _ e).tr ((O8_rws er).tr ef)))
  have x : Eqv fX0 (xT (hSc Z) y) hf := (X0_scA _ e).tr ((X0_rws er).tr xf)
  have m3 : Eqv fM3 h (xT (hSc Z) y) := (M3_Sc ez).tr (M3_xT _ y)
  have cc : ∀ p, 32 ≤ p → cn hf p = cn h p := fun p hp => (cf p).trans ((er.1 p rfl).trans ((scA_c _ e p).trans (m3.1 p (Nat.ble_eq.mpr hp))))
  have cc33 := cc 33 (by decide)
  have sr := r.2.2.2.2.2.2.2.2.2.2.2
  have sr2 := sr
  obtain ⟨n', s1, s2, s3, s4, s5, s6, s7, s8, s9⟩ := sr2
  have nn : n' = n := (nI_eq (by omega) (by omega)).mp (s3.symm.trans h5n)
  have c33 : cn h 33 = 40 := by omega
  have h11 : vi hf (0, 0) 11 = vi h (0, 0) 11 := (x.2.2.2.2 0 0 11 rfl).trans (hX_11 ez y)
  have h5 : vi hf (32, 0) 5 = vi h (32, 0) 5 := by rw [v5, er.2.2.2.2 32 0 5 rfl, scA_5]; exact m3.2.2.2.2 32 0 5 rfl
  have old : Old h hf n := (Old_M3 m3 n).tr ((Old_scA _ e n).tr ((Old_rws er).tr of))
  have c40 : ∀ i, 40 ≤ i → i < 50 → cn hf i = cn hf 33 := fun i h1 h2 => by rw [cc i (by omega), cc33]; exact s8 i h1 h2
  exact SR_no h5n sr h11 h5 (e8.1 8 rfl) (by omega) old (O17_O8 e8 _) (Or.inl (by rw [cc33, c33, hn])) (by rw [cc33, c33]; exact Nat.le_refl _) (by rw [cc33]; exact Nat.le_refl _) c40 (fun z => absurd z (by rw [cc33, c33, hn]; exact Nat.lt_irrefl _)) (fun j h1 h2 => absurd h2 (by rw [cc33, c33] at h1; omega))
