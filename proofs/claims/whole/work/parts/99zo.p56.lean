theorem scA_SM {h : Hp} {e : Nat} (m : SM h) : SM (scA h e) := m
theorem cE {h hf : Hp} (e : Eqv fO6 h hf) : cn hf 9 = cn h 9 ∧ cn hf 10 = cn h 10 ∧ cn hf 11 = cn h 11 ∧ cn hf 12 = cn h 12 := ⟨e.1 9 rfl, e.1 10 rfl, e.1 11 rfl, e.1 12 rfl⟩
theorem op_schemeN (g : G0) (h : Hp) (r : RR h) {w d x : Int32} (hno : ¬ (¬ xWb h w = 0 ∧ ¬ xDy d = 0 ∧ ¬ x < 0 ∧ x ≤ vi h (1, 0) 1)) : Op g h yX11_scheme wX11_scheme (pR (0, 0) :: [pI w, pI d, pI x]) yX14_scheme wX14_scheme (pR (32, 0) :: [pI w, pI d, pI x]) 9 54 0 0 0 0 := by
  obtain ⟨L, hL, t1, t2, tb⟩ := r.2.2.2.2.1
  have wbk : ∀ k : Int32, mWb (mZ (xT h k)) w = xWb h w := fun k => wb_eq r.2.2.2.1 (by rw [mZ_v _ _ (by decide), xT_o _ _ (by decide)]) w
  have hno2 : ∀ k : Int32, ¬ (¬ mWb (mZ (xT h k)) w = 0 ∧ ¬ mDy d = 0 ∧ ¬ x < 0 ∧ x ≤ vi (xT h k) (32, 0) 10) := fun k z => hno ⟨by rw [← wbk k]; exact z.1, z.2.1, z.2.2.1, by have y := z.2.2.2; rw [xT_o _ _ (by decide), t2] at y; rw [t1]; exact y⟩
  by_cases c1 : xWb h w = 0
  · refine Op.of2 (-1 : Int32) (xT h 1) (mT (mZ (xT h 1)) 1) ?_ ?_ (m_schemeN g h r.1 hno) (M_schemeN g (xT h 1) (MJ_congr (h' := xT h 1) (Eqv.sI (Eqv.rf _) Bool.false_ne_true) r.2.2.1).1.1 (hno2 1)) (RR_ref1 r) rfl
    · unfold xSchN; rw [if_pos c1]
    · unfold mSchN; rw [if_pos ((wbk 1).trans c1)]
  · refine Op.of2 (-1 : Int32) (xT h 2) (mT (mZ (xT h 2)) 2) ?_ ?_ (m_schemeN g h r.1 hno) (M_schemeN g (xT h 2) (MJ_congr (h' := xT h 2) (Eqv.sI (Eqv.rf _) Bool.false_ne_true) r.2.2.1).1.1 (hno2 2)) (RR_ref2 r) rfl
    · unfold xSchN; rw [if_neg c1]
    · unfold mSchN; rw [if_neg (by rw [wbk 2]; exact c1)]
/-- a fault -/
theorem op_schemeF (g : G0) (h : Hp) {w d : Int32} {e : Nat} (r : RR h) (ok : ¬ xWb h w = 0 ∧ ¬ xDy d = 0) (he : e ≤ 300) (hL1 : nI e ≤ vi h (1, 0) 1) (hL2 : nI e ≤ vi h (32, 0) 10) (r4 : ∀ i, i < e → mb h i = vi h (13, 0) i) {Z : Hp} (rz : RdZ g h e Z) {n : Nat} (h11 : vi h (0, 0) 11 = nI n) (h5n : vi h (32, 0) 5 = nI n) (hn : n < 40) (fz : ¬ vi Z (2, 0) 6 = 0) : ∃ b, b ≤ 1 ∧ Op g h yX11_scheme wX11_scheme (pR (0, 0) :: [pI w, pI d, pI (nI e)]) yX14_scheme wX14_scheme (pR (32, 0) :: [pI w, pI d, pI (nI e)]) 9 54 0 0 (11 * b) (560 * b) := by
  obtain ⟨rz1, ez, sz, fe, c0, ⟨te, nm, sg, nu, W, M, N, cs⟩, hZ⟩ := id rz
  have m3 : Eqv fM3 h (xT (hSc Z) 4) := (M3_Sc ez).tr (M3_xT _ 4)
  obtain ⟨hB, b, hb, hm, wb, b3, c33, h33⟩ := ref_any g r m3 ok he hL2 r4 cs hZ h5n hn
  refine ⟨b, hb, Mx.mono ?_ (fun _ _ z => z) (m_schemeR g h r.1 ok he hL1 rz (Or.inl fz))⟩
  rintro r1 h1 ⟨rfl, rfl⟩
  rw [xSchR, if_neg fz]
  refine ⟨-1, rfl, Mx.mono ?_ (fun _ _ z => z) hm⟩
  rintro r2 hf (⟨rfl, h', ⟨-, er, ⟨kk, p, k6, k7, ce⟩, c2⟩, rfl⟩ | ⟨rfl, h', pq, rfl⟩)
  · have rr := RR_cth r ez wb.1 wb.2.1 wb.2.2.1 (O8_rw er) (X0_rw er) (er.2.2.2.2 32 0 10 rfl) (SM_E er (fun _ => rfl) (fun _ => rfl) (fun _ => rfl) wb.2.2.2.2.1) k6 k7 ce (SR_cth r ez h5n hn wb er c2)
    have e8 : Eqv fO8 h (cthH h') := (O8_Sc ez).tr ((O8_xT _ 4).tr (wb.1.tr ((O8_rw er).tr (O8_cth h'))))
    obtain ⟨p9, p10, p11, p12⟩ := cE (O8_6 e8)
    have pt := pot_le (h := h) (hf := cthH h') p9 p10 p11 p12 (a := 0) (b := b) (e8.1 8 rfl) r.1.le.1 ((er.1 33 rfl).trans c33) h33
    exact ⟨rfl, rr, by omega, by omega⟩
  · obtain ⟨-, E, n5, cp, q, rl, te5, nm5, sg5, nu5, W5, M5, N5, cd5, r5, n1, n12, hrl, e2, cs5, dl⟩ := pq
    exact absurd cs5.2.2.2.2.2.2 fz
theorem op_schemeS (g : G0) (h : Hp) {w d : Int32} {e : Nat} (r : RR h) (ok : ¬ xWb h w = 0 ∧ ¬ xDy d = 0) (he : e ≤ 300) (hL1 : nI e ≤ vi h (1, 0) 1) (hL2 : nI e ≤ vi h (32, 0) 10) (r4 : ∀ i, i < e → mb h i = vi h (13, 0) i) {Z : Hp} (rz : RdZ g h e Z) {n : Nat} (h11 : vi h (0, 0) 11 = nI n) (h5n : vi h (32, 0) 5 = nI n) (hn : n = 40) : Op g h yX11_scheme wX11_scheme (pR (0, 0) :: [pI w, pI d, pI (nI e)]) yX14_scheme wX14_scheme (pR (32, 0) :: [pI w, pI d, pI (nI e)]) 9 54 0 0 0 0 := by
  obtain ⟨rz1, ez, sz, fe, c0, ⟨te, nm, sg, nu, W, M, N, cs⟩, hZ⟩ := id rz
  have n40 : ¬ vi h (0, 0) 11 < 40 := by rw [h11, hn]; decide
  refine Mx.mono ?_ (fun _ _ z => z) (m_schemeR g h r.1 ok he hL1 rz (Or.inr n40))
  rintro r1 h1 ⟨rfl, rfl⟩
  unfold xSchR
  by_cases fz : vi Z (2, 0) 6 = 0
  · rw [if_pos fz]
    have m3 : Eqv fM3 h (xT (hSc Z) 3) := (M3_Sc ez).tr (M3_xT _ 3)
    refine ⟨-1, rfl, Mx.mono ?_ (fun _ _ z => z) (ref_40 g r m3 ok he hL2 r4 cs hZ hn h5n)⟩
    rintro r2 hf (⟨rfl, h', ⟨-, er, ⟨kk, p, k6, k7, ce⟩, c2⟩, rfl⟩ | ⟨rfl, h', pq, rfl⟩)
    · exact absurd (ce.1.symm.trans fz) ce.2.2
    · obtain ⟨-, er, n5, cp, q, rl, te5, nm5, sg5, nu5, W5, M5, N5, cd5, r5, _⟩ := pq
      have sr := SR_sp (hf := mT h' 3) r ez hn h5n er (O8_mT h' 3) (X0_mT h' 3) (Old_mT h' 3 n) ((vi_sI_nk _ _ _ (by decide)).trans (vi_sI_nk _ _ _ (by decide))) (fun _ => rfl)
      have rr := RR_sp r ez fz er r5.1 sr
      have e8 : Eqv fO8 h (mT h' 3) := (O8_Sc ez).tr ((O8_xT _ 3).tr ((O8_scA _ e).tr ((O8_rws er).tr (O8_mT h' 3))))
      obtain ⟨p9, p10, p11, p12⟩ := cE (O8_6 e8)
      have c33 : cn (mT h' 3) 33 = cn h 33 + 0 := (er.1 33 rfl).trans ((scA_c _ e 33).trans (m3.1 33 rfl))
      obtain ⟨n', s1, s2, s3, s4, s5, _⟩ := r.2.2.2.2.2.2.2.2.2.2.2
      have pt := pot_le (h := h) (hf := mT h' 3) p9 p10 p11 p12 (a := 0) (b := 0) (e8.1 8 rfl) r.1.le.1 c33 s5
      exact ⟨rfl, rr, by omega, by omega⟩
  · rw [if_neg fz]
    have m3 : Eqv fM3 h (xT (hSc Z) 4) := (M3_Sc ez).tr (M3_xT _ 4)
    refine ⟨-1, rfl, Mx.mono ?_ (fun _ _ z => z) (ref_40 g r m3 ok he hL2 r4 cs hZ hn h5n)⟩
    rintro r2 hf (⟨rfl, h', ⟨-, er, ⟨kk, p, k6, k7, ce⟩, c2⟩, rfl⟩ | ⟨rfl, h', pq, rfl⟩)
    · have hM4 : SM (xT (hSc Z) 4) := SM_M3 m3 r.2.2.1.1.1
      have hMA : SM (scA (xT (hSc Z) 4) e) := scA_SM hM4
      have sr := SR_sp (hf := cthH h') r ez hn h5n er (O8_cth h') (X0_cth h') (Old_cth h' n) (cth_o h' (by decide) (by decide) (by decide)) (fun _ => rfl)
      have rr := RR_cth r ez (O8_scA _ e) (X0_scA _ e) (scA_10 _ e) (O8_rws er) (X0_rws er) (er.2.2.2.2 32 0 10 rfl) (SM_E er (fun _ => rfl) (fun _ => rfl) (fun _ => rfl) hMA) k6 k7 ce sr
      have e8 : Eqv fO8 h (cthH h') := (O8_Sc ez).tr ((O8_xT _ 4).tr ((O8_scA _ e).tr ((O8_rws er).tr (O8_cth h'))))
      obtain ⟨p9, p10, p11, p12⟩ := cE (O8_6 e8)
      have c33 : cn (cthH h') 33 = cn h 33 + 0 := (er.1 33 rfl).trans ((scA_c _ e 33).trans (m3.1 33 rfl))
      obtain ⟨n', s1, s2, s3, s4, s5, _⟩ := r.2.2.2.2.2.2.2.2.2.2.2
      have pt := pot_le (h := h) (hf := cthH h') p9 p10 p11 p12 (a := 0) (b := 0) (e8.1 8 rfl) r.1.le.1 c33 s5
      exact ⟨rfl, rr, by omega, by omega⟩
    · obtain ⟨-, er, n5, cp, q, rl, te5, nm5, sg5, nu5, W5, M5, N5, cd5, r5, n1, n12, hrl, e2, cs5, dl⟩ := pq
      exact absurd cs5.2.2.2.2.2.2 fz
theorem op_schemeK (g : G0) (h : Hp) {w d : Int32} {e : Nat} (r : RR h) (ok : ¬ xWb h w = 0 ∧ ¬ xDy d = 0) (he : e ≤ 300) (hL1 : nI e ≤ vi h (1, 0) 1) (hL2 : nI e ≤ vi h (32, 0) 10) (r4 : ∀ i, i < e → mb h i = vi h (13, 0) i) {Z : Hp} (rz : RdZ g h e Z) {n : Nat} (h11 : vi h (0, 0) 11 = nI n) (h5n : vi h (32, 0) 5 = nI n) (hn : n < 40) (fz : vi Z (2, 0) 6 = 0) : ∃ a b, a ≤ 12 ∧ b ≤ 1 ∧ Op g h yX11_scheme wX11_scheme (pR (0, 0) :: [pI w, pI d, pI (nI e)]) yX14_scheme wX14_scheme (pR (32, 0) :: [pI w, pI d, pI (nI e)]) 9 54 (3 * a) (1806 * a) (11 * b) (560 * b) := by
  obtain ⟨rz1, ez, sz, fe, c0, ⟨te, nm, sg, nu, W, M, N, cs⟩, hZ⟩ := id rz
  rcases fe with ⟨k, p, ce, k0⟩ | ⟨q, c, cm, te2, op, no, nm2, sg2, nu2, W2, M2, N2, cd2, hd2, cz, c1, c12, en⟩
  · exact absurd (ce.1.symm.trans fz) k0
  obtain ⟨T, hT⟩ := en
  have h5 : vi Z (2, 0) 5 = nI c := cz.2.2.2.1.1
  have cN : vi Z (13, 5) = N2 := cz.2.2.2.2.1.2.2
  have hT2 : ∀ i, i < c → vi Z (13, 5) i = nI (T i) ∧ fromT T i ≤ T i ∧ T i ≤ 299 := fun i hi => by rw [cN]; exact hT i hi
  have m0 := m_schemeY g h r.1 r.2.1 ok he hL1 rz fz hn h11 c12 h5 hT2
  have K2 : ∀ h2, KP (hSc Z) (cn (hSc Z) 8) T (nI n) w d (vi (hSc Z) (13, 3)) (vi (hSc Z) (13, 4)) c h2 → ∃ (hB : Hp) (b : Nat), b ≤ 1 ∧ Mx g yX14_scheme wX14_scheme 54 [pR (32, 0), pI w, pI d, pI (nI e)] (hKp h2 n) (11 * b) (560 * b) (QS (vi h (13, 0)) e Z n hB w d n) noX ∧ WB (hKp h2 n) n hB ∧ vi hB (32, 0) 3 = 0 ∧ cn hB 33 = cn h 33 + b ∧ cn h 33 + b ≤ 40 := fun h2 kp => ref_any g r (hKp_E ((M3_Sc ez).tr (M3_kp kp.2.2.2.1)) Bool.false_ne_true Bool.false_ne_true) ok he hL2 r4 cs hZ h5n hn
  have s4 : n = cn h 33 ∨ n + 1 = cn h 33 := by
    obtain ⟨n', s1, s2, s3, s4, s5, _⟩ := r.2.2.2.2.2.2.2.2.2.2.2
    have nn : n' = n := (nI_eq (by omega) (by omega)).mp (s3.symm.trans h5n)
    omega
  refine ⟨c, n + 1 - cn h 33, c12, by omega, Mx.mono ?_ (fun _ _ z => z) m0⟩
  rintro r1 h1 ⟨rfl, h2, kp, rfl⟩
  obtain ⟨hB, b, hb, hm, wb, b3, c33, h33⟩ := K2 h2 kp
  have eb : n + 1 - cn h 33 = b := by have := wb.2.2.2.2.2.2.2.1; omega
  rw [eb]
  refine ⟨nI n, rfl, ?_⟩
  show Mx g yX14_scheme wX14_scheme 54 _ (hKp h2 n) _ _ _ _
  refine Mx.mono ?_ (fun _ _ z => z) hm
  rintro r2 hf (⟨rfl, h', ⟨-, er, ⟨kk, p, k6, k7, ce⟩, c2⟩, rfl⟩ | ⟨rfl, h', pq, rfl⟩)
  · exact absurd (ce.1.symm.trans fz) ce.2.2
  · have kn : Kn h Z h' n c T := Kn_of he c12 h5 hT2 pq
    have er := pq.2.1
    obtain ⟨rr, h480⟩ := RR_keep r ez fz h5n hn kp kn wb b3 er
    have x : Eqv fX0 (hKp h2 n) (dnH h' n w d n) := wb.2.1.tr ((X0_rw er).tr (X0_dn h' n w d n))
    have e6 : Eqv fO6 h (hKp h2 n) := hKp_E ((O8_6 (O8_Sc ez)).tr (O6_kp kp.2.2.2.1)) Bool.false_ne_true Bool.false_ne_true
    obtain ⟨p9, p10, p11, p12⟩ := cE e6
    have c8 : cn (dnH h' n w d n) 8 = cn h 8 + c := (x.1 8 rfl).trans (kp.2.2.2.2.1.trans (by rw [(O8_Sc ez).1 8 rfl]))
    have pt := pot_le (h := h) (hf := dnH h' n w d n) ((x.1 9 rfl).trans p9) ((x.1 10 rfl).trans p10) ((x.1 11 rfl).trans p11) ((x.1 12 rfl).trans p12) (a := c) (b := b) c8 h480 ((er.1 33 rfl).trans c33) h33
    exact ⟨rfl, rr, by omega, by omega⟩
theorem op_scheme (g : G0) (h : Hp) (r : RR h) {w d x : Int32} : ∃ mc ms mc' ms', mc + mc' ≤ 47 ∧ ms + ms' ≤ 22232 ∧ Op g h yX11_scheme wX11_scheme (pR (0, 0) :: [pI w, pI d, pI x]) yX14_scheme wX14_scheme (pR (32, 0) :: [pI w, pI d, pI x]) 9 54 mc ms mc' ms' := by
  by_cases ok : ¬ xWb h w = 0 ∧ ¬ xDy d = 0 ∧ ¬ x < 0 ∧ x ≤ vi h (1, 0) 1
  · obtain ⟨L, hL, t1, t2, tb⟩ := r.2.2.2.2.1
    obtain ⟨o1, o2, o3, o4⟩ := ok
    rw [t1] at o4
    obtain ⟨e, heL, rfl⟩ := rngL (by omega) o3 o4
    have he : e ≤ 300 := by omega
    have hL1 : nI e ≤ vi h (1, 0) 1 := by rw [t1]; exact o4
    have hL2 : nI e ≤ vi h (32, 0) 10 := by rw [t2]; exact o4
    have r4 : ∀ i, i < e → mb h i = vi h (13, 0) i := fun i hi => (tb i (by omega)).symm
    obtain ⟨Z, rz⟩ := rdZ g he r.1.1
    obtain ⟨n, s1, s2, s3, _⟩ := id r.2.2.2.2.2.2.2.2.2.2.2
    by_cases hn : n < 40
    · by_cases fz : vi Z (2, 0) 6 = 0
      · obtain ⟨a, b, ha, hb, o⟩ := op_schemeK g h r ⟨o1, o2⟩ he hL1 hL2 r4 rz s2 s3 hn fz
        exact ⟨_, _, _, _, by omega, by omega, o⟩
      · obtain ⟨b, hb, o⟩ := op_schemeF g h r ⟨o1, o2⟩ he hL1 hL2 r4 rz s2 s3 hn fz
        exact ⟨_, _, _, _, by omega, by omega, o⟩
    · exact ⟨0, 0, 0, 0, by omega, by omega, op_schemeS g h r ⟨o1, o2⟩ he hL1 hL2 r4 rz s2 s3 (by omega)⟩
  · exact ⟨0, 0, 0, 0, by omega, by omega, op_schemeN g h r ok⟩
