theorem RR_fr {h h2 : Hp} (r : RR h) (f : Fr h h2) : RR h2 := ⟨XI_congr (by repeat (first | refine Eqv.sI ?_ Bool.false_ne_true | refine Eqv.sR ?_ Bool.false_ne_true | refine Eqv.sRs ?_ Bool.false_ne_true | refine Eqv.sL ?_ Bool.false_ne_true | exact (Eqv.rf _).fr f Bool.false_ne_true Bool.false_ne_true Bool.false_ne_true (fun _ => Bool.false_ne_true) | exact Eqv.rf _)) r.1, LD_congr (by repeat (first | refine Eqv.sI ?_ Bool.false_ne_true | refine Eqv.sR ?_ Bool.false_ne_true | refine Eqv.sRs ?_ Bool.false_ne_true | refine Eqv.sL ?_ Bool.false_ne_true | exact (Eqv.rf _).fr f Bool.false_ne_true Bool.false_ne_true Bool.false_ne_true (fun _ => Bool.false_ne_true) | exact Eqv.rf _)) r.2.1, MJ_congr (by repeat (first | refine Eqv.sI ?_ Bool.false_ne_true | refine Eqv.sR ?_ Bool.false_ne_true | refine Eqv.sRs ?_ Bool.false_ne_true | refine Eqv.sL ?_ Bool.false_ne_true | exact (Eqv.rf _).fr f Bool.false_ne_true Bool.false_ne_true Bool.false_ne_true (fun _ => Bool.false_ne_true) | exact Eqv.rf _)) r.2.2.1, ScA_congr (by repeat (first | refine Eqv.sI ?_ Bool.false_ne_true | refine Eqv.sR ?_ Bool.false_ne_true | refine Eqv.sRs ?_ Bool.false_ne_true | refine Eqv.sL ?_ Bool.false_ne_true | exact (Eqv.rf _).fr f Bool.false_ne_true Bool.false_ne_true Bool.false_ne_true (fun _ => Bool.false_ne_true) | exact Eqv.rf _)) r.2.2.2.1, TaR_congr (by repeat (first | refine Eqv.sI ?_ Bool.false_ne_true | refine Eqv.sR ?_ Bool.false_ne_true | refine Eqv.sRs ?_ Bool.false_ne_true | refine Eqv.sL ?_ Bool.false_ne_true | exact (Eqv.rf _).fr f Bool.false_ne_true Bool.false_ne_true Bool.false_ne_true (fun _ => Bool.false_ne_true) | exact Eqv.rf _)) r.2.2.2.2.1, PeR_congr (by repeat (first | refine Eqv.sI ?_ Bool.false_ne_true | refine Eqv.sR ?_ Bool.false_ne_true | refine Eqv.sRs ?_ Bool.false_ne_true | refine Eqv.sL ?_ Bool.false_ne_true | exact (Eqv.rf _).fr f Bool.false_ne_true Bool.false_ne_true Bool.false_ne_true (fun _ => Bool.false_ne_true) | exact Eqv.rf _)) r.2.2.2.2.2.1, PaR_congr (by repeat (first | refine Eqv.sI ?_ Bool.false_ne_true | refine Eqv.sR ?_ Bool.false_ne_true | refine Eqv.sRs ?_ Bool.false_ne_true | refine Eqv.sL ?_ Bool.false_ne_true | exact (Eqv.rf _).fr f Bool.false_ne_true Bool.false_ne_true Bool.false_ne_true (fun _ => Bool.false_ne_true) | exact Eqv.rf _)) r.2.2.2.2.2.2.1, RoR_congr (by repeat (first | refine Eqv.sI ?_ Bool.false_ne_true | refine Eqv.sR ?_ Bool.false_ne_true | refine Eqv.sRs ?_ Bool.false_ne_true | refine Eqv.sL ?_ Bool.false_ne_true | exact (Eqv.rf _).fr f Bool.false_ne_true Bool.false_ne_true Bool.false_ne_true (fun _ => Bool.false_ne_true) | exact Eqv.rf _)) r.2.2.2.2.2.2.2.1, TrR_congr (by repeat (first | refine Eqv.sI ?_ Bool.false_ne_true | refine Eqv.sR ?_ Bool.false_ne_true | refine Eqv.sRs ?_ Bool.false_ne_true | refine Eqv.sL ?_ Bool.false_ne_true | exact (Eqv.rf _).fr f Bool.false_ne_true Bool.false_ne_true Bool.false_ne_true (fun _ => Bool.false_ne_true) | exact Eqv.rf _)) r.2.2.2.2.2.2.2.2.1, LaR_congr (by repeat (first | refine Eqv.sI ?_ Bool.false_ne_true | refine Eqv.sR ?_ Bool.false_ne_true | refine Eqv.sRs ?_ Bool.false_ne_true | refine Eqv.sL ?_ Bool.false_ne_true | exact (Eqv.rf _).fr f Bool.false_ne_true Bool.false_ne_true Bool.false_ne_true (fun _ => Bool.false_ne_true) | exact Eqv.rf _)) r.2.2.2.2.2.2.2.2.2.1, CsR_congr (by repeat (first | refine Eqv.sI ?_ Bool.false_ne_true | refine Eqv.sR ?_ Bool.false_ne_true | refine Eqv.sRs ?_ Bool.false_ne_true | refine Eqv.sL ?_ Bool.false_ne_true | exact (Eqv.rf _).fr f Bool.false_ne_true Bool.false_ne_true Bool.false_ne_true (fun _ => Bool.false_ne_true) | exact Eqv.rf _)) r.2.2.2.2.2.2.2.2.2.2.1, SR_congr (by repeat (first | refine Eqv.sI ?_ Bool.false_ne_true | refine Eqv.sR ?_ Bool.false_ne_true | refine Eqv.sRs ?_ Bool.false_ne_true | refine Eqv.sL ?_ Bool.false_ne_true | exact (Eqv.rf _).fr f Bool.false_ne_true Bool.false_ne_true Bool.false_ne_true (fun _ => Bool.false_ne_true) | exact Eqv.rf _)) r.2.2.2.2.2.2.2.2.2.2.2⟩
theorem RR_set {h : Hp} (r : RR h) (f : Nat → Option Ad) : RR (sRs h (15, 0) f) := ⟨XI_congr (by repeat (first | refine Eqv.sI ?_ Bool.false_ne_true | refine Eqv.sR ?_ Bool.false_ne_true | refine Eqv.sRs ?_ Bool.false_ne_true | refine Eqv.sL ?_ Bool.false_ne_true | exact Eqv.rf _)) r.1, LD_congr (by repeat (first | refine Eqv.sI ?_ Bool.false_ne_true | refine Eqv.sR ?_ Bool.false_ne_true | refine Eqv.sRs ?_ Bool.false_ne_true | refine Eqv.sL ?_ Bool.false_ne_true | exact Eqv.rf _)) r.2.1, MJ_congr (by repeat (first | refine Eqv.sI ?_ Bool.false_ne_true | refine Eqv.sR ?_ Bool.false_ne_true | refine Eqv.sRs ?_ Bool.false_ne_true | refine Eqv.sL ?_ Bool.false_ne_true | exact Eqv.rf _)) r.2.2.1, ScA_congr (by repeat (first | refine Eqv.sI ?_ Bool.false_ne_true | refine Eqv.sR ?_ Bool.false_ne_true | refine Eqv.sRs ?_ Bool.false_ne_true | refine Eqv.sL ?_ Bool.false_ne_true | exact Eqv.rf _)) r.2.2.2.1, TaR_congr (by repeat (first | refine Eqv.sI ?_ Bool.false_ne_true | refine Eqv.sR ?_ Bool.false_ne_true | refine Eqv.sRs ?_ Bool.false_ne_true | refine Eqv.sL ?_ Bool.false_ne_true | exact Eqv.rf _)) r.2.2.2.2.1, PeR_congr (by repeat (first | refine Eqv.sI ?_ Bool.false_ne_true | refine Eqv.sR ?_ Bool.false_ne_true | refine Eqv.sRs ?_ Bool.false_ne_true | refine Eqv.sL ?_ Bool.false_ne_true | exact Eqv.rf _)) r.2.2.2.2.2.1, PaR_congr (by repeat (first | refine Eqv.sI ?_ Bool.false_ne_true | refine Eqv.sR ?_ Bool.false_ne_true | refine Eqv.sRs ?_ Bool.false_ne_true | refine Eqv.sL ?_ Bool.false_ne_true | exact Eqv.rf _)) r.2.2.2.2.2.2.1, RoR_congr (by repeat (first | refine Eqv.sI ?_ Bool.false_ne_true | refine Eqv.sR ?_ Bool.false_ne_true | refine Eqv.sRs ?_ Bool.false_ne_true | refine Eqv.sL ?_ Bool.false_ne_true | exact Eqv.rf _)) r.2.2.2.2.2.2.2.1, TrR_congr (by repeat (first | refine Eqv.sI ?_ Bool.false_ne_true | refine Eqv.sR ?_ Bool.false_ne_true | refine Eqv.sRs ?_ Bool.false_ne_true | refine Eqv.sL ?_ Bool.false_ne_true | exact Eqv.rf _)) r.2.2.2.2.2.2.2.2.1, LaR_congr (by repeat (first | refine Eqv.sI ?_ Bool.false_ne_true | refine Eqv.sR ?_ Bool.false_ne_true | refine Eqv.sRs ?_ Bool.false_ne_true | refine Eqv.sL ?_ Bool.false_ne_true | exact Eqv.rf _)) r.2.2.2.2.2.2.2.2.2.1, CsR_congr (by repeat (first | refine Eqv.sI ?_ Bool.false_ne_true | refine Eqv.sR ?_ Bool.false_ne_true | refine Eqv.sRs ?_ Bool.false_ne_true | refine Eqv.sL ?_ Bool.false_ne_true | exact Eqv.rf _)) r.2.2.2.2.2.2.2.2.2.2.1, SR_congr (by repeat (first | refine Eqv.sI ?_ Bool.false_ne_true | refine Eqv.sR ?_ Bool.false_ne_true | refine Eqv.sRs ?_ Bool.false_ne_true | refine Eqv.sL ?_ Bool.false_ne_true | exact Eqv.rf _)) r.2.2.2.2.2.2.2.2.2.2.2⟩
theorem Op.q {g : G0} {h : Hp} {yx : MethodName} {wx : Cond} {A : List PV} {ym : MethodName} {wm : Cond} {B : List PV} {dx dm : Nat} {X : Int32 × Hp} (v : Int32) (H1 : Hp) (eX : X = (v, H1)) (hx : Mx g yx wx dx A h 0 0 (qE (some (pI X.1)) X.2) noX) (hm : Mx g ym wm dm B H1 0 0 (fun r h2 => r = some (pI v) ∧ Qf H1 H1 h2) noX) (hr : RR H1) (hc : cn H1 = cn h) : Op g h yx wx A ym wm B dx dm 0 0 0 0 := by
  subst eX
  refine Mx.mono ?_ (fun _ _ z => z) hx
  rintro r h1 ⟨rfl, rfl⟩
  refine ⟨v, rfl, Mx.mono ?_ (fun _ _ z => z) hm⟩
  rintro r h2 ⟨rfl, q⟩
  have hc2 : cn h2 = cn h := q.2.1.trans hc
  refine ⟨rfl, RR_fr hr q.2, ?_, ?_⟩
  · unfold potC; rw [hc2]; exact Nat.le_refl _
  · unfold potS; rw [hc2]; exact Nat.le_refl _
theorem lat_set {h : Hp} {f : Nat → Option Ad} {w d : Int32} : ∀ (N : Nat), (∀ c, c < N → ∃ m, m ≤ 12 ∧ vi h (8, c) 4 = nI m) → ∀ m, m < 13 → xLat (sRs h (15, 0) f) w d N m = xLat h w d N m
  | 0, _, m, hm => by
    show (if m < 13 then none else _) = (if m < 13 then none else _)
    rw [if_pos hm, if_pos hm]
  | N + 1, hN, m, hm => by
    have ih := lat_set (f := f) (w := w) (d := d) N (fun c hc => hN c (by omega))
    obtain ⟨u, hu, eu⟩ := hN N (by omega)
    by_cases c : vi h (8, N) 1 = w ∧ ¬ d < vi h (8, N) 2
    · rw [lat_step (h := h) c hu eu m, lat_step (h := sRs h (15, 0) f) c hu eu m, ih u (by omega), ih m hm]
      rfl
    · rw [lat_skip (h := h) c, lat_skip (h := sRs h (15, 0) f) c, ih m hm]
theorem RR.qb {h : Hp} (r : RR h) (w : Int32) {D : Nat} (hD : D ≤ 40000) : ∃ n, QB (xSet h w (nI D)) n w D := by
  have r1 : RR (xSet h w (nI D)) := RR_set r _
  obtain ⟨n, s1, s2, s3, s4, s5, s6, s7, s8, s9⟩ := r1.2.2.2.2.2.2.2.2.2.2.2
  refine ⟨n, r1.2.2.1, ⟨r1.2.2.1.1.1, s1, s3, fun k hk => s6 k (by omega)⟩, s9, r1.2.2.2.2.2.1, r1.1.ps, hD, fun m hm => ?_⟩
  refine Eq.trans (b := xLat h w (nI D) (cn h 8) m) ?_ (lat_set (cn h 8) (fun c hc => ?_) m hm).symm
  · show vr (sRs h (15, 0) (xLat h w (nI D) (cn h 8))) (15, 0) m = _
    rw [vr_sRs, if_pos rfl]
  · obtain ⟨-, -, -, m, hm, e⟩ := r.1.cs c hc
    exact ⟨m, hm, e⟩
set_option maxRecDepth 20000 in
theorem op_may (g : G0) (h : Hp) (r : RR h) {p w d : Int32} : Op g h yX11_may wX11_may (pR (0, 0) :: [pI p, pI w, pI d]) yX14_may wX14_may (pR (32, 0) :: [pI p, pI w, pI d]) 8 12 0 0 0 0 := by
  have refu : xMay h p w d = (-1, h) → mAs h p w d = 0 → Op g h yX11_may wX11_may (pR (0, 0) :: [pI p, pI w, pI d]) yX14_may wX14_may (pR (32, 0) :: [pI p, pI w, pI d]) 8 12 0 0 0 0 := fun eX no => Op.q _ _ eX (m_may g h r.1) (M_mayN g h r.2.2.1.1.1 no) r rfl
  cases z : xPer h p with
  | none => exact refu (by unfold xMay; rw [z]) (by unfold mAs; rw [if_pos (xPer_no r.1 r.2.2.2.2.2.1 rfl z)])
  | some a =>
    obtain ⟨j, rfl, rfl, hj, ey⟩ := xPer_yes (h' := h) r.1 r.2.2.2.2.2.1 rfl z
    have ey2 : ¬ mPb h (nI j) = 0 := by rw [ey]; decide
    by_cases c1 : xWb h w = 0
    · exact refu (by unfold xMay; rw [z]; exact if_pos c1) (by unfold mAs; rw [if_neg ey2, if_pos (by rw [wb_eq r.2.2.2.1 rfl]; exact c1)])
    · have c1' : ¬ mWb h w = 0 := by rw [wb_eq r.2.2.2.1 rfl]; exact c1
      by_cases c2 : xDy d = 0
      · exact refu (by unfold xMay; rw [z]; show (if xWb h w = 0 then _ else _) = _; rw [if_neg c1, if_pos c2]) (by unfold mAs; rw [if_neg ey2, if_neg c1', if_pos (show mDy d = 0 from c2)])
      · obtain ⟨D, hD, rfl⟩ := xDy_in c2
        obtain ⟨n, b⟩ := r.qb w hD
        have eX : xMay h (nI j) w (nI D) = ((if xAdm (xSet h w (nI D)) j (nI D) = 0 then 0 else 1), xSet h w (nI D)) := by unfold xMay; rw [z]; show (if xWb h w = 0 then _ else _) = _; rw [if_neg c1, if_neg c2]
        refine Op.q _ _ eX (m_may g h r.1) (M_mayY g _ b (p := j) hj ?_) (RR_set r _) rfl
        show ¬ mAs h (nI j) w (nI D) = 0
        unfold mAs; rw [if_neg ey2, if_neg c1', if_neg (show ¬ mDy (nI D) = 0 from c2)]; decide
set_option maxRecDepth 20000 in
theorem op_bars (g : G0) (h : Hp) (r : RR h) {p w d : Int32} : Op g h yX11_bars wX11_bars (pR (0, 0) :: [pI p, pI w, pI d]) yX14_bars wX14_bars (pR (32, 0) :: [pI p, pI w, pI d]) 8 12 0 0 0 0 := by
  have refu : xBars h p w d = (-1, h) → mAs h p w d = 0 → Op g h yX11_bars wX11_bars (pR (0, 0) :: [pI p, pI w, pI d]) yX14_bars wX14_bars (pR (32, 0) :: [pI p, pI w, pI d]) 8 12 0 0 0 0 := fun eX no => Op.q _ _ eX (m_bars g h r.1) (M_barsN g h r.2.2.1.1.1 no) r rfl
  cases z : xPer h p with
  | none => exact refu (by unfold xBars; rw [z]) (by unfold mAs; rw [if_pos (xPer_no r.1 r.2.2.2.2.2.1 rfl z)])
  | some a =>
    obtain ⟨j, rfl, rfl, hj, ey⟩ := xPer_yes (h' := h) r.1 r.2.2.2.2.2.1 rfl z
    have ey2 : ¬ mPb h (nI j) = 0 := by rw [ey]; decide
    by_cases c1 : xWb h w = 0
    · exact refu (by unfold xBars; rw [z]; exact if_pos c1) (by unfold mAs; rw [if_neg ey2, if_pos (by rw [wb_eq r.2.2.2.1 rfl]; exact c1)])
    · have c1' : ¬ mWb h w = 0 := by rw [wb_eq r.2.2.2.1 rfl]; exact c1
      by_cases c2 : xDy d = 0
      · exact refu (by unfold xBars; rw [z]; show (if xWb h w = 0 then _ else _) = _; rw [if_neg c1, if_pos c2]) (by unfold mAs; rw [if_neg ey2, if_neg c1', if_pos (show mDy d = 0 from c2)])
      · obtain ⟨D, hD, rfl⟩ := xDy_in c2
        obtain ⟨n, b⟩ := r.qb w hD
        have eX : xBars h (nI j) w (nI D) = (xBar (xSet h w (nI D)) j (nI D), xSet h w (nI D)) := by unfold xBars; rw [z]; show (if xWb h w = 0 then _ else _) = _; rw [if_neg c1, if_neg c2]
        refine Op.q _ _ eX (m_bars g h r.1) (M_barsY g _ b (p := j) hj ?_) (RR_set r _) rfl
        show ¬ mAs h (nI j) w (nI D) = 0
        unfold mAs; rw [if_neg ey2, if_neg c1', if_neg (show ¬ mDy (nI D) = 0 from c2)]; decide
set_option maxRecDepth 20000 in
theorem op_order (g : G0) (h : Hp) (r : RR h) {p w d : Int32} : Op g h yX11_order wX11_order (pR (0, 0) :: [pI p, pI w, pI d]) yX14_order wX14_order (pR (32, 0) :: [pI p, pI w, pI d]) 8 12 0 0 0 0 := by
  have refu : xOrder h p w d = (-1, h) → mAs h p w d = 0 → Op g h yX11_order wX11_order (pR (0, 0) :: [pI p, pI w, pI d]) yX14_order wX14_order (pR (32, 0) :: [pI p, pI w, pI d]) 8 12 0 0 0 0 := fun eX no => Op.q _ _ eX (m_order g h r.1) (M_orderN g h r.2.2.1.1.1 no) r rfl
  cases z : xPer h p with
  | none => exact refu (by unfold xOrder; rw [z]) (by unfold mAs; rw [if_pos (xPer_no r.1 r.2.2.2.2.2.1 rfl z)])
  | some a =>
    obtain ⟨j, rfl, rfl, hj, ey⟩ := xPer_yes (h' := h) r.1 r.2.2.2.2.2.1 rfl z
    have ey2 : ¬ mPb h (nI j) = 0 := by rw [ey]; decide
    by_cases c1 : xWb h w = 0
    · exact refu (by unfold xOrder; rw [z]; exact if_pos c1) (by unfold mAs; rw [if_neg ey2, if_pos (by rw [wb_eq r.2.2.2.1 rfl]; exact c1)])
    · have c1' : ¬ mWb h w = 0 := by rw [wb_eq r.2.2.2.1 rfl]; exact c1
      by_cases c2 : xDy d = 0
      · exact refu (by unfold xOrder; rw [z]; show (if xWb h w = 0 then _ else _) = _; rw [if_neg c1, if_pos c2]) (by unfold mAs; rw [if_neg ey2, if_neg c1', if_pos (show mDy d = 0 from c2)])
      · obtain ⟨D, hD, rfl⟩ := xDy_in c2
        obtain ⟨n, b⟩ := r.qb w hD
        have eX : xOrder h (nI j) w (nI D) = (xRank (xSet h w (nI D)) j (nI D), xSet h w (nI D)) := by unfold xOrder; rw [z]; show (if xWb h w = 0 then _ else _) = _; rw [if_neg c1, if_neg c2]
        refine Op.q _ _ eX (m_order g h r.1) (M_orderY g _ b (p := j) hj ?_) (RR_set r _) rfl
        show ¬ mAs h (nI j) w (nI D) = 0
        unfold mAs; rw [if_neg ey2, if_neg c1', if_neg (show ¬ mDy (nI D) = 0 from c2)]; decide
set_option maxRecDepth 20000 in
theorem op_list (g : G0) (h : Hp) (r : RR h) {w d : Int32} : Op g h yX11_list wX11_list (pR (0, 0) :: [pI w, pI d]) yX14_list wX14_list (pR (32, 0) :: [pI w, pI d]) 8 12 0 0 0 0 := by
  have refu : xList h w d = (-1, h) → (mWb h w = 0 ∨ mDy d = 0) → Op g h yX11_list wX11_list (pR (0, 0) :: [pI w, pI d]) yX14_list wX14_list (pR (32, 0) :: [pI w, pI d]) 8 12 0 0 0 0 := fun eX no => Op.q _ _ eX (m_list g h r.1) (M_listN g h r.2.2.1.1.1 no) r rfl
  by_cases c1 : xWb h w = 0
  · exact refu (by unfold xList; rw [if_pos c1]) (Or.inl (by rw [wb_eq r.2.2.2.1 rfl]; exact c1))
  · have c1' : ¬ mWb h w = 0 := by rw [wb_eq r.2.2.2.1 rfl]; exact c1
    by_cases c2 : xDy d = 0
    · exact refu (by unfold xList; rw [if_neg c1, if_pos c2]) (Or.inr c2)
    · obtain ⟨D, hD, rfl⟩ := xDy_in c2
      obtain ⟨n, b⟩ := r.qb w hD
      have eX : xList h w (nI D) = (xLs (xSet h w (nI D)) (nI D) (cn h 9) 0 0, xSet h w (nI D)) := by unfold xList; rw [if_neg c1, if_neg c2]
      exact Op.q _ _ eX (m_list g h r.1) (M_listY g _ b c1' c2) (RR_set r _) rfl
set_option maxRecDepth 20000 in
theorem op_next (g : G0) (h : Hp) (r : RR h) {w d : Int32} : Op g h yX11_next wX11_next (pR (0, 0) :: [pI w, pI d]) yX14_next_ wX14_next_ (pR (32, 0) :: [pI w, pI d]) 8 12 0 0 0 0 := by
  have refu : xNext h w d = (-1, h) → (mWb h w = 0 ∨ mDy d = 0) → Op g h yX11_next wX11_next (pR (0, 0) :: [pI w, pI d]) yX14_next_ wX14_next_ (pR (32, 0) :: [pI w, pI d]) 8 12 0 0 0 0 := fun eX no => Op.q _ _ eX (m_next g h r.1) (M_nextN g h r.2.2.1.1.1 no) r rfl
  by_cases c1 : xWb h w = 0
  · exact refu (by unfold xNext; rw [if_pos c1]) (Or.inl (by rw [wb_eq r.2.2.2.1 rfl]; exact c1))
  · have c1' : ¬ mWb h w = 0 := by rw [wb_eq r.2.2.2.1 rfl]; exact c1
    by_cases c2 : xDy d = 0
    · exact refu (by unfold xNext; rw [if_neg c1, if_pos c2]) (Or.inr c2)
    · obtain ⟨D, hD, rfl⟩ := xDy_in c2
      obtain ⟨n, b⟩ := r.qb w hD
      have eX : xNext h w (nI D) = (xCh (xSet h w (nI D)) (nI D) (cn h 9) 0 (-2) (-1), xSet h w (nI D)) := by unfold xNext; rw [if_neg c1, if_neg c2]; rfl
      exact Op.q _ _ eX (m_next g h r.1) (M_nextY g _ b r.2.2.2.2.2.2.1.1 c1' c2) (RR_set r _) rfl
set_option maxRecDepth 20000 in
theorem op_clauses (g : G0) (h : Hp) (r : RR h) {w d : Int32} : Op g h yX11_clauses wX11_clauses (pR (0, 0) :: [pI w, pI d]) yX14_clauses wX14_clauses (pR (32, 0) :: [pI w, pI d]) 8 12 0 0 0 0 := by
  have refu : xClauses h w d = (-1, h) → (mWb h w = 0 ∨ mDy d = 0) → Op g h yX11_clauses wX11_clauses (pR (0, 0) :: [pI w, pI d]) yX14_clauses wX14_clauses (pR (32, 0) :: [pI w, pI d]) 8 12 0 0 0 0 := fun eX no => Op.q _ _ eX (m_clauses g h r.1) (M_clausesN g h r.2.2.1.1.1 no) r rfl
  by_cases c1 : xWb h w = 0
  · exact refu (by unfold xClauses; rw [if_pos c1]) (Or.inl (by rw [wb_eq r.2.2.2.1 rfl]; exact c1))
  · have c1' : ¬ mWb h w = 0 := by rw [wb_eq r.2.2.2.1 rfl]; exact c1
    by_cases c2 : xDy d = 0
    · exact refu (by unfold xClauses; rw [if_neg c1, if_pos c2]) (Or.inr c2)
    · obtain ⟨D, hD, rfl⟩ := xDy_in c2
      obtain ⟨n, b⟩ := r.qb w hD
      have eX : xClauses h w (nI D) = (xHow (xSet h w (nI D)), xSet h w (nI D)) := by unfold xClauses; rw [if_neg c1, if_neg c2]
      exact Op.q _ _ eX (m_clauses g h r.1) (M_clausesY g _ b c1' c2) (RR_set r _) rfl
set_option maxRecDepth 20000 in
theorem op_clause (g : G0) (h : Hp) (r : RR h) {w u d : Int32} : Op g h yX11_clause wX11_clause (pR (0, 0) :: [pI w, pI u, pI d]) yX14_clause wX14_clause (pR (32, 0) :: [pI w, pI u, pI d]) 8 12 0 0 0 0 := by
  have refu : xClause h w u d = (-1, h) → (mWb h w = 0 ∨ mIn u 1 12 = 0 ∨ mDy d = 0) → Op g h yX11_clause wX11_clause (pR (0, 0) :: [pI w, pI u, pI d]) yX14_clause wX14_clause (pR (32, 0) :: [pI w, pI u, pI d]) 8 12 0 0 0 0 := fun eX no => Op.q _ _ eX (m_clause g h r.1) (M_clauseN g h r.2.2.1.1.1 no) r rfl
  by_cases c1 : xWb h w = 0
  · exact refu (by unfold xClause; rw [if_pos c1]) (Or.inl (by rw [wb_eq r.2.2.2.1 rfl]; exact c1))
  · have c1' : ¬ mWb h w = 0 := by rw [wb_eq r.2.2.2.1 rfl]; exact c1
    by_cases k1 : u < 1
    · exact refu (by unfold xClause; rw [if_neg c1, if_pos k1]) (Or.inr (Or.inl (by unfold mIn; rw [if_pos k1])))
    · by_cases k2 : 12 < u
      · exact refu (by unfold xClause; rw [if_neg c1, if_neg k1, if_pos k2]) (Or.inr (Or.inl (by unfold mIn; rw [if_neg k1, if_pos k2])))
      · have k3 : ¬ mIn u 1 12 = 0 := by unfold mIn; rw [if_neg k1, if_neg k2]; decide
        by_cases c2 : xDy d = 0
        · exact refu (by unfold xClause; rw [if_neg c1, if_neg k1, if_neg k2, if_pos c2]) (Or.inr (Or.inr c2))
        · obtain ⟨D, hD, rfl⟩ := xDy_in c2
          obtain ⟨n, b⟩ := r.qb w hD
          obtain ⟨m, hm, rfl⟩ := nI_of2 (x := u) (M := 12) (n := 12) (by decide) (fun z => k1 (Int32.lt_trans z (by decide))) (Int32.not_lt.mp k2)
          have m1 : 1 ≤ m := by
            rcases Nat.eq_zero_or_pos m with z | z
            · rw [z] at k1; exact absurd (by decide) k1
            · exact z
          have eX : xClause h w (nI m) (nI D) = ((match xCl (xSet h w (nI D)) m with | none => -2 | some a => vi (xSet h w (nI D)) a 0), xSet h w (nI D)) := by unfold xClause; rw [if_neg c1, if_neg k1, if_neg k2, if_neg c2, nI_clamp (by omega)]; rfl
          exact Op.q _ _ eX (m_clause g h r.1) (M_clauseY g _ b m1 hm c1' k3 c2) (RR_set r _) rfl
