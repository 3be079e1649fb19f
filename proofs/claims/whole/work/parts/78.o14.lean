theorem RR_frk3 {hb h2 : Hp} (r : RR hb) (fr : Fr (xT hb 3) h2) : RR (mT h2 3) := by
  have e14 : vi (mT h2 3) (0, 0) 14 = 3 := by rw [mT_x, fr.2.2.2.2 (0, 0) 14 (by decide) (fun z => by cases z), xT_14]
  exact ⟨XI_congr ((show Eqv fXI hb h2 from Eqv.fr (show Eqv fXI hb (xT hb 3) from (Eqv.sI (Eqv.rf _) Bool.false_ne_true)) fr Bool.false_ne_true Bool.false_ne_true Bool.false_ne_true (fun _ => Bool.false_ne_true)).tr (show Eqv fXI h2 (mT h2 3) from (Eqv.sI (Eqv.sI (Eqv.rf _) Bool.false_ne_true) Bool.false_ne_true))) r.1, LD_congr ((show Eqv fLD hb h2 from Eqv.fr (show Eqv fLD hb (xT hb 3) from (Eqv.sI (Eqv.rf _) Bool.false_ne_true)) fr Bool.false_ne_true Bool.false_ne_true Bool.false_ne_true (fun _ => Bool.false_ne_true)).tr (show Eqv fLD h2 (mT h2 3) from (Eqv.sI (Eqv.sI (Eqv.rf _) Bool.false_ne_true) Bool.false_ne_true))) r.2.1, MJ_congr ((show Eqv fMJ hb h2 from Eqv.fr (show Eqv fMJ hb (xT hb 3) from (Eqv.sI (Eqv.rf _) Bool.false_ne_true)) fr Bool.false_ne_true Bool.false_ne_true Bool.false_ne_true (fun _ => Bool.false_ne_true)).tr (show Eqv fMJ h2 (mT h2 3) from (Eqv.sI (Eqv.sI (Eqv.rf _) Bool.false_ne_true) Bool.false_ne_true))) r.2.2.1, ScA_k r.2.2.2.1 ((show Eqv fSk hb h2 from Eqv.fr (show Eqv fSk hb (xT hb 3) from (Eqv.sI (Eqv.rf _) Bool.false_ne_true)) fr Bool.false_ne_true Bool.false_ne_true Bool.false_ne_true (fun _ => Bool.false_ne_true)).tr (show Eqv fSk h2 (mT h2 3) from (Eqv.sI (Eqv.sI (Eqv.rf _) Bool.false_ne_true) Bool.false_ne_true))) 3 (by decide) e14 (mT_1 _ _) (mT_2 _ _), TaR_congr ((show Eqv fTa hb h2 from Eqv.fr (show Eqv fTa hb (xT hb 3) from (Eqv.sI (Eqv.rf _) Bool.false_ne_true)) fr Bool.false_ne_true Bool.false_ne_true Bool.false_ne_true (fun _ => Bool.false_ne_true)).tr (show Eqv fTa h2 (mT h2 3) from (Eqv.sI (Eqv.sI (Eqv.rf _) Bool.false_ne_true) Bool.false_ne_true))) r.2.2.2.2.1, PeR_congr ((show Eqv fPe hb h2 from Eqv.fr (show Eqv fPe hb (xT hb 3) from (Eqv.sI (Eqv.rf _) Bool.false_ne_true)) fr Bool.false_ne_true Bool.false_ne_true Bool.false_ne_true (fun _ => Bool.false_ne_true)).tr (show Eqv fPe h2 (mT h2 3) from (Eqv.sI (Eqv.sI (Eqv.rf _) Bool.false_ne_true) Bool.false_ne_true))) r.2.2.2.2.2.1, PaR_congr ((show Eqv fPa hb h2 from Eqv.fr (show Eqv fPa hb (xT hb 3) from (Eqv.sI (Eqv.rf _) Bool.false_ne_true)) fr Bool.false_ne_true Bool.false_ne_true Bool.false_ne_true (fun _ => Bool.false_ne_true)).tr (show Eqv fPa h2 (mT h2 3) from (Eqv.sI (Eqv.sI (Eqv.rf _) Bool.false_ne_true) Bool.false_ne_true))) r.2.2.2.2.2.2.1, RoR_congr ((show Eqv fRo hb h2 from Eqv.fr (show Eqv fRo hb (xT hb 3) from (Eqv.sI (Eqv.rf _) Bool.false_ne_true)) fr Bool.false_ne_true Bool.false_ne_true Bool.false_ne_true (fun _ => Bool.false_ne_true)).tr (show Eqv fRo h2 (mT h2 3) from (Eqv.sI (Eqv.sI (Eqv.rf _) Bool.false_ne_true) Bool.false_ne_true))) r.2.2.2.2.2.2.2.1, TrR_congr ((show Eqv fTr hb h2 from Eqv.fr (show Eqv fTr hb (xT hb 3) from (Eqv.sI (Eqv.rf _) Bool.false_ne_true)) fr Bool.false_ne_true Bool.false_ne_true Bool.false_ne_true (fun _ => Bool.false_ne_true)).tr (show Eqv fTr h2 (mT h2 3) from (Eqv.sI (Eqv.sI (Eqv.rf _) Bool.false_ne_true) Bool.false_ne_true))) r.2.2.2.2.2.2.2.2.1, LaR_congr ((show Eqv fLa hb h2 from Eqv.fr (show Eqv fLa hb (xT hb 3) from (Eqv.sI (Eqv.rf _) Bool.false_ne_true)) fr Bool.false_ne_true Bool.false_ne_true Bool.false_ne_true (fun _ => Bool.false_ne_true)).tr (show Eqv fLa h2 (mT h2 3) from (Eqv.sI (Eqv.sI (Eqv.rf _) Bool.false_ne_true) Bool.false_ne_true))) r.2.2.2.2.2.2.2.2.2.1, CsR_congr ((show Eqv fCs hb h2 from Eqv.fr (show Eqv fCs hb (xT hb 3) from (Eqv.sI (Eqv.rf _) Bool.false_ne_true)) fr Bool.false_ne_true Bool.false_ne_true Bool.false_ne_true (fun _ => Bool.false_ne_true)).tr (show Eqv fCs h2 (mT h2 3) from (Eqv.sI (Eqv.sI (Eqv.rf _) Bool.false_ne_true) Bool.false_ne_true))) r.2.2.2.2.2.2.2.2.2.2.1, SR_congr ((show Eqv fSR hb h2 from Eqv.fr (show Eqv fSR hb (xT hb 3) from (Eqv.sI (Eqv.rf _) Bool.false_ne_true)) fr Bool.false_ne_true Bool.false_ne_true Bool.false_ne_true (fun _ => Bool.false_ne_true)).tr (show Eqv fSR h2 (mT h2 3) from (Eqv.sI (Eqv.sI (Eqv.rf _) Bool.false_ne_true) Bool.false_ne_true))) r.2.2.2.2.2.2.2.2.2.2.2⟩
theorem RR_frk6 {hb h2 : Hp} (r : RR hb) (fr : Fr (xT hb 6) h2) : RR (mT h2 6) := by
  have e14 : vi (mT h2 6) (0, 0) 14 = 6 := by rw [mT_x, fr.2.2.2.2 (0, 0) 14 (by decide) (fun z => by cases z), xT_14]
  exact ⟨XI_congr ((show Eqv fXI hb h2 from Eqv.fr (show Eqv fXI hb (xT hb 6) from (Eqv.sI (Eqv.rf _) Bool.false_ne_true)) fr Bool.false_ne_true Bool.false_ne_true Bool.false_ne_true (fun _ => Bool.false_ne_true)).tr (show Eqv fXI h2 (mT h2 6) from (Eqv.sI (Eqv.sI (Eqv.rf _) Bool.false_ne_true) Bool.false_ne_true))) r.1, LD_congr ((show Eqv fLD hb h2 from Eqv.fr (show Eqv fLD hb (xT hb 6) from (Eqv.sI (Eqv.rf _) Bool.false_ne_true)) fr Bool.false_ne_true Bool.false_ne_true Bool.false_ne_true (fun _ => Bool.false_ne_true)).tr (show Eqv fLD h2 (mT h2 6) from (Eqv.sI (Eqv.sI (Eqv.rf _) Bool.false_ne_true) Bool.false_ne_true))) r.2.1, MJ_congr ((show Eqv fMJ hb h2 from Eqv.fr (show Eqv fMJ hb (xT hb 6) from (Eqv.sI (Eqv.rf _) Bool.false_ne_true)) fr Bool.false_ne_true Bool.false_ne_true Bool.false_ne_true (fun _ => Bool.false_ne_true)).tr (show Eqv fMJ h2 (mT h2 6) from (Eqv.sI (Eqv.sI (Eqv.rf _) Bool.false_ne_true) Bool.false_ne_true))) r.2.2.1, ScA_k r.2.2.2.1 ((show Eqv fSk hb h2 from Eqv.fr (show Eqv fSk hb (xT hb 6) from (Eqv.sI (Eqv.rf _) Bool.false_ne_true)) fr Bool.false_ne_true Bool.false_ne_true Bool.false_ne_true (fun _ => Bool.false_ne_true)).tr (show Eqv fSk h2 (mT h2 6) from (Eqv.sI (Eqv.sI (Eqv.rf _) Bool.false_ne_true) Bool.false_ne_true))) 6 (by decide) e14 (mT_1 _ _) (mT_2 _ _), TaR_congr ((show Eqv fTa hb h2 from Eqv.fr (show Eqv fTa hb (xT hb 6) from (Eqv.sI (Eqv.rf _) Bool.false_ne_true)) fr Bool.false_ne_true Bool.false_ne_true Bool.false_ne_true (fun _ => Bool.false_ne_true)).tr (show Eqv fTa h2 (mT h2 6) from (Eqv.sI (Eqv.sI (Eqv.rf _) Bool.false_ne_true) Bool.false_ne_true))) r.2.2.2.2.1, PeR_congr ((show Eqv fPe hb h2 from Eqv.fr (show Eqv fPe hb (xT hb 6) from (Eqv.sI (Eqv.rf _) Bool.false_ne_true)) fr Bool.false_ne_true Bool.false_ne_true Bool.false_ne_true (fun _ => Bool.false_ne_true)).tr (show Eqv fPe h2 (mT h2 6) from (Eqv.sI (Eqv.sI (Eqv.rf _) Bool.false_ne_true) Bool.false_ne_true))) r.2.2.2.2.2.1, PaR_congr ((show Eqv fPa hb h2 from Eqv.fr (show Eqv fPa hb (xT hb 6) from (Eqv.sI (Eqv.rf _) Bool.false_ne_true)) fr Bool.false_ne_true Bool.false_ne_true Bool.false_ne_true (fun _ => Bool.false_ne_true)).tr (show Eqv fPa h2 (mT h2 6) from (Eqv.sI (Eqv.sI (Eqv.rf _) Bool.false_ne_true) Bool.false_ne_true))) r.2.2.2.2.2.2.1, RoR_congr ((show Eqv fRo hb h2 from Eqv.fr (show Eqv fRo hb (xT hb 6) from (Eqv.sI (Eqv.rf _) Bool.false_ne_true)) fr Bool.false_ne_true Bool.false_ne_true Bool.false_ne_true (fun _ => Bool.false_ne_true)).tr (show Eqv fRo h2 (mT h2 6) from (Eqv.sI (Eqv.sI (Eqv.rf _) Bool.false_ne_true) Bool.false_ne_true))) r.2.2.2.2.2.2.2.1, TrR_congr ((show Eqv fTr hb h2 from Eqv.fr (show Eqv fTr hb (xT hb 6) from (Eqv.sI (Eqv.rf _) Bool.false_ne_true)) fr Bool.false_ne_true Bool.false_ne_true Bool.false_ne_true (fun _ => Bool.false_ne_true)).tr (show Eqv fTr h2 (mT h2 6) from (Eqv.sI (Eqv.sI (Eqv.rf _) Bool.false_ne_true) Bool.false_ne_true))) r.2.2.2.2.2.2.2.2.1, LaR_congr ((show Eqv fLa hb h2 from Eqv.fr (show Eqv fLa hb (xT hb 6) from (Eqv.sI (Eqv.rf _) Bool.false_ne_true)) fr Bool.false_ne_true Bool.false_ne_true Bool.false_ne_true (fun _ => Bool.false_ne_true)).tr (show Eqv fLa h2 (mT h2 6) from (Eqv.sI (Eqv.sI (Eqv.rf _) Bool.false_ne_true) Bool.false_ne_true))) r.2.2.2.2.2.2.2.2.2.1, CsR_congr ((show Eqv fCs hb h2 from Eqv.fr (show Eqv fCs hb (xT hb 6) from (Eqv.sI (Eqv.rf _) Bool.false_ne_true)) fr Bool.false_ne_true Bool.false_ne_true Bool.false_ne_true (fun _ => Bool.false_ne_true)).tr (show Eqv fCs h2 (mT h2 6) from (Eqv.sI (Eqv.sI (Eqv.rf _) Bool.false_ne_true) Bool.false_ne_true))) r.2.2.2.2.2.2.2.2.2.2.1, SR_congr ((show Eqv fSR hb h2 from Eqv.fr (show Eqv fSR hb (xT hb 6) from (Eqv.sI (Eqv.rf _) Bool.false_ne_true)) fr Bool.false_ne_true Bool.false_ne_true Bool.false_ne_true (fun _ => Bool.false_ne_true)).tr (show Eqv fSR h2 (mT h2 6) from (Eqv.sI (Eqv.sI (Eqv.rf _) Bool.false_ne_true) Bool.false_ne_true))) r.2.2.2.2.2.2.2.2.2.2.2⟩
theorem Ag_of {h h' : Hp} (e : Eqv fAm h h') : Ag h h' := ⟨fun p hp => e.1 p (Nat.ble_eq.mpr hp), fun a hp => e.2.1 a.1 a.2 (Nat.ble_eq.mpr hp), fun a k hp => e.2.2.1 a.1 a.2 k (Nat.ble_eq.mpr hp), fun a f hp _ _ => e.2.2.2.2 a.1 a.2 f (Nat.ble_eq.mpr hp)⟩
theorem xCh_ok2 {h : Hp} {d : Int32} : ∀ (j k : Nat) (c b : Int32), (c = -2 ∨ ∃ q, q < k ∧ c = nI q ∧ vi h (9, q) 8 = -1) → xCh h d j k c b = -2 ∨ ∃ q, q < k + j ∧ xCh h d j k c b = nI q ∧ vi h (9, q) 8 = -1
  | 0, k, c, b, hc => hc
  | j + 1, k, c, b, hc => by
    have hs : ∀ b, xCh h d j (k + 1) c b = -2 ∨ ∃ q, q < k + (j + 1) ∧ xCh h d j (k + 1) c b = nI q ∧ vi h (9, q) 8 = -1 := by
      intro b
      rw [show k + (j + 1) = k + 1 + j by omega]
      exact xCh_ok2 j (k + 1) c b (hc.imp id fun ⟨q, hq, e⟩ => ⟨q, by omega, e⟩)
    rw [xCh]
    split
    · rename_i c8
      split
      · exact hs b
      · split
        · exact hs b
        · rw [show k + (j + 1) = k + 1 + j by omega]
          exact xCh_ok2 j (k + 1) _ _ (Or.inr ⟨k, by omega, rfl, c8⟩)
    · exact hs b
theorem Op.r {g : G0} {h : Hp} {yx : MethodName} {wx : Cond} {A : List PV} {ym : MethodName} {wm : Cond} {B : List PV} {dx dm : Nat} {X : Int32 × Hp} (v : Int32) (H1 : Hp) (eX : X = (v, H1)) (hx : Mx g yx wx dx A h 0 0 (qE (some (pI X.1)) X.2) noX) {Q : Option PV → Hp → Prop} (hm : Mx g ym wm dm B H1 0 0 Q noX) (hQ : ∀ r2 h2, Q r2 h2 → r2 = some (pI v) ∧ RR h2 ∧ cn h2 = cn h) : Op g h yx wx A ym wm B dx dm 0 0 0 0 := by
  subst eX
  refine Mx.mono ?_ (fun _ _ z => z) hx
  rintro r h1 ⟨rfl, rfl⟩
  refine ⟨v, rfl, Mx.mono ?_ (fun _ _ z => z) hm⟩
  intro r2 h2 q
  obtain ⟨k1, k2, k3⟩ := hQ r2 h2 q
  refine ⟨k1, k2, ?_, ?_⟩
  · unfold potC; rw [k3]; exact Nat.le_refl _
  · unfold potS; rw [k3]; exact Nat.le_refl _
theorem Op.addr {g : G0} {h : Hp} {yx : MethodName} {wx : Cond} {A : List PV} {ym : MethodName} {wm : Cond} {B : List PV} {dx dm mc ms : Nat} (Q : Hp → Prop) (v : Int32) (hx : Mx g yx wx dx A h mc ms (fun r h1 => r = some (pI v) ∧ Q h1) noX) (R : Hp → Option PV → Hp → Prop) (hm : ∀ h1, Q h1 → Mx g ym wm dm B h1 0 0 (R h1) noX) (hr : ∀ h1 r2 h2, Q h1 → R h1 r2 h2 → r2 = some (pI v) ∧ RR h2 ∧ potC h2 + mc ≤ potC h ∧ potS h2 + ms ≤ potS h) : Op g h yx wx A ym wm B dx dm mc ms 0 0 := by
  refine Mx.mono ?_ (fun _ _ z => z) hx
  rintro r h1 ⟨rfl, q⟩
  refine ⟨v, rfl, Mx.mono ?_ (fun _ _ z => z) (hm h1 q)⟩
  intro r2 h2 q2
  exact hr h1 r2 h2 q q2
set_option maxRecDepth 20000 in
theorem op_fill (g : G0) (h : Hp) (r : RR h) {w : Int32} : ∃ mc ms, mc ≤ 4 ∧ ms ≤ 1523 ∧ Op g h yX11_fill wX11_fill (pR (0, 0) :: [pI w]) yX14_fill wX14_fill (pR (32, 0) :: [pI w]) 8 12 mc ms 0 0 := by
  have le := r.1.le
  have ro := r.2.2.2.2.2.2.2.1
  have pe := r.2.2.2.2.2.1
  obtain ⟨T, hT, t1, t2⟩ := r.2.2.2.1.2.2.1
  cases z : xRoo h w with
  | none =>
    refine ⟨0, 0, by decide, by decide, Op.of2 (Y := (-1, mT (mZ (xT h 1)) 1)) (-1 : Int32) (xT h 1) (mT (mZ (xT h 1)) 1) ?_ rfl (m_fillN g h r.1 (fun a ha => by rw [z] at ha; cases ha)) (M_fill1 g (xT h 1) (MJ_congr (h' := xT h 1) (Eqv.sI (Eqv.rf _) Bool.false_ne_true) r.2.2.1).1.1 ?_) (RR_ref1 r) rfl⟩
    · unfold xFillN; rw [z]
    · exact xRoo_no (h' := xT h 1) r.1 ro (by rw [xT_o _ _ (by decide)]) z
  | some a =>
    obtain ⟨j, rfl, rfl, hj, -⟩ := xRoo_yes (h' := h) r.1 ro rfl z
    have ey : ∀ h', vi h' (32, 0) 36 = vi h (32, 0) 36 → ¬ mRb h' (nI j) = 0 := fun h' e => by obtain ⟨-, -, -, -, y⟩ := xRoo_yes (h' := h') r.1 ro e z; rw [y]; decide
    rcases (ro.2.2.1 j hj).2.2 with ⟨z1, z2⟩ | ⟨s, q, hs, hq, z1, z2, -⟩
    · have eS : fiS h (10, j) = xSet h (vi h (10, j) 0) (nI T) := by unfold fiS; rw [t1]
      have eC : fiC h (10, j) = xCh (xSet h (vi h (10, j) 0) (nI T)) (nI T) (cn h 9) 0 (-2) (-1) := by unfold fiC; rw [eS, t1]
      have rb : RR (xSet h (vi h (10, j) 0) (nI T)) := RR_set r _
      obtain ⟨n, qb⟩ := r.qb (vi h (10, j) 0) hT
      have gset := xGv_set h (vi h (10, j) 0) (nI T)
      have cok := xCh_ok2 (h := xSet h (vi h (10, j) 0) (nI T)) (d := nI T) (cn h 9) 0 (-2) (-1) (Or.inl rfl)
      rw [Nat.zero_add, ← eC] at cok
      have fi : ∀ h0, Eqv fAm (xSet h (vi h (10, j) 0) (nI T)) h0 → Mx g yX14_fill wX14_fill 12 [pR (32, 0), pI (nI j)] h0 0 0 (FiQ (xSet h (vi h (10, j) 0) (nI T)) h0 j (cn h 11)) noX := by
        intro h0 ag
        exact M_fillG g (xSet h (vi h (10, j) 0) (nI T)) qb r.2.2.2.2.2.2.1.1 rb.2.2.2.2.2.2.2.2.1 (Ag_of ag) (by omega) (by omega) ro.2.1 (ro.2.2.1 j hj).1.symm t2 t1 (ey h0 (ag.2.2.2.2 32 0 36 rfl)) ((ag.2.2.2.2 38 11 j rfl).trans z2)
      by_cases bad : xGv h = -1 ∨ fiC h (10, j) = -2
      · refine ⟨0, 0, by decide, by decide, Op.r (-1 : Int32) (xT (xSet h (vi h (10, j) 0) (nI T)) 6) ?_ (m_fillN g h r.1 ?_) (fi (xT (xSet h (vi h (10, j) 0) (nI T)) 6) (Eqv.sI (Eqv.rf _) Bool.false_ne_true)) ?_⟩
        · unfold xFillN; rw [z]; show (match vr h (10, j) 1 with | some _ => _ | none => _) = _; rw [z1]
          show (if xGv h = -1 then _ else _) = _
          by_cases g1 : xGv h = -1
          · rw [if_pos g1, eS]
          · rw [if_neg g1, eS]
            have c2 := bad.resolve_left g1
            rw [c2]; rfl
        · intro a ha _ g1 p hp
          rw [z] at ha; cases ha
          rw [bad.resolve_left g1] at hp; cases hp
        · rintro r2 h3 ⟨h2, fr, q3⟩
          have hbad : xGv (xSet h (vi h (10, j) 0) (nI T)) = -1 ∨ xCh (xSet h (vi h (10, j) 0) (nI T)) (vi (xSet h (vi h (10, j) 0) (nI T)) (0, 0) 13) (cn (xSet h (vi h (10, j) 0) (nI T)) 9) 0 (-2) (-1) = -2 := by
            rw [gset, show vi (xSet h (vi h (10, j) 0) (nI T)) (0, 0) 13 = nI T from t1, show cn (xSet h (vi h (10, j) 0) (nI T)) 9 = cn h 9 from rfl, ← eC]; exact bad
          rcases q3 with ⟨-, rfl, rfl⟩ | ⟨nb, -⟩ | ⟨nb, -⟩
          · exact ⟨rfl, RR_frk6 rb fr, fr.1⟩
          · exact absurd hbad nb
          · exact absurd hbad nb
      · have ng : ¬ xGv h = -1 := fun y => bad (Or.inl y)
        obtain ⟨q, hq, eq, hq8⟩ := cok.resolve_left (fun y => bad (Or.inr y))
        have hper : xPer (fiS h (10, j)) (fiC h (10, j)) = some (9, q) := by rw [eq, eS]; exact xPer_in rb.1 hq
        have nbad : ¬ (xGv (xSet h (vi h (10, j) 0) (nI T)) = -1 ∨ xCh (xSet h (vi h (10, j) 0) (nI T)) (vi (xSet h (vi h (10, j) 0) (nI T)) (0, 0) 13) (cn (xSet h (vi h (10, j) 0) (nI T)) 9) 0 (-2) (-1) = -2) := by
          rw [gset, show vi (xSet h (vi h (10, j) 0) (nI T)) (0, 0) 13 = nI T from t1, show cn (xSet h (vi h (10, j) 0) (nI T)) 9 = cn h 9 from rfl, ← eC]; exact bad
        by_cases c3 : cn h 11 < 100
        · obtain ⟨v, Tn, hv, hTn, g1, g2, ev⟩ := (xGv_ok r.2.2.2.2.2.2.2.2.1).resolve_left ng
          have hc : vi h (7, 3) 2 < 100 := by rw [r.1.a3.1]; exact nI_lt (b := 100) c3 (by decide)
          refine ⟨2, 1504, by decide, by decide, Op.addr _ _ (m_fillY g h r.1 hj z1 ng hper hq hc) (fun h1 => FiQ (xSet h (vi h (10, j) 0) (nI T)) h1 j (cn h 11)) ?_ ?_⟩
          · rintro h1 ⟨hA, f, al, rfl⟩
            exact fi _ ((show Eqv fAm (xSet h (vi h (10, j) 0) (nI T)) hA from (Eqv.add (show Eqv fAm (xSet h (vi h (10, j) 0) (nI T)) (stN h j) from (by have K : Eqv fAm (fiS h (10, j)) (stN h j) := (Eqv.sI (Eqv.sI (Eqv.sI (Eqv.sI (Eqv.nw (Eqv.rf _) Bool.false_ne_true Bool.false_ne_true Bool.false_ne_true Bool.false_ne_true (fun _ _ => Bool.false_ne_true)) Bool.false_ne_true) Bool.false_ne_true) Bool.false_ne_true) Bool.false_ne_true); rw [eS] at K; exact K)) f Bool.false_ne_true Bool.false_ne_true ⟨Bool.false_ne_true, Bool.false_ne_true⟩ Bool.false_ne_true (fun _ _ => Bool.false_ne_true) (fun _ _ => Bool.false_ne_true))).tr (show Eqv fAm hA (fiX hA j (cn h 11) (xGv h) q) from (Eqv.sI (Eqv.sI (Eqv.sI (Eqv.sI (Eqv.sR (Eqv.rf _) Bool.false_ne_true) Bool.false_ne_true) Bool.false_ne_true) Bool.false_ne_true) Bool.false_ne_true)))
          · rintro h1 r2 h3 ⟨hA, f, al, rfl⟩ ⟨h2, fr, q3⟩
            rcases q3 with ⟨b2, -⟩ | ⟨-, s100, -⟩ | ⟨-, -, rfl, rfl⟩
            · exact absurd b2 nbad
            · omega
            · have eC2 : xCh (xSet h (vi h (10, j) 0) (nI T)) (vi (xSet h (vi h (10, j) 0) (nI T)) (0, 0) 13) (cn (xSet h (vi h (10, j) 0) (nI T)) 9) 0 (-2) (-1) = fiC h (10, j) := by rw [show vi (xSet h (vi h (10, j) 0) (nI T)) (0, 0) 13 = nI T from t1, show cn (xSet h (vi h (10, j) 0) (nI T)) 9 = cn h 9 from rfl, eC]
              have e38 : vi h2 (32, 0) 38 = nI Tn := by
                rw [fr.2.2.2.2 (32, 0) 38 (by decide) (fun _ => by decide)]
                exact ((((show Eqv fAm (xSet h (vi h (10, j) 0) (nI T)) hA from (Eqv.add (show Eqv fAm (xSet h (vi h (10, j) 0) (nI T)) (stN h j) from (by have K : Eqv fAm (fiS h (10, j)) (stN h j) := (Eqv.sI (Eqv.sI (Eqv.sI (Eqv.sI (Eqv.nw (Eqv.rf _) Bool.false_ne_true Bool.false_ne_true Bool.false_ne_true Bool.false_ne_true (fun _ _ => Bool.false_ne_true)) Bool.false_ne_true) Bool.false_ne_true) Bool.false_ne_true) Bool.false_ne_true); rw [eS] at K; exact K)) f Bool.false_ne_true Bool.false_ne_true ⟨Bool.false_ne_true, Bool.false_ne_true⟩ Bool.false_ne_true (fun _ _ => Bool.false_ne_true) (fun _ _ => Bool.false_ne_true))).tr (show Eqv fAm hA (fiX hA j (cn h 11) (xGv h) q) from (Eqv.sI (Eqv.sI (Eqv.sI (Eqv.sI (Eqv.sR (Eqv.rf _) Bool.false_ne_true) Bool.false_ne_true) Bool.false_ne_true) Bool.false_ne_true) Bool.false_ne_true)))).2.2.2.2 32 0 38 rfl).trans g2
              have etn : xGv h + 1 - (xGv h + 1) / vi h2 (32, 0) 38 * vi h2 (32, 0) 38 = nI ((v + 1) % Tn) := by rw [ev, e38, nI_1, nI_rem (by omega) (by omega)]
              rw [eC2, gset, fiM_eq]
              refine ⟨rfl, RR_fill r hj z1 c3 hq eq rfl hq8 hT t1 t2 hv hTn ev g1 g2 etn f al fr, ?_, ?_⟩
              all_goals
                have k : ∀ p, cn (fiM h2 (cn h 11) j (fiC h (10, j)) (xGv h) (xGv h + 1 - (xGv h + 1) / vi h2 (32, 0) 38 * vi h2 (32, 0) 38)) p = cn h2 p := fun p => (show Eqv fCn h2 (fiM h2 (cn h 11) j (fiC h (10, j)) (xGv h) (xGv h + 1 - (xGv h + 1) / vi h2 (32, 0) 38 * vi h2 (32, 0) 38)) from (Eqv.sI (Eqv.sI (Eqv.sI (Eqv.sI (Eqv.sI (Eqv.sI (Eqv.sI (Eqv.sI (Eqv.sI (Eqv.sI (Eqv.sI (Eqv.rf _) Bool.false_ne_true) Bool.false_ne_true) Bool.false_ne_true) Bool.false_ne_true) Bool.false_ne_true) Bool.false_ne_true) Bool.false_ne_true) Bool.false_ne_true) Bool.false_ne_true) Bool.false_ne_true) Bool.false_ne_true)).1 p rfl
                have k2 : ∀ p, cn h2 p = cn hA p := fun p => (congrFun fr.1 p).trans ((show Eqv fCn hA (fiX hA j (cn h 11) (xGv h) q) from (Eqv.sI (Eqv.sI (Eqv.sI (Eqv.sI (Eqv.sR (Eqv.rf _) Bool.false_ne_true) Bool.false_ne_true) Bool.false_ne_true) Bool.false_ne_true) Bool.false_ne_true)).1 p rfl)
                have e1 : Eqv fNf h hA := (Eqv.add (show Eqv fNf h (stN h j) from (Eqv.sI (Eqv.sI (Eqv.sI (Eqv.sI (Eqv.nw (Eqv.sRs (Eqv.rf h) Bool.false_ne_true) Bool.false_ne_true Bool.false_ne_true Bool.false_ne_true Bool.false_ne_true (fun _ _ => Bool.false_ne_true)) Bool.false_ne_true) Bool.false_ne_true) Bool.false_ne_true) Bool.false_ne_true)) f Bool.false_ne_true Bool.false_ne_true ⟨Bool.false_ne_true, Bool.false_ne_true⟩ Bool.false_ne_true (fun _ _ => Bool.false_ne_true) (fun _ _ => Bool.false_ne_true))
                have c11 : cn hA 11 = cn h 11 + 1 := (f.1 11 (by decide)).trans (stN_cn h j)
                simp only [potC, potS, k, k2, c11, e1.1 8 rfl, e1.1 9 rfl, e1.1 10 rfl, e1.1 12 rfl, e1.1 33 rfl]
                omega
        · have s100 : cn h 11 = 100 := by omega
          refine ⟨0, 0, by decide, by decide, Op.r (-1 : Int32) (xT (xSet h (vi h (10, j) 0) (nI T)) 3) ?_ (m_fillN g h r.1 ?_) (fi (xT (xSet h (vi h (10, j) 0) (nI T)) 3) (Eqv.sI (Eqv.rf _) Bool.false_ne_true)) ?_⟩
          · unfold xFillN; rw [z]; show (match vr h (10, j) 1 with | some _ => _ | none => _) = _; rw [z1]
            show (if xGv h = -1 then _ else match xPer (fiS h (10, j)) (fiC h (10, j)) with | none => _ | some _ => _) = _
            rw [if_neg ng, hper, eS]
          · intro a ha _ _ p hp
            rw [r.1.a3.1, s100]; decide
          · rintro r2 h3 ⟨h2, fr, q3⟩
            rcases q3 with ⟨b2, -⟩ | ⟨-, -, rfl, rfl⟩ | ⟨-, s2, -⟩
            · exact absurd b2 nbad
            · exact ⟨rfl, RR_frk3 rb fr, fr.1⟩
            · omega
    · refine ⟨0, 0, by decide, by decide, Op.of2 (Y := (-1, mT (mZ (xT h 5)) 5)) (-1 : Int32) (xT h 5) (mT (mZ (xT h 5)) 5) ?_ rfl (m_fillN g h r.1 (fun a ha hn => by rw [z] at ha; cases ha; rw [z1] at hn; cases hn)) (M_fill5 g (xT h 5) (MJ_congr (h' := xT h 5) (Eqv.sI (Eqv.rf _) Bool.false_ne_true) r.2.2.1).1.1 (r := j) (by omega) (ey _ (by rw [xT_o _ _ (by decide)])) ?_) (RR_ref5 r) rfl⟩
      · unfold xFillN; rw [z]; show (match vr h (10, j) 1 with | some _ => _ | none => _) = _; rw [z1]
      · unfold xT; rw [vi_sI_ne _ _ _ _ (by decide), z2]; exact nI_ne1 (by omega)
