theorem XI_tr {h : Hp} (i : XI h) {t : Nat} (ht : t ≤ 8) : XI (sI h (5, 0) 1 (nI t)) :=
  ⟨i.1, ⟨AL_sIk i.a0 (by decide), AL_sIk i.a1 (by decide), AL_sIk i.a2 (by decide), AL_sIk i.a3 (by decide), AL_sIk i.a4 (by decide)⟩, i.2.2.1, i.2.2.2.1, i.2.2.2.2.1, i.2.2.2.2.2.1, i.2.2.2.2.2.2.1, i.2.2.2.2.2.2.2.1, t, ht, rfl⟩
theorem MJ_tr {h : Hp} (m : MJ h) {t : Nat} (ht : t ≤ 8) : MJ (sI h (32, 0) 38 (nI t)) :=
  ⟨⟨m.1.1, m.1.2.1, m.1.2.2.1, m.1.2.2.2.1, ⟨t, ht, rfl⟩, m.1.2.2.2.2.2⟩, m.2.1, m.2.2.1, m.2.2.2.1, m.2.2.2.2⟩
set_option maxRecDepth 20000 in
theorem op_trustee (g : G0) (h : Hp) (r : RR h)  : Op g h yX11_trustee wX11_trustee (pR (0, 0) :: []) yX14_trustee wX14_trustee (pR (32, 0) :: []) 8 12 0 0 0 0 := by
  obtain ⟨T, hT, e1, e2, ea, et⟩ := r.2.2.2.2.2.2.2.2.1
  by_cases c : T < 8
  · have eX : xTrustee h = (nI T, xT (sI h (5, 0) 1 (nI (T + 1))) 0) := by
      have c2 : vi h (5, 0) 1 < 8 := by rw [e1]; exact nI_lt (b := 8) c (by decide)
      unfold xTrustee; rw [if_pos c2, e1, nI_1, vi_sI_eq, nI_pred]
    have e3 : vi (mZ (xT (sI h (5, 0) 1 (nI (T + 1))) 0)) (32, 0) 38 = nI T := e2
    have n8 : ¬ nI T = 8 := fun z => by have := (nI_eq (a := T) (b := 8) (by omega) (by decide)).mp z; omega
    have xi : XI (xT (sI h (5, 0) 1 (nI (T + 1))) 0) := XI_congr (by repeat (first | refine Eqv.sI ?_ Bool.false_ne_true | refine Eqv.sR ?_ Bool.false_ne_true | refine Eqv.sRs ?_ Bool.false_ne_true | refine Eqv.sL ?_ Bool.false_ne_true | exact Eqv.rf _)) (XI_tr r.1 (t := T + 1) (by omega))
    have mi : MJ (xT (sI h (5, 0) 1 (nI (T + 1))) 0) := mj_of r (by repeat (first | refine Eqv.sI ?_ Bool.false_ne_true | refine Eqv.sR ?_ Bool.false_ne_true | refine Eqv.sRs ?_ Bool.false_ne_true | refine Eqv.sL ?_ Bool.false_ne_true | exact Eqv.rf _))
    rcases et with ⟨z1, z2, z3⟩ | ⟨u, hu, z2, z3⟩
    · subst z1
      have eY : mTrustee (xT (sI h (5, 0) 1 (nI (0 + 1))) 0) = (nI 0, mT (sI (sI (mZ (xT (sI h (5, 0) 1 (nI (0 + 1))) 0)) (32, 0) 39 0) (32, 0) 38 (nI 1)) 0) := by
        unfold mTrustee; rw [e3, if_neg n8, if_pos (show nI 0 = 0 from rfl)]; unfold mTrA; rw [show vi (sI (mZ (xT (sI h (5, 0) 1 (nI (0 + 1))) 0)) (32, 0) 39 0) (32, 0) 38 = nI 0 from e2, nI_1, vi_sI_eq, nI_pred]
      refine Op.of2 _ _ _ eX eY (m_trustee g h r.1) (M_trustee g _ mi.1) ?_ rfl
      exact ⟨XI_congr (by repeat (first | refine Eqv.sI ?_ Bool.false_ne_true | refine Eqv.sR ?_ Bool.false_ne_true | refine Eqv.sRs ?_ Bool.false_ne_true | refine Eqv.sL ?_ Bool.false_ne_true | exact Eqv.rf _)) (XI_tr r.1 (t := 0 + 1) (by omega)), LD_congr (by repeat (first | refine Eqv.sI ?_ Bool.false_ne_true | refine Eqv.sR ?_ Bool.false_ne_true | refine Eqv.sRs ?_ Bool.false_ne_true | refine Eqv.sL ?_ Bool.false_ne_true | exact Eqv.rf _)) r.2.1, MJ_congr (by repeat (first | refine Eqv.sI ?_ Bool.false_ne_true | refine Eqv.sR ?_ Bool.false_ne_true | refine Eqv.sRs ?_ Bool.false_ne_true | refine Eqv.sL ?_ Bool.false_ne_true | exact Eqv.rf _)) (MJ_tr (MJ_congr (h' := sI (mZ (xT (sI h (5, 0) 1 (nI (0 + 1))) 0)) (32, 0) 39 0) (by repeat (first | refine Eqv.sI ?_ Bool.false_ne_true | refine Eqv.sR ?_ Bool.false_ne_true | refine Eqv.sRs ?_ Bool.false_ne_true | refine Eqv.sL ?_ Bool.false_ne_true | exact Eqv.rf _)) r.2.2.1) (t := 1) (by omega)), ⟨r.2.2.2.1.1, r.2.2.2.1.2.1, r.2.2.2.1.2.2.1, rfl, r.2.2.2.1.2.2.2.2.1, (if_neg (show ¬ (0 : Int32) = 4 by decide)).symm⟩, TaR_congr (by repeat (first | refine Eqv.sI ?_ Bool.false_ne_true | refine Eqv.sR ?_ Bool.false_ne_true | refine Eqv.sRs ?_ Bool.false_ne_true | refine Eqv.sL ?_ Bool.false_ne_true | exact Eqv.rf _)) r.2.2.2.2.1, PeR_congr (by repeat (first | refine Eqv.sI ?_ Bool.false_ne_true | refine Eqv.sR ?_ Bool.false_ne_true | refine Eqv.sRs ?_ Bool.false_ne_true | refine Eqv.sL ?_ Bool.false_ne_true | exact Eqv.rf _)) r.2.2.2.2.2.1, PaR_congr (by repeat (first | refine Eqv.sI ?_ Bool.false_ne_true | refine Eqv.sR ?_ Bool.false_ne_true | refine Eqv.sRs ?_ Bool.false_ne_true | refine Eqv.sL ?_ Bool.false_ne_true | exact Eqv.rf _)) r.2.2.2.2.2.2.1, RoR_congr (by repeat (first | refine Eqv.sI ?_ Bool.false_ne_true | refine Eqv.sR ?_ Bool.false_ne_true | refine Eqv.sRs ?_ Bool.false_ne_true | refine Eqv.sL ?_ Bool.false_ne_true | exact Eqv.rf _)) r.2.2.2.2.2.2.2.1, ⟨1, by omega, rfl, rfl, ea, Or.inr ⟨0, by omega, z2, rfl⟩⟩, LaR_congr (by repeat (first | refine Eqv.sI ?_ Bool.false_ne_true | refine Eqv.sR ?_ Bool.false_ne_true | refine Eqv.sRs ?_ Bool.false_ne_true | refine Eqv.sL ?_ Bool.false_ne_true | exact Eqv.rf _)) r.2.2.2.2.2.2.2.2.2.1, CsR_congr (by repeat (first | refine Eqv.sI ?_ Bool.false_ne_true | refine Eqv.sR ?_ Bool.false_ne_true | refine Eqv.sRs ?_ Bool.false_ne_true | refine Eqv.sL ?_ Bool.false_ne_true | exact Eqv.rf _)) r.2.2.2.2.2.2.2.2.2.2.1, SR_congr (by repeat (first | refine Eqv.sI ?_ Bool.false_ne_true | refine Eqv.sR ?_ Bool.false_ne_true | refine Eqv.sRs ?_ Bool.false_ne_true | refine Eqv.sL ?_ Bool.false_ne_true | exact Eqv.rf _)) r.2.2.2.2.2.2.2.2.2.2.2⟩
    · have n0 : ¬ nI T = 0 := nI_ne0 (by omega) (by omega)
      have eY : mTrustee (xT (sI h (5, 0) 1 (nI (T + 1))) 0) = (nI T, mT (sI (mZ (xT (sI h (5, 0) 1 (nI (T + 1))) 0)) (32, 0) 38 (nI (T + 1))) 0) := by
        unfold mTrustee; rw [e3, if_neg n8, if_neg n0]; unfold mTrA; rw [e3, nI_1, vi_sI_eq, nI_pred]
      refine Op.of2 _ _ _ eX eY (m_trustee g h r.1) (M_trustee g _ mi.1) ?_ rfl
      exact ⟨XI_congr (by repeat (first | refine Eqv.sI ?_ Bool.false_ne_true | refine Eqv.sR ?_ Bool.false_ne_true | refine Eqv.sRs ?_ Bool.false_ne_true | refine Eqv.sL ?_ Bool.false_ne_true | exact Eqv.rf _)) (XI_tr r.1 (t := T + 1) (by omega)), LD_congr (by repeat (first | refine Eqv.sI ?_ Bool.false_ne_true | refine Eqv.sR ?_ Bool.false_ne_true | refine Eqv.sRs ?_ Bool.false_ne_true | refine Eqv.sL ?_ Bool.false_ne_true | exact Eqv.rf _)) r.2.1, MJ_congr (by repeat (first | refine Eqv.sI ?_ Bool.false_ne_true | refine Eqv.sR ?_ Bool.false_ne_true | refine Eqv.sRs ?_ Bool.false_ne_true | refine Eqv.sL ?_ Bool.false_ne_true | exact Eqv.rf _)) (MJ_tr (MJ_congr (h' := mZ (xT (sI h (5, 0) 1 (nI (T + 1))) 0)) (by repeat (first | refine Eqv.sI ?_ Bool.false_ne_true | refine Eqv.sR ?_ Bool.false_ne_true | refine Eqv.sRs ?_ Bool.false_ne_true | refine Eqv.sL ?_ Bool.false_ne_true | exact Eqv.rf _)) r.2.2.1) (t := T + 1) (by omega)), ⟨r.2.2.2.1.1, r.2.2.2.1.2.1, r.2.2.2.1.2.2.1, rfl, r.2.2.2.1.2.2.2.2.1, (if_neg (show ¬ (0 : Int32) = 4 by decide)).symm⟩, TaR_congr (by repeat (first | refine Eqv.sI ?_ Bool.false_ne_true | refine Eqv.sR ?_ Bool.false_ne_true | refine Eqv.sRs ?_ Bool.false_ne_true | refine Eqv.sL ?_ Bool.false_ne_true | exact Eqv.rf _)) r.2.2.2.2.1, PeR_congr (by repeat (first | refine Eqv.sI ?_ Bool.false_ne_true | refine Eqv.sR ?_ Bool.false_ne_true | refine Eqv.sRs ?_ Bool.false_ne_true | refine Eqv.sL ?_ Bool.false_ne_true | exact Eqv.rf _)) r.2.2.2.2.2.1, PaR_congr (by repeat (first | refine Eqv.sI ?_ Bool.false_ne_true | refine Eqv.sR ?_ Bool.false_ne_true | refine Eqv.sRs ?_ Bool.false_ne_true | refine Eqv.sL ?_ Bool.false_ne_true | exact Eqv.rf _)) r.2.2.2.2.2.2.1, RoR_congr (by repeat (first | refine Eqv.sI ?_ Bool.false_ne_true | refine Eqv.sR ?_ Bool.false_ne_true | refine Eqv.sRs ?_ Bool.false_ne_true | refine Eqv.sL ?_ Bool.false_ne_true | exact Eqv.rf _)) r.2.2.2.2.2.2.2.1, ⟨T + 1, by omega, rfl, rfl, ea, Or.inr ⟨u, by omega, z2, z3⟩⟩, LaR_congr (by repeat (first | refine Eqv.sI ?_ Bool.false_ne_true | refine Eqv.sR ?_ Bool.false_ne_true | refine Eqv.sRs ?_ Bool.false_ne_true | refine Eqv.sL ?_ Bool.false_ne_true | exact Eqv.rf _)) r.2.2.2.2.2.2.2.2.2.1, CsR_congr (by repeat (first | refine Eqv.sI ?_ Bool.false_ne_true | refine Eqv.sR ?_ Bool.false_ne_true | refine Eqv.sRs ?_ Bool.false_ne_true | refine Eqv.sL ?_ Bool.false_ne_true | exact Eqv.rf _)) r.2.2.2.2.2.2.2.2.2.2.1, SR_congr (by repeat (first | refine Eqv.sI ?_ Bool.false_ne_true | refine Eqv.sR ?_ Bool.false_ne_true | refine Eqv.sRs ?_ Bool.false_ne_true | refine Eqv.sL ?_ Bool.false_ne_true | exact Eqv.rf _)) r.2.2.2.2.2.2.2.2.2.2.2⟩
  · have t8 : T = 8 := by omega
    subst t8
    have eX : xTrustee h = (-1, xT h 3) := by unfold xTrustee; rw [e1]; rfl
    have eY : mTrustee (xT h 3) = (-1, mT (mZ (xT h 3)) 3) := by unfold mTrustee; rw [show vi (mZ (xT h 3)) (32, 0) 38 = nI 8 from e2]; rfl
    exact Op.of2 _ _ _ eX eY (m_trustee g h r.1) (M_trustee g _ (mj_of r (by repeat (first | refine Eqv.sI ?_ Bool.false_ne_true | refine Eqv.sR ?_ Bool.false_ne_true | refine Eqv.sRs ?_ Bool.false_ne_true | refine Eqv.sL ?_ Bool.false_ne_true | exact Eqv.rf _))).1) (RR_ref3 r) rfl
set_option maxRecDepth 20000 in
theorem op_away (g : G0) (h : Hp) (r : RR h) {t b : Int32} : Op g h yX11_away wX11_away (pR (0, 0) :: [pI t, pI b]) yX14_away wX14_away (pR (32, 0) :: [pI t, pI b]) 8 12 0 0 0 0 := by
  obtain ⟨T, hT, e1, e2, ea, et⟩ := r.2.2.2.2.2.2.2.2.1
  by_cases c0 : t < 0
  · exact Op.of2 (0 : Int32) (xT h 1) (mT (mZ (xT h 1)) 1) (by unfold xAway; rw [if_pos c0]) (by unfold mAway; rw [if_pos c0]) (m_away g h r.1) (M_away g _ (mj_of r (by repeat (first | refine Eqv.sI ?_ Bool.false_ne_true | refine Eqv.sR ?_ Bool.false_ne_true | refine Eqv.sRs ?_ Bool.false_ne_true | refine Eqv.sL ?_ Bool.false_ne_true | exact Eqv.rf _))).1) (RR_ref1 r) rfl
  · by_cases c1 : t < nI T
    · obtain ⟨j, hj, rfl⟩ := nI_of c0
      have jT : j < T := (nI_ltI hj (by omega)).mp c1
      have ncj : (nI j).toNatClampNeg = j := nI_clamp hj
      have eX : xAway h (nI j) b = (1, xT (sI h (14, 0) j (vp_nar .boolean b)) 0) := by unfold xAway; rw [if_neg c0, e1, if_pos c1, ncj]
      have eY : mAway (xT (sI h (14, 0) j (vp_nar .boolean b)) 0) (nI j) b = (1, mT (sI (mZ (xT (sI h (14, 0) j (vp_nar .boolean b)) 0)) (39, 2) j (vp_nar .boolean b)) 0) := by unfold mAway; rw [if_neg c0, show vi (mZ (xT (sI h (14, 0) j (vp_nar .boolean b)) 0)) (32, 0) 38 = nI T from e2, if_pos c1, ncj]
      refine Op.of2 _ _ _ eX eY (m_away g h r.1) (M_away g _ (mj_of r (by repeat (first | refine Eqv.sI ?_ Bool.false_ne_true | refine Eqv.sR ?_ Bool.false_ne_true | refine Eqv.sRs ?_ Bool.false_ne_true | refine Eqv.sL ?_ Bool.false_ne_true | exact Eqv.rf _))).1) ?_ rfl
      refine ⟨XI_congr (by repeat (first | refine Eqv.sI ?_ Bool.false_ne_true | refine Eqv.sR ?_ Bool.false_ne_true | refine Eqv.sRs ?_ Bool.false_ne_true | refine Eqv.sL ?_ Bool.false_ne_true | exact Eqv.rf _)) r.1, LD_congr (by repeat (first | refine Eqv.sI ?_ Bool.false_ne_true | refine Eqv.sR ?_ Bool.false_ne_true | refine Eqv.sRs ?_ Bool.false_ne_true | refine Eqv.sL ?_ Bool.false_ne_true | exact Eqv.rf _)) r.2.1, MJ_congr (by repeat (first | refine Eqv.sI ?_ Bool.false_ne_true | refine Eqv.sR ?_ Bool.false_ne_true | refine Eqv.sRs ?_ Bool.false_ne_true | refine Eqv.sL ?_ Bool.false_ne_true | exact Eqv.rf _)) r.2.2.1, ⟨r.2.2.2.1.1, r.2.2.2.1.2.1, r.2.2.2.1.2.2.1, rfl, r.2.2.2.1.2.2.2.2.1, (if_neg (show ¬ (0 : Int32) = 4 by decide)).symm⟩, TaR_congr (by repeat (first | refine Eqv.sI ?_ Bool.false_ne_true | refine Eqv.sR ?_ Bool.false_ne_true | refine Eqv.sRs ?_ Bool.false_ne_true | refine Eqv.sL ?_ Bool.false_ne_true | exact Eqv.rf _)) r.2.2.2.2.1, PeR_congr (by repeat (first | refine Eqv.sI ?_ Bool.false_ne_true | refine Eqv.sR ?_ Bool.false_ne_true | refine Eqv.sRs ?_ Bool.false_ne_true | refine Eqv.sL ?_ Bool.false_ne_true | exact Eqv.rf _)) r.2.2.2.2.2.1, PaR_congr (by repeat (first | refine Eqv.sI ?_ Bool.false_ne_true | refine Eqv.sR ?_ Bool.false_ne_true | refine Eqv.sRs ?_ Bool.false_ne_true | refine Eqv.sL ?_ Bool.false_ne_true | exact Eqv.rf _)) r.2.2.2.2.2.2.1, RoR_congr (by repeat (first | refine Eqv.sI ?_ Bool.false_ne_true | refine Eqv.sR ?_ Bool.false_ne_true | refine Eqv.sRs ?_ Bool.false_ne_true | refine Eqv.sL ?_ Bool.false_ne_true | exact Eqv.rf _)) r.2.2.2.2.2.2.2.1, ⟨T, hT, e1, e2, fun i hi => ?_, et⟩, LaR_congr (by repeat (first | refine Eqv.sI ?_ Bool.false_ne_true | refine Eqv.sR ?_ Bool.false_ne_true | refine Eqv.sRs ?_ Bool.false_ne_true | refine Eqv.sL ?_ Bool.false_ne_true | exact Eqv.rf _)) r.2.2.2.2.2.2.2.2.2.1, CsR_congr (by repeat (first | refine Eqv.sI ?_ Bool.false_ne_true | refine Eqv.sR ?_ Bool.false_ne_true | refine Eqv.sRs ?_ Bool.false_ne_true | refine Eqv.sL ?_ Bool.false_ne_true | exact Eqv.rf _)) r.2.2.2.2.2.2.2.2.2.2.1, SR_congr (by repeat (first | refine Eqv.sI ?_ Bool.false_ne_true | refine Eqv.sR ?_ Bool.false_ne_true | refine Eqv.sRs ?_ Bool.false_ne_true | refine Eqv.sL ?_ Bool.false_ne_true | exact Eqv.rf _)) r.2.2.2.2.2.2.2.2.2.2.2⟩
      show (if ((14, 0) : Ad) = (14, 0) ∧ i = j then vp_nar .boolean b else vi h (14, 0) i) = (if ((39, 2) : Ad) = (39, 2) ∧ i = j then vp_nar .boolean b else vi h (39, 2) i)
      by_cases z : i = j
      · rw [if_pos ⟨rfl, z⟩, if_pos ⟨rfl, z⟩]
      · rw [if_neg (fun y => z y.2), if_neg (fun y => z y.2)]; exact ea i hi
    · exact Op.of2 (0 : Int32) (xT h 1) (mT (mZ (xT h 1)) 1) (by unfold xAway; rw [if_neg c0, e1, if_neg c1]) (by unfold mAway; rw [if_neg c0, show vi (mZ (xT h 1)) (32, 0) 38 = nI T from e2, if_neg c1]) (m_away g h r.1) (M_away g _ (mj_of r (by repeat (first | refine Eqv.sI ?_ Bool.false_ne_true | refine Eqv.sR ?_ Bool.false_ne_true | refine Eqv.sRs ?_ Bool.false_ne_true | refine Eqv.sL ?_ Bool.false_ne_true | exact Eqv.rf _))).1) (RR_ref1 r) rfl
theorem em_eq {h : Hp} (ro : RoR h) (h11 : cn h 11 ≤ 100) : ∀ (j k : Nat) (s : Int32), k + j = cn h 10 → mEm (mZ h) j k s = xEm h j k s
  | 0, _, _, _ => rfl
  | j + 1, k, s, hk => by
    rw [mEm, xEm, mZ_o _ _ (by decide)]
    rcases (ro.2.2.1 k (by omega)).2.2 with ⟨z1, z2⟩ | ⟨s2, p, h1, h2, z1, z2, -⟩
    · rw [z1, z2, if_pos rfl]; exact em_eq ro h11 j (k + 1) _ (by omega)
    · rw [z1, z2, if_neg (nI_ne1 (by omega)), show s + 0 = s from Int32.add_zero s]; exact em_eq ro h11 j (k + 1) _ (by omega)
set_option maxRecDepth 20000 in
theorem op_count (g : G0) (h : Hp) (r : RR h) {k : Int32} : Op g h yX11_count wX11_count (pR (0, 0) :: [pI k]) yX14_count wX14_count (pR (32, 0) :: [pI k]) 8 12 0 0 0 0 := by
  have le := r.1.le
  obtain ⟨w, hw, w1, w2⟩ := r.2.2.2.1.1
  obtain ⟨t, ht, t1, t2⟩ := r.2.2.2.1.2.2.1
  obtain ⟨T, hT, u1, u2, -, u3⟩ := r.2.2.2.2.2.2.2.2.1
  obtain ⟨n, n1, n2, n3, -⟩ := r.2.2.2.2.2.2.2.2.2.2.2
  obtain ⟨cc, RS, tt, hc, htt, q1, hR, q2, q3, q4, q5⟩ := r.2.2.2.2.2.2.2.2.2.2.1
  obtain ⟨Lt, hL, l1, l2, -⟩ := r.2.2.2.2.1
  refine Op.of (X := xCount h k) (Y := mCount h k) (m_count g h r.1) (M_count g h r.2.2.1.1) ?_ (RR_z r) rfl
  show (if k < 0 then -1 else mCnt (mZ h) k.toNatClampNeg) = (if k < 0 then -1 else xCnt h k.toNatClampNeg)
  by_cases c : k < 0
  · rw [if_pos c, if_pos c]
  · rw [if_neg c, if_neg c]
    generalize k.toNatClampNeg = m
    match m with
    | 0 => exact w2.trans w1.symm
    | 1 => exact n3.trans n2.symm
    | 2 => exact r.2.2.2.2.2.1.1.trans r.1.a1.1.symm
    | 3 => exact r.2.2.2.2.2.2.2.1.1.trans r.1.a2.1.symm
    | 4 =>
      show mEm (mZ h) (vi h (32, 0) 36).toNatClampNeg 0 0 = xEm h (cn h 10) 0 0
      rw [r.2.2.2.2.2.2.2.1.1, nI_clamp (by omega)]
      exact em_eq r.2.2.2.2.2.2.2.1 le.2.2.2.1 _ 0 0 (by omega)
    | 5 => exact u2.trans u1.symm
    | 6 =>
      show vi h (32, 0) 39 = (if vi h (5, 0) 1 = 0 then -1 else vi h (5, 0) 2)
      rcases u3 with ⟨z1, z2, z3⟩ | ⟨u, hu, z2, z3⟩
      · rw [u1, z1, z3]; rfl
      · rw [u1, if_neg (nI_ne0 (by omega) (by omega)), z2, z3]
    | 7 => exact t2.trans t1.symm
    | 8 => exact q3.trans q2.symm
    | 9 =>
      show vi h (32, 0) 51 = (if 2000000000 < vl h (6, 0) 1 then 2000000000 else vl h (6, 0) 1).toInt32
      rw [q5]
      refine Int32.toInt_inj.mp ?_
      have b : RS ≤ 40000 * 99990 := Nat.le_trans hR (Nat.mul_le_mul_right _ htt)
      by_cases z : RS < 2000000000
      · rw [if_pos z, if_neg (by rw [Int64.lt_iff_toInt_lt, q4]; show ¬ (2000000000 : Int) < _; omega), Jvm.Kit.i32_of_i64 (by rw [q4]; omega) (by rw [q4]; omega), q4, nI_toInt (by omega)]
      · rw [if_neg z]
        by_cases y : RS = 2000000000
        · rw [if_neg (by rw [Int64.lt_iff_toInt_lt, q4]; show ¬ (2000000000 : Int) < _; omega), Jvm.Kit.i32_of_i64 (by rw [q4]; omega) (by rw [q4]; omega), q4, nI_toInt (by omega), y]
        · rw [if_pos (by rw [Int64.lt_iff_toInt_lt, q4]; show (2000000000 : Int) < _; omega)]; decide
    | 10 => exact r.2.2.2.2.2.2.2.2.2.1.1.trans r.1.a4.1.symm
    | 11 => exact l2.trans l1.symm
    | m + 12 => rfl
set_option maxRecDepth 20000 in
theorem op_roomOf (g : G0) (h : Hp) (r : RR h) {q k : Int32} : Op g h yX11_roomOf wX11_roomOf (pR (0, 0) :: [pI q, pI k]) yX14_roomOf wX14_roomOf (pR (32, 0) :: [pI q, pI k]) 8 12 0 0 0 0 := by
  have le := r.1.le
  cases z : xRoo h q with
  | none => exact Op.of2 (-1 : Int32) h (mZ h) (by unfold xRoomOf; rw [z]) (by unfold mRoomOf; rw [if_pos (xRoo_no (h' := mZ h) r.1 r.2.2.2.2.2.2.2.1 rfl z)]) (m_roomOf g h r.1) (M_roomOf g h r.2.2.1) (RR_z r) rfl
  | some a =>
    obtain ⟨j, rfl, rfl, hj, ey⟩ := xRoo_yes (h' := mZ h) r.1 r.2.2.2.2.2.2.2.1 rfl z
    refine Op.of2 (mRo (mZ h) j k) h (mZ h) ?_ (by unfold mRoomOf; rw [if_neg (by rw [ey]; decide), nI_clamp (by omega)]) (m_roomOf g h r.1) (M_roomOf g h r.2.2.1) (RR_z r) rfl
    have ro := r.2.2.2.2.2.2.2.1.2.2.1 j hj
    unfold xRoomOf mRo; rw [z]
    show (if k = 0 then (vi h (10, j) 0, h) else if k = 1 then (xStP h (10, j) 1, h) else if k = 2 then (xStP h (10, j) 2, h) else if k = 3 then (vi h (10, j) 2, h) else (-1, h)) = _
    rw [mZ_o _ _ (by decide), mZ_o _ _ (by decide), mZ_o _ _ (by decide), mZ_o _ _ (by decide), mZ_o _ _ (by decide), ← ro.1, ← ro.2.1]
    have s1 : ∀ f i, (∀ s, s < cn h 11 → vi h (11, s) f = vi h (38, i) s) → xStP h (10, j) f = if vi h (38, 11) j = -1 then -2 else vi h (38, i) (vi h (38, 11) j).toNatClampNeg := by
      intro f i hs
      unfold xStP
      rcases ro.2.2 with ⟨z1, z2⟩ | ⟨s2, p, h1, h2, z1, z2, -⟩
      · rw [z1, z2, if_pos rfl]
      · rw [z1, z2, if_neg (nI_ne1 (by omega)), nI_clamp (by omega)]; exact hs s2 h1
    rw [s1 1 14 (fun s hs => (r.2.2.2.2.2.2.2.1.2.2.2.1 s hs).2.1), s1 2 15 (fun s hs => (r.2.2.2.2.2.2.2.1.2.2.2.1 s hs).2.2.1)]
    split
    · rfl
    · split
      · rfl
      · split
        · rfl
        · split <;> rfl
/-- of a room on a day at most one stay -/
theorem had_last {h : Hp} {rm d : Int32} : ∀ (j k : Nat) (w : Int32), (∀ s, k ≤ s → s < k + j → ¬ (vi h (38, 13) s = rm ∧ ¬ d < vi h (38, 15) s ∧ (vi h (38, 16) s = -1 ∨ ¬ vi h (38, 16) s ≤ d))) → mHd h rm d j k w = w
  | 0, _, _, _ => rfl
  | j + 1, k, w, hn => by
    have ih := had_last (h := h) (rm := rm) (d := d) j (k + 1) w (fun s h1 h2 => hn s (by omega) (by omega))
    have h0 := hn k (by omega) (by omega)
    rw [mHd]
    split
    · rename_i c1
      split
      · exact ih
      · rename_i c2
        split
        · rename_i c3; exact absurd ⟨c1, c2, Or.inl c3⟩ h0
        · split
          · exact ih
          · rename_i c4; exact absurd ⟨c1, c2, Or.inr c4⟩ h0
    · exact ih
theorem had_eq {h : Hp} (ro : RoR h) (h11 : cn h 11 ≤ 100) {rm : Int32} {D : Nat} (hD : D ≤ 40000) : ∀ (j k : Nat), k + j = cn h 11 → mHd (mZ h) rm (nI D) j k (-2) = xHd h rm (nI D) j k
  | 0, _, _ => rfl
  | j + 1, k, hk => by
    have ih := had_eq ro h11 (rm := rm) hD j (k + 1) (by omega)
    obtain ⟨a1, a2, a3, -, ⟨tf, htf, ef, -⟩, a6⟩ := ro.2.2.2.1 k (by omega)
    have z38 : ∀ i f, vi (mZ h) (38, i) f = vi h (38, i) f := fun i f => mZ_o _ _ (fun z => by cases z)
    rw [mHd, xHd, z38, z38, z38, z38, ← a1, ← a2, ← a3]
    by_cases c1 : vi h (11, k) 0 = rm
    · rw [if_pos c1, if_pos c1]
      by_cases c2 : nI D < vi h (11, k) 2
      · rw [if_pos c2, if_pos c2]; exact ih
      · rw [if_neg c2, if_neg c2]
        have last : ¬ vi h (11, k) 3 ≤ nI D → mHd (mZ h) rm (nI D) j (k + 1) (vi h (11, k) 1) = vi h (11, k) 1 := by
          intro c3
          refine had_last j (k + 1) _ fun s h1 h2 => ?_
          rw [z38, z38]
          obtain ⟨b1, b2, b3, -⟩ := ro.2.2.2.1 s (by omega)
          rintro ⟨y1, y2, -⟩
          have ov := ro.2.2.2.2.1 k s (by omega) (by omega) (by rw [b1, y1, c1])
          rw [b3] at ov
          exact c3 (Int32.le_trans ov (Int32.not_lt.mp y2))
        rcases a6 with ⟨z1, z2, -⟩ | ⟨t, ht, z1, z2, -⟩
        · have c3 : ¬ vi h (11, k) 3 ≤ nI D := by rw [z1]; exact Int32.not_le.mpr (nI_lt (b := 2147483647) (by omega) (by decide))
          rw [z2, if_pos rfl, if_neg c3]; exact last c3
        · have c4 : vi h (38, 16) k = vi h (11, k) 3 := by rw [z1, z2]
          rw [c4, if_neg (by rw [z1]; exact nI_ne1 (by omega))]
          by_cases c3 : vi h (11, k) 3 ≤ nI D
          · rw [if_pos c3, if_pos c3]; exact ih
          · rw [if_neg c3, if_neg c3]; exact last c3
    · rw [if_neg c1, if_neg c1]; exact ih
set_option maxRecDepth 20000 in
theorem op_had (g : G0) (h : Hp) (r : RR h) {q d : Int32} : Op g h yX11_had wX11_had (pR (0, 0) :: [pI q, pI d]) yX14_had wX14_had (pR (32, 0) :: [pI q, pI d]) 8 12 0 0 0 0 := by
  have le := r.1.le
  obtain ⟨t, ht, t1, t2⟩ := r.2.2.2.1.2.2.1
  cases z : xRoo h q with
  | none => exact Op.of2 (-1 : Int32) h (mZ h) (by unfold xHad; rw [z]) (by unfold mHad; rw [if_pos (xRoo_no (h' := mZ h) r.1 r.2.2.2.2.2.2.2.1 rfl z)]) (m_had g h r.1) (M_had g h r.2.2.1.1) (RR_z r) rfl
  | some a =>
    obtain ⟨j, rfl, rfl, hj, ey⟩ := xRoo_yes (h' := mZ h) r.1 r.2.2.2.2.2.2.2.1 rfl z
    refine Op.of2 (xHad h (nI j) d).1 h (mZ h) ?_ ?_ (m_had g h r.1) (M_had g h r.2.2.1.1) (RR_z r) rfl
    · unfold xHad; rw [z]; show (if d < 0 then _ else _) = _; split; rfl; split <;> rfl
    · unfold mHad xHad; rw [if_neg (by rw [ey]; decide), z]
      show (if d < 0 then _ else if d < vi h (32, 0) 23 then _ else _) = ((if d < 0 then _ else if d < vi h (0, 0) 13 then _ else _ : Int32 × Hp).1, _)
      rw [t1, t2]
      by_cases c0 : d < 0
      · rw [if_pos c0, if_pos c0]
      · rw [if_neg c0, if_neg c0]
        by_cases c1 : d < nI t
        · obtain ⟨D, hD, rfl⟩ := nI_of c0
          have Dt := (nI_ltI hD (by omega)).mp c1
          rw [if_pos c1, if_pos c1]
          show (mHd (mZ h) (nI j) (nI D) (vi h (32, 0) 37).toNatClampNeg 0 (-2), mZ h) = (xHd h (nI j) (nI D) (cn h 11) 0, mZ h)
          rw [r.2.2.2.2.2.2.2.1.2.1, nI_clamp (by omega), had_eq r.2.2.2.2.2.2.2.1 le.2.2.2.1 (by omega) _ 0 (by omega)]
        · rw [if_neg c1, if_neg c1]
