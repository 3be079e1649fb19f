theorem laS {h : Hp} (w day : Int32) : LaH (sRs h (15, 0) (xLat h w day (cn h 8))) := fun m hm a ha => by
  rw [vr_sRs_eq] at ha
  exact LaO.lat (h := h) w day _ (Nat.le_refl _) m hm a ha
def xSet (h : Hp) (w d : Int32) : Hp := sRs h (15, 0) (xLat h w d (cn h 8))
theorem laX (h : Hp) (w d : Int32) : LaH (xSet h w d) := laS w d
theorem XIset {h : Hp} (i : XI h) (w d : Int32) : XI (xSet h w d) := XIs15 i _
theorem m_setl (g : G0) (h : Hp) (i : XI h) {w day : Int32} : Mx g yX6_settle wX6_settle 3 [pR (4, 0), pR (7, 0), pI w, pI day] h 0 0 (qE none (xSet h w day)) noX := m_settle g h i.1 i.cs i.a0 (Nat.le_refl _)
def xFact (h : Hp) (p d k : Int32) : Int32 × Hp := match xPer h p with
  | none => (-1, h)
  | some a => if xDy d = 0 then (-1, h) else if k < 0 then (-1, h) else if k ≤ 4 then (xTell h a.2 k.toNatClampNeg d, h) else (-1, h)
theorem rng04 {n : Int32} (h1 : ¬ n < 0) (h2 : n ≤ 4) : ∃ m, m < 8 ∧ n = nI m := by
  obtain ⟨j, hj, e⟩ := nI_of2 (M := 4) (n := 4) (by decide) h1 h2
  exact ⟨j, by omega, e⟩
set_option maxRecDepth 20000 in
theorem m_fact (g : G0) (h : Hp) (i : XI h) {p d k : Int32} : Mx g yX11_fact wX11_fact 8 [pR (0, 0), pI p, pI d, pI k] h 0 0 (qE (some (pI (xFact h p d k).1)) (xFact h p d k).2) noX := by
  have hS := i.1
  obtain ⟨o, ho⟩ : ∃ o, xPer h p = o := ⟨_, rfl⟩
  have ce := m_personAt g h i (p := p)
  rw [ho] at ce
  refine Mx.by kfX11_fact rfl (by decide) (Nat.le_of_ble_eq_true rfl) ?_
  refine v_aload_n dX11_fact_0 rfl ?_
  refine v_iload_n dX11_fact_1 rfl ?_
  refine v_invVE (ce) dX11_fact_2 cwX11_personAt mlX11_150 (ob_0 _) rfl rfl (by decide) (by decide) (Nat.le_of_ble_eq_true rfl) ?_
  refine v_astore dX11_fact_5 (by decide) ?_
  refine v_aload dX11_fact_7 rfl ?_
  refine v_ifnull 28 dX11_fact_9 (by decide) (fun c9 => ?_) (fun a9 c9 => ?_)
  · refine v_iconst (-1) dX11_fact_28 (by decide) ?_
    refine v_ireturn dX11_fact_29 rfl rfl ?_
    first | (subst c9; refine ⟨?_, ?_⟩ <;> (simp only [xFact, ho]; done)) | (refine ⟨?_, ?_⟩ <;> (simp only [xFact, ho]; done)) | (refine ⟨?_, ?_⟩ <;> (simp only [xFact, ho, nI_clamp (show m < 2 ^ 31 by omega)]; done))
  · subst c9
    obtain ⟨a1, a2⟩ := a9
    obtain ⟨e1, a2lt, e3⟩ := xPer_ok i ho
    obtain rfl : a1 = 9 := e1
    refine v_iload_n dX11_fact_12 rfl ?_
    refine v_invSE (m_isDay g h) dX11_fact_13 cwX11_isDay mlX11_92 rfl rfl (by decide) (by decide) (Nat.le_of_ble_eq_true rfl) ?_
    refine v_if_eq 28 dX11_fact_16 (by decide) (fun c16 => ?_) (fun c16 => ?_)
    · refine v_iconst (-1) dX11_fact_28 (by decide) ?_
      refine v_ireturn dX11_fact_29 rfl rfl ?_
      first | (subst c9; refine ⟨?_, ?_⟩ <;> (simp only [xFact, ho]; done)) | (refine ⟨?_, ?_⟩ <;> (simp only [xFact, ho, if_pos c16]; done)) | (refine ⟨?_, ?_⟩ <;> (simp only [xFact, ho, if_pos c16, nI_clamp (show m < 2 ^ 31 by omega)]; done))
    · refine v_iload_n dX11_fact_19 rfl ?_
      refine v_if_lt 28 dX11_fact_20 (by decide) (fun c20 => ?_) (fun c20 => ?_)
      · refine v_iconst (-1) dX11_fact_28 (by decide) ?_
        refine v_ireturn dX11_fact_29 rfl rfl ?_
        first | (subst c9; refine ⟨?_, ?_⟩ <;> (simp only [xFact, ho]; done)) | (refine ⟨?_, ?_⟩ <;> (simp only [xFact, ho, if_neg c16, if_pos c20]; done)) | (refine ⟨?_, ?_⟩ <;> (simp only [xFact, ho, if_neg c16, if_pos c20, nI_clamp (show m < 2 ^ 31 by omega)]; done))
      · refine v_iload_n dX11_fact_23 rfl ?_
        refine v_iconst (4) dX11_fact_24 (by decide) ?_
        refine v_icmp_le 30 dX11_fact_25 (by decide) (fun c25 => ?_) (fun c25 => ?_)
        · obtain ⟨m, hm8, rfl⟩ := rng04 c20 c25
          refine v_aload dX11_fact_30 rfl ?_
          refine v_iload_n dX11_fact_32 rfl ?_
          refine v_iload_n dX11_fact_33 rfl ?_
          refine v_invVE (m_tell g h i.ps a2lt hm8) dX11_fact_34 cwX3_tell mlX11_175 (ob_9 _) rfl rfl (by decide) (by decide) (Nat.le_of_ble_eq_true rfl) ?_
          refine v_ireturn dX11_fact_37 rfl rfl ?_
          first | (subst c9; refine ⟨?_, ?_⟩ <;> (simp only [xFact, ho]; done)) | (refine ⟨?_, ?_⟩ <;> (simp only [xFact, ho, if_neg c16, if_neg c20, if_pos c25]; done)) | (refine ⟨?_, ?_⟩ <;> (simp only [xFact, ho, if_neg c16, if_neg c20, if_pos c25, nI_clamp (show m < 2 ^ 31 by omega)]; done))
        · refine v_iconst (-1) dX11_fact_28 (by decide) ?_
          refine v_ireturn dX11_fact_29 rfl rfl ?_
          first | (subst c9; refine ⟨?_, ?_⟩ <;> (simp only [xFact, ho]; done)) | (refine ⟨?_, ?_⟩ <;> (simp only [xFact, ho, if_neg c16, if_neg c20, if_neg c25]; done)) | (refine ⟨?_, ?_⟩ <;> (simp only [xFact, ho, if_neg c16, if_neg c20, if_neg c25, nI_clamp (show m < 2 ^ 31 by omega)]; done))
def xClause (h : Hp) (w n d : Int32) : Int32 × Hp := if xWb h w = 0 then (-1, h) else if n < 1 then (-1, h) else if 12 < n then (-1, h) else if xDy d = 0 then (-1, h) else (match xCl (xSet h w d) n.toNatClampNeg with | none => -2 | some a => vi h a 0, xSet h w d)
def xClauses (h : Hp) (w d : Int32) : Int32 × Hp := if xWb h w = 0 then (-1, h) else if xDy d = 0 then (-1, h) else (xHow (xSet h w d), xSet h w d)
def xMay (h : Hp) (p w d : Int32) : Int32 × Hp := match xPer h p with
  | none => (-1, h)
  | some a => if xWb h w = 0 then (-1, h) else if xDy d = 0 then (-1, h) else (if xAdm (xSet h w d) a.2 d = 0 then 0 else 1, xSet h w d)
def xBars (h : Hp) (p w d : Int32) : Int32 × Hp := match xPer h p with
  | none => (-1, h)
  | some a => if xWb h w = 0 then (-1, h) else if xDy d = 0 then (-1, h) else (xBar (xSet h w d) a.2 d, xSet h w d)
def xOrder (h : Hp) (p w d : Int32) : Int32 × Hp := match xPer h p with
  | none => (-1, h)
  | some a => if xWb h w = 0 then (-1, h) else if xDy d = 0 then (-1, h) else (xRank (xSet h w d) a.2 d, xSet h w d)
set_option maxRecDepth 20000 in
theorem m_clause (g : G0) (h : Hp) (i : XI h) {w n d : Int32} : Mx g yX11_clause wX11_clause 8 [pR (0, 0), pI w, pI n, pI d] h 0 0 (qE (some (pI (xClause h w n d).1)) (xClause h w n d).2) noX := by
  have hS := i.1
  refine Mx.by kfX11_clause rfl (by decide) (Nat.le_of_ble_eq_true rfl) ?_
  refine v_aload_n dX11_clause_0 rfl ?_
  refine v_iload_n dX11_clause_1 rfl ?_
  refine v_invVE (m_isWill g h hS) dX11_clause_2 cwX11_isWill mlX11_88 (ob_0 _) rfl rfl (by decide) (by decide) (Nat.le_of_ble_eq_true rfl) ?_
  refine v_if_eq 26 dX11_clause_5 (by decide) (fun c5 => ?_) (fun c5 => ?_)
  · refine v_iconst (-1) dX11_clause_26 (by decide) ?_
    refine v_ireturn dX11_clause_27 rfl rfl ?_
    first | (subst c53; refine ⟨?_, ?_⟩ <;> (simp only [xClause, if_pos c5, ncl, ho]; done)) | (refine ⟨?_, ?_⟩ <;> (simp only [xClause, if_pos c5]; done)) | (refine ⟨?_, ?_⟩ <;> (simp only [xClause, if_pos c5, ncl, ho]; first | done | rfl))
  · refine v_iload_n dX11_clause_8 rfl ?_
    refine v_iconst (1) dX11_clause_9 (by decide) ?_
    refine v_icmp_lt 26 dX11_clause_10 (by decide) (fun c10 => ?_) (fun c10 => ?_)
    · refine v_iconst (-1) dX11_clause_26 (by decide) ?_
      refine v_ireturn dX11_clause_27 rfl rfl ?_
      first | (subst c53; refine ⟨?_, ?_⟩ <;> (simp only [xClause, if_neg c5, if_pos c10, ncl, ho]; done)) | (refine ⟨?_, ?_⟩ <;> (simp only [xClause, if_neg c5, if_pos c10]; done)) | (refine ⟨?_, ?_⟩ <;> (simp only [xClause, if_neg c5, if_pos c10, ncl, ho]; first | done | rfl))
    · refine v_iload_n dX11_clause_13 rfl ?_
      refine v_bipush (12) dX11_clause_14 (by decide) ?_
      refine v_icmp_gt 26 dX11_clause_16 (by decide) (fun c16 => ?_) (fun c16 => ?_)
      · refine v_iconst (-1) dX11_clause_26 (by decide) ?_
        refine v_ireturn dX11_clause_27 rfl rfl ?_
        first | (subst c53; refine ⟨?_, ?_⟩ <;> (simp only [xClause, if_neg c5, if_neg c10, if_pos c16, ncl, ho]; done)) | (refine ⟨?_, ?_⟩ <;> (simp only [xClause, if_neg c5, if_neg c10, if_pos c16]; done)) | (refine ⟨?_, ?_⟩ <;> (simp only [xClause, if_neg c5, if_neg c10, if_pos c16, ncl, ho]; first | done | rfl))
      · refine v_iload_n dX11_clause_19 rfl ?_
        refine v_invSE (m_isDay g h) dX11_clause_20 cwX11_isDay mlX11_92 rfl rfl (by decide) (by decide) (Nat.le_of_ble_eq_true rfl) ?_
        refine v_if_ne 28 dX11_clause_23 (by decide) (fun c23 => ?_) (fun c23 => ?_)
        · have i2 := XIset i w d
          have hS2 := i2.1
          obtain ⟨m, hm1, hm12, rfl⟩ := rng112 c10 c16
          obtain ⟨o, ho⟩ : ∃ o, xCl (xSet h w d) m = o := ⟨_, rfl⟩
          have ccl := m_clauseAt g _ hS2 (laX h w d) hm1 hm12
          rw [ho] at ccl
          have ncl : (nI m).toNatClampNeg = m := nI_clamp (by omega)
          refine v_aload_n dX11_clause_28 rfl ?_
          refine v_getR (some (4, 0)) fl_X11_37 dX11_clause_29 rfl rfl (Nat.le_of_ble_eq_true rfl) (xh_0_0 hS) (xr_0_0_3 hS) ?_
          refine v_aload_n dX11_clause_32 rfl ?_
          refine v_getR (some (7, 0)) fl_X11_30 dX11_clause_33 rfl rfl (Nat.le_of_ble_eq_true rfl) (xh_0_0 hS) (xr_0_0_2 hS) ?_
          refine v_iload_n dX11_clause_36 rfl ?_
          refine v_iload_n dX11_clause_37 rfl ?_
          refine v_invVE (m_setl g h i) dX11_clause_38 cwX6_settle mlX11_117 (ob_4 _) rfl rfl (by decide) (by decide) (Nat.le_of_ble_eq_true rfl) ?_
          refine v_aload_n dX11_clause_41 rfl ?_
          refine v_getR (some (4, 0)) fl_X11_37 dX11_clause_42 rfl rfl (Nat.le_of_ble_eq_true rfl) (xh_0_0 hS2) (xr_0_0_3 hS2) ?_
          refine v_iload_n dX11_clause_45 rfl ?_
          refine v_invVE (ccl) dX11_clause_46 cwX6_clauseAt mlX11_121 (ob_4 _) rfl rfl (by decide) (by decide) (Nat.le_of_ble_eq_true rfl) ?_
          refine v_astore dX11_clause_49 (by decide) ?_
          refine v_aload dX11_clause_51 rfl ?_
          refine v_ifnonnull 61 dX11_clause_53 (by decide) (fun c53 => ?_) (fun a53 c53 => ?_)
          · refine v_bipush (-2) dX11_clause_56 (by decide) ?_
            refine v_goto 66 dX11_clause_58 (by decide) ?_
            refine v_ireturn dX11_clause_66 rfl rfl ?_
            first | (subst c53; refine ⟨?_, ?_⟩ <;> (simp only [xClause, if_neg c5, if_neg c10, if_neg c16, if_neg c23, ncl, ho]; done)) | (refine ⟨?_, ?_⟩ <;> (simp only [xClause, if_neg c5, if_neg c10, if_neg c16, if_neg c23]; done)) | (refine ⟨?_, ?_⟩ <;> (simp only [xClause, if_neg c5, if_neg c10, if_neg c16, if_neg c23, ncl, ho]; first | done | rfl))
          · subst c53
            obtain ⟨a1, a2⟩ := a53
            obtain ⟨e1, a2lt⟩ := xCl_ok (laX h w d) (by omega) ho
            obtain rfl : a1 = 8 := e1
            refine v_aload dX11_clause_61 rfl ?_
            refine v_getI fl_X11_125 dX11_clause_63 rfl rfl (Nat.le_of_ble_eq_true rfl) a2lt ?_
            refine v_ireturn dX11_clause_66 rfl rfl ?_
            first | (subst c53; refine ⟨?_, ?_⟩ <;> (simp only [xClause, if_neg c5, if_neg c10, if_neg c16, if_neg c23, ncl, ho]; done)) | (refine ⟨?_, ?_⟩ <;> (simp only [xClause, if_neg c5, if_neg c10, if_neg c16, if_neg c23]; done)) | (refine ⟨?_, ?_⟩ <;> (simp only [xClause, if_neg c5, if_neg c10, if_neg c16, if_neg c23, ncl, ho]; first | done | rfl))
        · refine v_iconst (-1) dX11_clause_26 (by decide) ?_
          refine v_ireturn dX11_clause_27 rfl rfl ?_
          first | (subst c53; refine ⟨?_, ?_⟩ <;> (simp only [xClause, if_neg c5, if_neg c10, if_neg c16, if_pos c23, ncl, ho]; done)) | (refine ⟨?_, ?_⟩ <;> (simp only [xClause, if_neg c5, if_neg c10, if_neg c16, if_pos c23]; done)) | (refine ⟨?_, ?_⟩ <;> (simp only [xClause, if_neg c5, if_neg c10, if_neg c16, if_pos c23, ncl, ho]; first | done | rfl))
set_option maxRecDepth 20000 in
theorem m_clauses (g : G0) (h : Hp) (i : XI h) {w d : Int32} : Mx g yX11_clauses wX11_clauses 8 [pR (0, 0), pI w, pI d] h 0 0 (qE (some (pI (xClauses h w d).1)) (xClauses h w d).2) noX := by
  have hS := i.1
  refine Mx.by kfX11_clauses rfl (by decide) (Nat.le_of_ble_eq_true rfl) ?_
  refine v_aload_n dX11_clauses_0 rfl ?_
  refine v_iload_n dX11_clauses_1 rfl ?_
  refine v_invVE (m_isWill g h hS) dX11_clauses_2 cwX11_isWill mlX11_88 (ob_0 _) rfl rfl (by decide) (by decide) (Nat.le_of_ble_eq_true rfl) ?_
  refine v_if_eq 15 dX11_clauses_5 (by decide) (fun c5 => ?_) (fun c5 => ?_)
  · refine v_iconst (-1) dX11_clauses_15 (by decide) ?_
    refine v_ireturn dX11_clauses_16 rfl rfl ?_
    exact ⟨by simp only [xClauses, if_pos c5], by simp only [xClauses, if_pos c5]⟩
  · refine v_iload_n dX11_clauses_8 rfl ?_
    refine v_invSE (m_isDay g h) dX11_clauses_9 cwX11_isDay mlX11_92 rfl rfl (by decide) (by decide) (Nat.le_of_ble_eq_true rfl) ?_
    refine v_if_ne 17 dX11_clauses_12 (by decide) (fun c12 => ?_) (fun c12 => ?_)
    · have i2 := XIset i w d
      have hS2 := i2.1
      refine v_aload_n dX11_clauses_17 rfl ?_
      refine v_getR (some (4, 0)) fl_X11_37 dX11_clauses_18 rfl rfl (Nat.le_of_ble_eq_true rfl) (xh_0_0 hS) (xr_0_0_3 hS) ?_
      refine v_aload_n dX11_clauses_21 rfl ?_
      refine v_getR (some (7, 0)) fl_X11_30 dX11_clauses_22 rfl rfl (Nat.le_of_ble_eq_true rfl) (xh_0_0 hS) (xr_0_0_2 hS) ?_
      refine v_iload_n dX11_clauses_25 rfl ?_
      refine v_iload_n dX11_clauses_26 rfl ?_
      refine v_invVE (m_setl g h i) dX11_clauses_27 cwX6_settle mlX11_117 (ob_4 _) rfl rfl (by decide) (by decide) (Nat.le_of_ble_eq_true rfl) ?_
      refine v_aload_n dX11_clauses_30 rfl ?_
      refine v_getR (some (4, 0)) fl_X11_37 dX11_clauses_31 rfl rfl (Nat.le_of_ble_eq_true rfl) (xh_0_0 hS2) (xr_0_0_3 hS2) ?_
      refine v_invVE (m_howMany g _ hS2 (laX h w d)) dX11_clauses_34 cwX6_howMany mlX11_130 (ob_4 _) rfl rfl (by decide) (by decide) (Nat.le_of_ble_eq_true rfl) ?_
      refine v_ireturn dX11_clauses_37 rfl rfl ?_
      exact ⟨by simp only [xClauses, if_neg c5, if_neg c12], by simp only [xClauses, if_neg c5, if_neg c12]⟩
    · refine v_iconst (-1) dX11_clauses_15 (by decide) ?_
      refine v_ireturn dX11_clauses_16 rfl rfl ?_
      exact ⟨by simp only [xClauses, if_neg c5, if_pos c12], by simp only [xClauses, if_neg c5, if_pos c12]⟩
set_option maxRecDepth 20000 in
theorem m_may (g : G0) (h : Hp) (i : XI h) {p w d : Int32} : Mx g yX11_may wX11_may 8 [pR (0, 0), pI p, pI w, pI d] h 0 0 (qE (some (pI (xMay h p w d).1)) (xMay h p w d).2) noX := by
  have hS := i.1
  obtain ⟨o, ho⟩ : ∃ o, xPer h p = o := ⟨_, rfl⟩
  have ce := m_personAt g h i (p := p)
  rw [ho] at ce
  refine Mx.by kfX11_may rfl (by decide) (Nat.le_of_ble_eq_true rfl) ?_
  refine v_aload_n dX11_may_0 rfl ?_
  refine v_iload_n dX11_may_1 rfl ?_
  refine v_invVE (ce) dX11_may_2 cwX11_personAt mlX11_150 (ob_0 _) rfl rfl (by decide) (by decide) (Nat.le_of_ble_eq_true rfl) ?_
  refine v_astore dX11_may_5 (by decide) ?_
  refine v_aload dX11_may_7 rfl ?_
  refine v_ifnull 27 dX11_may_9 (by decide) (fun c9 => ?_) (fun a9 c9 => ?_)
  · refine v_iconst (-1) dX11_may_27 (by decide) ?_
    refine v_ireturn dX11_may_28 rfl rfl ?_
    first | (subst c9; refine ⟨?_, ?_⟩ <;> (simp only [xMay, ho]; done)) | (refine ⟨?_, ?_⟩ <;> (simp only [xMay, ho]; done))
  · subst c9
    obtain ⟨a1, a2⟩ := a9
    obtain ⟨e1, a2lt, e3⟩ := xPer_ok i ho
    obtain rfl : a1 = 9 := e1
    refine v_aload_n dX11_may_12 rfl ?_
    refine v_iload_n dX11_may_13 rfl ?_
    refine v_invVE (m_isWill g h hS) dX11_may_14 cwX11_isWill mlX11_88 (ob_0 _) rfl rfl (by decide) (by decide) (Nat.le_of_ble_eq_true rfl) ?_
    refine v_if_eq 27 dX11_may_17 (by decide) (fun c17 => ?_) (fun c17 => ?_)
    · refine v_iconst (-1) dX11_may_27 (by decide) ?_
      refine v_ireturn dX11_may_28 rfl rfl ?_
      first | (subst c9; refine ⟨?_, ?_⟩ <;> (simp only [xMay, ho]; done)) | (refine ⟨?_, ?_⟩ <;> (simp only [xMay, ho, if_pos c17]; done))
    · refine v_iload_n dX11_may_20 rfl ?_
      refine v_invSE (m_isDay g h) dX11_may_21 cwX11_isDay mlX11_92 rfl rfl (by decide) (by decide) (Nat.le_of_ble_eq_true rfl) ?_
      refine v_if_ne 29 dX11_may_24 (by decide) (fun c24 => ?_) (fun c24 => ?_)
      · have i2 := XIset i w d
        have hS2 := i2.1
        refine v_aload_n dX11_may_29 rfl ?_
        refine v_getR (some (4, 0)) fl_X11_37 dX11_may_30 rfl rfl (Nat.le_of_ble_eq_true rfl) (xh_0_0 hS) (xr_0_0_3 hS) ?_
        refine v_aload_n dX11_may_33 rfl ?_
        refine v_getR (some (7, 0)) fl_X11_30 dX11_may_34 rfl rfl (Nat.le_of_ble_eq_true rfl) (xh_0_0 hS) (xr_0_0_2 hS) ?_
        refine v_iload_n dX11_may_37 rfl ?_
        refine v_iload_n dX11_may_38 rfl ?_
        refine v_invVE (m_setl g h i) dX11_may_39 cwX6_settle mlX11_117 (ob_4 _) rfl rfl (by decide) (by decide) (Nat.le_of_ble_eq_true rfl) ?_
        refine v_aload_n dX11_may_42 rfl ?_
        refine v_getR (some (4, 0)) fl_X11_37 dX11_may_43 rfl rfl (Nat.le_of_ble_eq_true rfl) (xh_0_0 hS2) (xr_0_0_3 hS2) ?_
        refine v_aload dX11_may_46 rfl ?_
        refine v_iload_n dX11_may_48 rfl ?_
        refine v_invVE (m_admits g _ hS2 (laX h w d) i2.ps i2.cs a2lt) dX11_may_49 cwX6_admits mlX11_179 (ob_4 _) rfl rfl (by decide) (by decide) (Nat.le_of_ble_eq_true rfl) ?_
        refine v_if_eq 59 dX11_may_52 (by decide) (fun c52 => ?_) (fun c52 => ?_)
        · refine v_iconst (0) dX11_may_59 (by decide) ?_
          refine v_ireturn dX11_may_60 rfl rfl ?_
          first | (subst c9; refine ⟨?_, ?_⟩ <;> (simp only [xMay, ho]; done)) | (refine ⟨?_, ?_⟩ <;> (simp only [xMay, ho, if_neg c17, if_neg c24, if_pos c52]; done))
        · refine v_iconst (1) dX11_may_55 (by decide) ?_
          refine v_goto 60 dX11_may_56 (by decide) ?_
          refine v_ireturn dX11_may_60 rfl rfl ?_
          first | (subst c9; refine ⟨?_, ?_⟩ <;> (simp only [xMay, ho]; done)) | (refine ⟨?_, ?_⟩ <;> (simp only [xMay, ho, if_neg c17, if_neg c24, if_neg c52]; done))
      · refine v_iconst (-1) dX11_may_27 (by decide) ?_
        refine v_ireturn dX11_may_28 rfl rfl ?_
        first | (subst c9; refine ⟨?_, ?_⟩ <;> (simp only [xMay, ho]; done)) | (refine ⟨?_, ?_⟩ <;> (simp only [xMay, ho, if_neg c17, if_pos c24]; done))
set_option maxRecDepth 20000 in
theorem m_bars (g : G0) (h : Hp) (i : XI h) {p w d : Int32} : Mx g yX11_bars wX11_bars 8 [pR (0, 0), pI p, pI w, pI d] h 0 0 (qE (some (pI (xBars h p w d).1)) (xBars h p w d).2) noX := by
  have hS := i.1
  obtain ⟨o, ho⟩ : ∃ o, xPer h p = o := ⟨_, rfl⟩
  have ce := m_personAt g h i (p := p)
  rw [ho] at ce
  refine Mx.by kfX11_bars rfl (by decide) (Nat.le_of_ble_eq_true rfl) ?_
  refine v_aload_n dX11_bars_0 rfl ?_
  refine v_iload_n dX11_bars_1 rfl ?_
  refine v_invVE (ce) dX11_bars_2 cwX11_personAt mlX11_150 (ob_0 _) rfl rfl (by decide) (by decide) (Nat.le_of_ble_eq_true rfl) ?_
  refine v_astore dX11_bars_5 (by decide) ?_
  refine v_aload dX11_bars_7 rfl ?_
  refine v_ifnull 27 dX11_bars_9 (by decide) (fun c9 => ?_) (fun a9 c9 => ?_)
  · refine v_iconst (-1) dX11_bars_27 (by decide) ?_
    refine v_ireturn dX11_bars_28 rfl rfl ?_
    first | (subst c9; refine ⟨?_, ?_⟩ <;> (simp only [xBars, ho]; done)) | (refine ⟨?_, ?_⟩ <;> (simp only [xBars, ho]; done))
  · subst c9
    obtain ⟨a1, a2⟩ := a9
    obtain ⟨e1, a2lt, e3⟩ := xPer_ok i ho
    obtain rfl : a1 = 9 := e1
    refine v_aload_n dX11_bars_12 rfl ?_
    refine v_iload_n dX11_bars_13 rfl ?_
    refine v_invVE (m_isWill g h hS) dX11_bars_14 cwX11_isWill mlX11_88 (ob_0 _) rfl rfl (by decide) (by decide) (Nat.le_of_ble_eq_true rfl) ?_
    refine v_if_eq 27 dX11_bars_17 (by decide) (fun c17 => ?_) (fun c17 => ?_)
    · refine v_iconst (-1) dX11_bars_27 (by decide) ?_
      refine v_ireturn dX11_bars_28 rfl rfl ?_
      first | (subst c9; refine ⟨?_, ?_⟩ <;> (simp only [xBars, ho]; done)) | (refine ⟨?_, ?_⟩ <;> (simp only [xBars, ho, if_pos c17]; done))
    · refine v_iload_n dX11_bars_20 rfl ?_
      refine v_invSE (m_isDay g h) dX11_bars_21 cwX11_isDay mlX11_92 rfl rfl (by decide) (by decide) (Nat.le_of_ble_eq_true rfl) ?_
      refine v_if_ne 29 dX11_bars_24 (by decide) (fun c24 => ?_) (fun c24 => ?_)
      · have i2 := XIset i w d
        have hS2 := i2.1
        refine v_aload_n dX11_bars_29 rfl ?_
        refine v_getR (some (4, 0)) fl_X11_37 dX11_bars_30 rfl rfl (Nat.le_of_ble_eq_true rfl) (xh_0_0 hS) (xr_0_0_3 hS) ?_
        refine v_aload_n dX11_bars_33 rfl ?_
        refine v_getR (some (7, 0)) fl_X11_30 dX11_bars_34 rfl rfl (Nat.le_of_ble_eq_true rfl) (xh_0_0 hS) (xr_0_0_2 hS) ?_
        refine v_iload_n dX11_bars_37 rfl ?_
        refine v_iload_n dX11_bars_38 rfl ?_
        refine v_invVE (m_setl g h i) dX11_bars_39 cwX6_settle mlX11_117 (ob_4 _) rfl rfl (by decide) (by decide) (Nat.le_of_ble_eq_true rfl) ?_
        refine v_aload_n dX11_bars_42 rfl ?_
        refine v_getR (some (4, 0)) fl_X11_37 dX11_bars_43 rfl rfl (Nat.le_of_ble_eq_true rfl) (xh_0_0 hS2) (xr_0_0_3 hS2) ?_
        refine v_aload dX11_bars_46 rfl ?_
        refine v_iload_n dX11_bars_48 rfl ?_
        refine v_invVE (m_firstBar g _ hS2 (laX h w d) i2.ps i2.cs a2lt) dX11_bars_49 cwX6_firstBar mlX11_183 (ob_4 _) rfl rfl (by decide) (by decide) (Nat.le_of_ble_eq_true rfl) ?_
        refine v_ireturn dX11_bars_52 rfl rfl ?_
        first | (subst c9; refine ⟨?_, ?_⟩ <;> (simp only [xBars, ho]; done)) | (refine ⟨?_, ?_⟩ <;> (simp only [xBars, ho, if_neg c17, if_neg c24]; done))
      · refine v_iconst (-1) dX11_bars_27 (by decide) ?_
        refine v_ireturn dX11_bars_28 rfl rfl ?_
        first | (subst c9; refine ⟨?_, ?_⟩ <;> (simp only [xBars, ho]; done)) | (refine ⟨?_, ?_⟩ <;> (simp only [xBars, ho, if_neg c17, if_pos c24]; done))
set_option maxRecDepth 20000 in
theorem m_order (g : G0) (h : Hp) (i : XI h) {p w d : Int32} : Mx g yX11_order wX11_order 8 [pR (0, 0), pI p, pI w, pI d] h 0 0 (qE (some (pI (xOrder h p w d).1)) (xOrder h p w d).2) noX := by
  have hS := i.1
  obtain ⟨o, ho⟩ : ∃ o, xPer h p = o := ⟨_, rfl⟩
  have ce := m_personAt g h i (p := p)
  rw [ho] at ce
  refine Mx.by kfX11_order rfl (by decide) (Nat.le_of_ble_eq_true rfl) ?_
  refine v_aload_n dX11_order_0 rfl ?_
  refine v_iload_n dX11_order_1 rfl ?_
  refine v_invVE (ce) dX11_order_2 cwX11_personAt mlX11_150 (ob_0 _) rfl rfl (by decide) (by decide) (Nat.le_of_ble_eq_true rfl) ?_
  refine v_astore dX11_order_5 (by decide) ?_
  refine v_aload dX11_order_7 rfl ?_
  refine v_ifnull 27 dX11_order_9 (by decide) (fun c9 => ?_) (fun a9 c9 => ?_)
  · refine v_iconst (-1) dX11_order_27 (by decide) ?_
    refine v_ireturn dX11_order_28 rfl rfl ?_
    first | (subst c9; refine ⟨?_, ?_⟩ <;> (simp only [xOrder, ho]; done)) | (refine ⟨?_, ?_⟩ <;> (simp only [xOrder, ho]; done))
  · subst c9
    obtain ⟨a1, a2⟩ := a9
    obtain ⟨e1, a2lt, e3⟩ := xPer_ok i ho
    obtain rfl : a1 = 9 := e1
    refine v_aload_n dX11_order_12 rfl ?_
    refine v_iload_n dX11_order_13 rfl ?_
    refine v_invVE (m_isWill g h hS) dX11_order_14 cwX11_isWill mlX11_88 (ob_0 _) rfl rfl (by decide) (by decide) (Nat.le_of_ble_eq_true rfl) ?_
    refine v_if_eq 27 dX11_order_17 (by decide) (fun c17 => ?_) (fun c17 => ?_)
    · refine v_iconst (-1) dX11_order_27 (by decide) ?_
      refine v_ireturn dX11_order_28 rfl rfl ?_
      first | (subst c9; refine ⟨?_, ?_⟩ <;> (simp only [xOrder, ho]; done)) | (refine ⟨?_, ?_⟩ <;> (simp only [xOrder, ho, if_pos c17]; done))
    · refine v_iload_n dX11_order_20 rfl ?_
      refine v_invSE (m_isDay g h) dX11_order_21 cwX11_isDay mlX11_92 rfl rfl (by decide) (by decide) (Nat.le_of_ble_eq_true rfl) ?_
      refine v_if_ne 29 dX11_order_24 (by decide) (fun c24 => ?_) (fun c24 => ?_)
      · have i2 := XIset i w d
        have hS2 := i2.1
        refine v_aload_n dX11_order_29 rfl ?_
        refine v_getR (some (4, 0)) fl_X11_37 dX11_order_30 rfl rfl (Nat.le_of_ble_eq_true rfl) (xh_0_0 hS) (xr_0_0_3 hS) ?_
        refine v_aload_n dX11_order_33 rfl ?_
        refine v_getR (some (7, 0)) fl_X11_30 dX11_order_34 rfl rfl (Nat.le_of_ble_eq_true rfl) (xh_0_0 hS) (xr_0_0_2 hS) ?_
        refine v_iload_n dX11_order_37 rfl ?_
        refine v_iload_n dX11_order_38 rfl ?_
        refine v_invVE (m_setl g h i) dX11_order_39 cwX6_settle mlX11_117 (ob_4 _) rfl rfl (by decide) (by decide) (Nat.le_of_ble_eq_true rfl) ?_
        refine v_aload_n dX11_order_42 rfl ?_
        refine v_getR (some (4, 0)) fl_X11_37 dX11_order_43 rfl rfl (Nat.le_of_ble_eq_true rfl) (xh_0_0 hS2) (xr_0_0_3 hS2) ?_
        refine v_aload dX11_order_46 rfl ?_
        refine v_iload_n dX11_order_48 rfl ?_
        refine v_invVE (m_rank g _ hS2 (laX h w d) i2.ps i2.cs a2lt) dX11_order_49 cwX6_rank mlX11_187 (ob_4 _) rfl rfl (by decide) (by decide) (Nat.le_of_ble_eq_true rfl) ?_
        refine v_ireturn dX11_order_52 rfl rfl ?_
        first | (subst c9; refine ⟨?_, ?_⟩ <;> (simp only [xOrder, ho]; done)) | (refine ⟨?_, ?_⟩ <;> (simp only [xOrder, ho, if_neg c17, if_neg c24]; done))
      · refine v_iconst (-1) dX11_order_27 (by decide) ?_
        refine v_ireturn dX11_order_28 rfl rfl ?_
        first | (subst c9; refine ⟨?_, ?_⟩ <;> (simp only [xOrder, ho]; done)) | (refine ⟨?_, ?_⟩ <;> (simp only [xOrder, ho, if_neg c17, if_pos c24]; done))
def xLs (h : Hp) (d : Int32) : Nat → Nat → Int32 → Int32
  | 0, _, s => s
  | j + 1, k, s => xLs h d j (k + 1) (if xAdm h k d = 0 then s else s + 1)
def xList (h : Hp) (w d : Int32) : Int32 × Hp := if xWb h w = 0 then (-1, h) else if xDy d = 0 then (-1, h) else (xLs (xSet h w d) d (cn h 9) 0 0, xSet h w d)
set_option maxRecDepth 20000 in
theorem list_loop (g : G0) (h : Hp) (i : XI h) (hf : LaH h) {d : Int32} : ∀ (j k : Nat) (s x : Int32), k + j = cn h 9 → x = nI k → V g kfX11_list 8 0 0 35 [(0, pR (0, 0)), (2, pI d), (3, pI s), (4, pI x)] [] h (qE (some (pI (xLs h d j k s))) h) (fun _ _ a h' => noX a h') := by
  have hS := i.1
  have le := i.le
  intro j
  induction j with
  | zero =>
    intro k s x hij hx
    subst hx
    refine v_iload dX11_list_35 rfl ?_
    refine v_aload_n dX11_list_37 rfl ?_
    refine v_getR (some (7, 1)) fl_X11_41 dX11_list_38 rfl rfl (Nat.le_of_ble_eq_true rfl) (xh_0_0 hS) (xr_0_0_4 hS) ?_
    refine v_invVE (m_size g h (xh_7_1 hS)) dX11_list_41 cwJx4a65c_size_8abf5 mlX11_138 (ob_7 _) rfl rfl (by decide) (by decide) (Nat.le_of_ble_eq_true rfl) ?_
    rw [i.a1.1]
    refine v_icmp_ge 79 dX11_list_44 (by decide) (fun _ => ?_) (fun z => absurd (nI_le (by omega) (by omega)) z)
    refine v_iload_n dX11_list_79 rfl ?_
    refine v_ireturn dX11_list_80 rfl rfl ?_
    exact ⟨rfl, rfl⟩
  | succ j ih =>
    intro k s x hij hx
    subst hx
    have hk : k < cn h 9 := by omega
    refine v_iload dX11_list_35 rfl ?_
    refine v_aload_n dX11_list_37 rfl ?_
    refine v_getR (some (7, 1)) fl_X11_41 dX11_list_38 rfl rfl (Nat.le_of_ble_eq_true rfl) (xh_0_0 hS) (xr_0_0_4 hS) ?_
    refine v_invVE (m_size g h (xh_7_1 hS)) dX11_list_41 cwJx4a65c_size_8abf5 mlX11_138 (ob_7 _) rfl rfl (by decide) (by decide) (Nat.le_of_ble_eq_true rfl) ?_
    rw [i.a1.1]
    refine v_icmp_ge 79 dX11_list_44 (by decide) (fun z => absurd z (nI_ge (by omega) (by omega))) (fun _ => ?_)
    refine v_aload_n dX11_list_47 rfl ?_
    refine v_getR (some (4, 0)) fl_X11_37 dX11_list_48 rfl rfl (Nat.le_of_ble_eq_true rfl) (xh_0_0 hS) (xr_0_0_3 hS) ?_
    refine v_aload_n dX11_list_51 rfl ?_
    refine v_getR (some (7, 1)) fl_X11_41 dX11_list_52 rfl rfl (Nat.le_of_ble_eq_true rfl) (xh_0_0 hS) (xr_0_0_4 hS) ?_
    refine v_iload dX11_list_55 rfl ?_
    refine v_invVE (m_get g h (xh_7_1 hS) i.a1 hk) dX11_list_57 cwJx4a65c_get_915e3 mlX11_190 (ob_7 _) rfl rfl (by decide) (by decide) (Nat.le_of_ble_eq_true rfl) ?_
    refine v_cast dX11_list_60 clX11_141 (fun a z => by cases z; exact ⟨Nat.le_of_ble_eq_true rfl, _, _, rfl, rfl, rfl⟩) ?_
    refine v_iload_n dX11_list_63 rfl ?_
    refine v_invVE (m_admits g h hS hf i.ps i.cs hk) dX11_list_64 cwX6_admits mlX11_179 (ob_4 _) rfl rfl (by decide) (by decide) (Nat.le_of_ble_eq_true rfl) ?_
    refine v_if_eq 73 dX11_list_67 (by decide) (fun c67 => ?_) (fun c67 => ?_)
    · refine v_iinc _ dX11_list_73 rfl rfl (by decide) ?_
      refine v_goto 35 dX11_list_76 (by decide) ?_
      rw [xLs, if_pos c67]
      first
      | (refine v_loc [(0, pR (0, 0)), (2, pI d), (3, pI s), (4, pI (nI k + 1))] rfl ?_; exact ih (k + 1) _ _ (by omega) (nI_1 k))
      | (refine v_loc [(0, pR (0, 0)), (2, pI d), (3, pI (s + 1)), (4, pI (nI k + 1))] rfl ?_; exact ih (k + 1) _ _ (by omega) (nI_1 k))
    · refine v_iinc _ dX11_list_70 rfl rfl (by decide) ?_
      refine v_iinc _ dX11_list_73 rfl rfl (by decide) ?_
      refine v_goto 35 dX11_list_76 (by decide) ?_
      rw [xLs, if_neg c67]
      first
      | (refine v_loc [(0, pR (0, 0)), (2, pI d), (3, pI s), (4, pI (nI k + 1))] rfl ?_; exact ih (k + 1) _ _ (by omega) (nI_1 k))
      | (refine v_loc [(0, pR (0, 0)), (2, pI d), (3, pI (s + 1)), (4, pI (nI k + 1))] rfl ?_; exact ih (k + 1) _ _ (by omega) (nI_1 k))
set_option maxRecDepth 20000 in
theorem m_list (g : G0) (h : Hp) (i : XI h) {w d : Int32} : Mx g yX11_list wX11_list 8 [pR (0, 0), pI w, pI d] h 0 0 (qE (some (pI (xList h w d).1)) (xList h w d).2) noX := by
  have hS := i.1
  refine Mx.by kfX11_list rfl (by decide) (Nat.le_of_ble_eq_true rfl) ?_
  refine v_aload_n dX11_list_0 rfl ?_
  refine v_iload_n dX11_list_1 rfl ?_
  refine v_invVE (m_isWill g h hS) dX11_list_2 cwX11_isWill mlX11_88 (ob_0 _) rfl rfl (by decide) (by decide) (Nat.le_of_ble_eq_true rfl) ?_
  refine v_if_eq 15 dX11_list_5 (by decide) (fun c5 => ?_) (fun c5 => ?_)
  · refine v_iconst (-1) dX11_list_15 (by decide) ?_
    refine v_ireturn dX11_list_16 rfl rfl ?_
    exact ⟨by simp only [xList, if_pos c5], by simp only [xList, if_pos c5]⟩
  · refine v_iload_n dX11_list_8 rfl ?_
    refine v_invSE (m_isDay g h) dX11_list_9 cwX11_isDay mlX11_92 rfl rfl (by decide) (by decide) (Nat.le_of_ble_eq_true rfl) ?_
    refine v_if_ne 17 dX11_list_12 (by decide) (fun c12 => ?_) (fun c12 => ?_)
    · refine v_aload_n dX11_list_17 rfl ?_
      refine v_getR (some (4, 0)) fl_X11_37 dX11_list_18 rfl rfl (Nat.le_of_ble_eq_true rfl) (xh_0_0 hS) (xr_0_0_3 hS) ?_
      refine v_aload_n dX11_list_21 rfl ?_
      refine v_getR (some (7, 0)) fl_X11_30 dX11_list_22 rfl rfl (Nat.le_of_ble_eq_true rfl) (xh_0_0 hS) (xr_0_0_2 hS) ?_
      refine v_iload_n dX11_list_25 rfl ?_
      refine v_iload_n dX11_list_26 rfl ?_
      refine v_invVE (m_setl g h i) dX11_list_27 cwX6_settle mlX11_117 (ob_4 _) rfl rfl (by decide) (by decide) (Nat.le_of_ble_eq_true rfl) ?_
      refine v_iconst (0) dX11_list_30 (by decide) ?_
      refine v_istore_n dX11_list_31 (by decide) ?_
      refine v_iconst (0) dX11_list_32 (by decide) ?_
      refine v_istore dX11_list_33 (by decide) ?_
      have K := list_loop g _ (XIset i w d) (laX h w d) (d := d) (cn h 9) 0 0 0 (by show _ = cn h 9; omega) rfl
      refine v_loc [(0, pR (0, 0)), (2, pI d), (3, pI 0), (4, pI 0)] rfl ?_
      have e : xList h w d = (xLs (xSet h w d) d (cn h 9) 0 0, xSet h w d) := by simp only [xList, if_neg c5, if_neg c12]
      rw [e]
      exact K
    · refine v_iconst (-1) dX11_list_15 (by decide) ?_
      refine v_ireturn dX11_list_16 rfl rfl ?_
      exact ⟨by simp only [xList, if_neg c5, if_pos c12], by simp only [xList, if_neg c5, if_pos c12]⟩
def xCh (h : Hp) (d : Int32) : Nat → Nat → Int32 → Int32 → Int32
  | 0, _, c, _ => c
  | j + 1, k, c, b => if vi h (9, k) 8 = -1 then (if xAdm h k d = 0 then xCh h d j (k + 1) c b else if xRank h k d ≤ b then xCh h d j (k + 1) c b else xCh h d j (k + 1) (nI k) (xRank h k d)) else xCh h d j (k + 1) c b
def xChoose (h : Hp) (w d : Int32) : Int32 × Hp := (xCh (xSet h w d) d (cn h 9) 0 (-2) (-1), xSet h w d)
def xNext (h : Hp) (w d : Int32) : Int32 × Hp := if xWb h w = 0 then (-1, h) else if xDy d = 0 then (-1, h) else xChoose h w d
set_option maxRecDepth 20000 in
theorem choose_loop (g : G0) (h : Hp) (i : XI h) (hf : LaH h) {d : Int32} : ∀ (j k : Nat) (c b x : Int32), k + j = cn h 9 → x = nI k → V g kfX11_choose 5 0 0 22 [(0, pR (0, 0)), (2, pI d), (3, pI c), (4, pI b), (5, pI x)] [] h (qE (some (pI (xCh h d j k c b))) h) (fun _ _ a h' => noX a h') := by
  have hS := i.1
  have le := i.le
  intro j
  induction j with
  | zero =>
    intro k c b x hij hx
    subst hx
    refine v_iload dX11_choose_22 rfl ?_
    refine v_aload_n dX11_choose_24 rfl ?_
    refine v_getR (some (7, 1)) fl_X11_41 dX11_choose_25 rfl rfl (Nat.le_of_ble_eq_true rfl) (xh_0_0 hS) (xr_0_0_4 hS) ?_
    refine v_invVE (m_size g h (xh_7_1 hS)) dX11_choose_28 cwJx4a65c_size_8abf5 mlX11_138 (ob_7 _) rfl rfl (by decide) (by decide) (Nat.le_of_ble_eq_true rfl) ?_
    rw [i.a1.1]
    refine v_icmp_ge 102 dX11_choose_31 (by decide) (fun _ => ?_) (fun z => absurd (nI_le (by omega) (by omega)) z)
    refine v_iload_n dX11_choose_102 rfl ?_
    refine v_ireturn dX11_choose_103 rfl rfl ?_
    exact ⟨rfl, rfl⟩
  | succ j ih =>
    intro k c b x hij hx
    subst hx
    have hk : k < cn h 9 := by omega
    refine v_iload dX11_choose_22 rfl ?_
    refine v_aload_n dX11_choose_24 rfl ?_
    refine v_getR (some (7, 1)) fl_X11_41 dX11_choose_25 rfl rfl (Nat.le_of_ble_eq_true rfl) (xh_0_0 hS) (xr_0_0_4 hS) ?_
    refine v_invVE (m_size g h (xh_7_1 hS)) dX11_choose_28 cwJx4a65c_size_8abf5 mlX11_138 (ob_7 _) rfl rfl (by decide) (by decide) (Nat.le_of_ble_eq_true rfl) ?_
    rw [i.a1.1]
    refine v_icmp_ge 102 dX11_choose_31 (by decide) (fun z => absurd z (nI_ge (by omega) (by omega))) (fun _ => ?_)
    refine v_aload_n dX11_choose_34 rfl ?_
    refine v_getR (some (7, 1)) fl_X11_41 dX11_choose_35 rfl rfl (Nat.le_of_ble_eq_true rfl) (xh_0_0 hS) (xr_0_0_4 hS) ?_
    refine v_iload dX11_choose_38 rfl ?_
    refine v_invVE (m_get g h (xh_7_1 hS) i.a1 hk) dX11_choose_40 cwJx4a65c_get_915e3 mlX11_190 (ob_7 _) rfl rfl (by decide) (by decide) (Nat.le_of_ble_eq_true rfl) ?_
    refine v_cast dX11_choose_43 clX11_141 (fun a z => by cases z; exact ⟨Nat.le_of_ble_eq_true rfl, _, _, rfl, rfl, rfl⟩) ?_
    refine v_astore dX11_choose_46 (by decide) ?_
    refine v_aload dX11_choose_48 rfl ?_
    refine v_getI fl_X11_164 dX11_choose_50 rfl rfl (Nat.le_of_ble_eq_true rfl) hk ?_
    refine v_iconst (-1) dX11_choose_53 (by decide) ?_
    refine v_icmp_ne 96 dX11_choose_54 (by decide) (fun c54 => ?_) (fun c54 => ?_)
    · refine v_iinc _ dX11_choose_96 rfl rfl (by decide) ?_
      refine v_goto 22 dX11_choose_99 (by decide) ?_
      rw [xCh, if_neg c54]
      first
      | (refine v_loc [(0, pR (0, 0)), (2, pI d), (3, pI c), (4, pI b), (5, pI (nI k + 1))] rfl ?_; exact ih (k + 1) _ _ _ (by omega) (nI_1 k))
      | (refine v_loc [(0, pR (0, 0)), (2, pI d), (3, pI (nI k)), (4, pI (xRank h k d)), (5, pI (nI k + 1))] rfl ?_; exact ih (k + 1) _ _ _ (by omega) (nI_1 k))
    · refine v_aload_n dX11_choose_57 rfl ?_
      refine v_getR (some (4, 0)) fl_X11_37 dX11_choose_58 rfl rfl (Nat.le_of_ble_eq_true rfl) (xh_0_0 hS) (xr_0_0_3 hS) ?_
      refine v_aload dX11_choose_61 rfl ?_
      refine v_iload_n dX11_choose_63 rfl ?_
      refine v_invVE (m_admits g h hS hf i.ps i.cs hk) dX11_choose_64 cwX6_admits mlX11_179 (ob_4 _) rfl rfl (by decide) (by decide) (Nat.le_of_ble_eq_true rfl) ?_
      refine v_if_eq 96 dX11_choose_67 (by decide) (fun c67 => ?_) (fun c67 => ?_)
      · refine v_iinc _ dX11_choose_96 rfl rfl (by decide) ?_
        refine v_goto 22 dX11_choose_99 (by decide) ?_
        rw [xCh, if_pos c54, if_pos c67]
        first
        | (refine v_loc [(0, pR (0, 0)), (2, pI d), (3, pI c), (4, pI b), (5, pI (nI k + 1))] rfl ?_; exact ih (k + 1) _ _ _ (by omega) (nI_1 k))
        | (refine v_loc [(0, pR (0, 0)), (2, pI d), (3, pI (nI k)), (4, pI (xRank h k d)), (5, pI (nI k + 1))] rfl ?_; exact ih (k + 1) _ _ _ (by omega) (nI_1 k))
      · refine v_aload_n dX11_choose_70 rfl ?_
        refine v_getR (some (4, 0)) fl_X11_37 dX11_choose_71 rfl rfl (Nat.le_of_ble_eq_true rfl) (xh_0_0 hS) (xr_0_0_3 hS) ?_
        refine v_aload dX11_choose_74 rfl ?_
        refine v_iload_n dX11_choose_76 rfl ?_
        refine v_invVE (m_rank g h hS hf i.ps i.cs hk) dX11_choose_77 cwX6_rank mlX11_187 (ob_4 _) rfl rfl (by decide) (by decide) (Nat.le_of_ble_eq_true rfl) ?_
        refine v_istore dX11_choose_80 (by decide) ?_
        refine v_iload dX11_choose_82 rfl ?_
        refine v_iload dX11_choose_84 rfl ?_
        refine v_icmp_le 96 dX11_choose_86 (by decide) (fun c86 => ?_) (fun c86 => ?_)
        · refine v_iinc _ dX11_choose_96 rfl rfl (by decide) ?_
          refine v_goto 22 dX11_choose_99 (by decide) ?_
          rw [xCh, if_pos c54, if_neg c67, if_pos c86]
          first
          | (refine v_loc [(0, pR (0, 0)), (2, pI d), (3, pI c), (4, pI b), (5, pI (nI k + 1))] rfl ?_; exact ih (k + 1) _ _ _ (by omega) (nI_1 k))
          | (refine v_loc [(0, pR (0, 0)), (2, pI d), (3, pI (nI k)), (4, pI (xRank h k d)), (5, pI (nI k + 1))] rfl ?_; exact ih (k + 1) _ _ _ (by omega) (nI_1 k))
        · refine v_iload dX11_choose_89 rfl ?_
          refine v_istore dX11_choose_91 (by decide) ?_
          refine v_iload dX11_choose_93 rfl ?_
          refine v_istore_n dX11_choose_95 (by decide) ?_
          refine v_iinc _ dX11_choose_96 rfl rfl (by decide) ?_
          refine v_goto 22 dX11_choose_99 (by decide) ?_
          rw [xCh, if_pos c54, if_neg c67, if_neg c86]
          first
          | (refine v_loc [(0, pR (0, 0)), (2, pI d), (3, pI c), (4, pI b), (5, pI (nI k + 1))] rfl ?_; exact ih (k + 1) _ _ _ (by omega) (nI_1 k))
          | (refine v_loc [(0, pR (0, 0)), (2, pI d), (3, pI (nI k)), (4, pI (xRank h k d)), (5, pI (nI k + 1))] rfl ?_; exact ih (k + 1) _ _ _ (by omega) (nI_1 k))
set_option maxRecDepth 20000 in
theorem m_choose (g : G0) (h : Hp) (i : XI h) {w d : Int32} : Mx g yX11_choose wX11_choose 5 [pR (0, 0), pI w, pI d] h 0 0 (qE (some (pI (xChoose h w d).1)) (xChoose h w d).2) noX := by
  have hS := i.1
  refine Mx.by kfX11_choose rfl (by decide) (Nat.le_of_ble_eq_true rfl) ?_
  refine v_aload_n dX11_choose_0 rfl ?_
  refine v_getR (some (4, 0)) fl_X11_37 dX11_choose_1 rfl rfl (Nat.le_of_ble_eq_true rfl) (xh_0_0 hS) (xr_0_0_3 hS) ?_
  refine v_aload_n dX11_choose_4 rfl ?_
  refine v_getR (some (7, 0)) fl_X11_30 dX11_choose_5 rfl rfl (Nat.le_of_ble_eq_true rfl) (xh_0_0 hS) (xr_0_0_2 hS) ?_
  refine v_iload_n dX11_choose_8 rfl ?_
  refine v_iload_n dX11_choose_9 rfl ?_
  refine v_invVE (m_setl g h i) dX11_choose_10 cwX6_settle mlX11_117 (ob_4 _) rfl rfl (by decide) (by decide) (Nat.le_of_ble_eq_true rfl) ?_
  refine v_bipush (-2) dX11_choose_13 (by decide) ?_
  refine v_istore_n dX11_choose_15 (by decide) ?_
  refine v_iconst (-1) dX11_choose_16 (by decide) ?_
  refine v_istore dX11_choose_17 (by decide) ?_
  refine v_iconst (0) dX11_choose_19 (by decide) ?_
  refine v_istore dX11_choose_20 (by decide) ?_
  refine v_loc [(0, pR (0, 0)), (2, pI d), (3, pI (-2)), (4, pI (-1)), (5, pI 0)] rfl ?_
  exact choose_loop g _ (XIset i w d) (laX h w d) (d := d) (cn h 9) 0 (-2) (-1) 0 (by show _ = cn h 9; omega) rfl
set_option maxRecDepth 20000 in
theorem m_next (g : G0) (h : Hp) (i : XI h) {w d : Int32} : Mx g yX11_next wX11_next 8 [pR (0, 0), pI w, pI d] h 0 0 (qE (some (pI (xNext h w d).1)) (xNext h w d).2) noX := by
  have hS := i.1
  refine Mx.by kfX11_next rfl (by decide) (Nat.le_of_ble_eq_true rfl) ?_
  refine v_aload_n dX11_next_0 rfl ?_
  refine v_iload_n dX11_next_1 rfl ?_
  refine v_invVE (m_isWill g h hS) dX11_next_2 cwX11_isWill mlX11_88 (ob_0 _) rfl rfl (by decide) (by decide) (Nat.le_of_ble_eq_true rfl) ?_
  refine v_if_eq 15 dX11_next_5 (by decide) (fun c5 => ?_) (fun c5 => ?_)
  · refine v_iconst (-1) dX11_next_15 (by decide) ?_
    refine v_ireturn dX11_next_16 rfl rfl ?_
    exact ⟨by simp only [xNext, if_pos c5], by simp only [xNext, if_pos c5]⟩
  · refine v_iload_n dX11_next_8 rfl ?_
    refine v_invSE (m_isDay g h) dX11_next_9 cwX11_isDay mlX11_92 rfl rfl (by decide) (by decide) (Nat.le_of_ble_eq_true rfl) ?_
    refine v_if_ne 17 dX11_next_12 (by decide) (fun c12 => ?_) (fun c12 => ?_)
    · refine v_aload_n dX11_next_17 rfl ?_
      refine v_iload_n dX11_next_18 rfl ?_
      refine v_iload_n dX11_next_19 rfl ?_
      refine v_invVE (m_choose g h i) dX11_next_20 cwX11_choose mlX11_194 (ob_0 _) rfl rfl (by decide) (by decide) (Nat.le_of_ble_eq_true rfl) ?_
      refine v_ireturn dX11_next_23 rfl rfl ?_
      exact ⟨by simp only [xNext, if_neg c5, if_neg c12], by simp only [xNext, if_neg c5, if_neg c12]⟩
    · refine v_iconst (-1) dX11_next_15 (by decide) ?_
      refine v_ireturn dX11_next_16 rfl rfl ?_
      exact ⟨by simp only [xNext, if_neg c5, if_pos c12], by simp only [xNext, if_neg c5, if_pos c12]⟩
