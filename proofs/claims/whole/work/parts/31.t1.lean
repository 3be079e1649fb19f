theorem nI_sub {a b : Nat} (h : b ≤ a) : nI a - nI b = nI (a - b) := by
  obtain ⟨c, rfl⟩ : ∃ c, a = b + c := ⟨a - b, by omega⟩
  have e : nI (b + c) = nI c + nI b := by rw [nI_add, Nat.add_comm]
  rw [e, Nat.add_sub_cancel_left]
  exact Int32.add_sub_cancel _ _
/-- the tape's moving fields -/
def tp (h : Hp) (a p k v : Int32) : Hp := sIs h (1, 0) (fun f => if f = 3 then a else if f = 4 then p else if f = 5 then k else if f = 6 then v else vi h (1, 0) f)
theorem tp_a (h : Hp) (a p k v x : Int32) : sI (tp h a p k v) (1, 0) 3 x = tp h x p k v := by
  refine Prod.ext rfl (Prod.ext rfl (Prod.ext ?_ rfl))
  funext b f
  show (if b = (1, 0) ∧ f = 3 then x else if b = (1, 0) then _ else vi h b f) = if b = (1, 0) then _ else vi h b f
  by_cases hb : b = (1, 0)
  · rw [if_pos hb, if_pos hb]
    by_cases hf : f = 3
    · rw [if_pos ⟨hb, hf⟩, if_pos hf]
    · rw [if_neg (fun z => hf z.2), if_neg hf, if_neg hf]
  · rw [if_neg (fun z => hb z.1), if_neg hb, if_neg hb]
theorem tp_p (h : Hp) (a p k v x : Int32) : sI (tp h a p k v) (1, 0) 4 x = tp h a x k v := by
  refine Prod.ext rfl (Prod.ext rfl (Prod.ext ?_ rfl))
  funext b f
  show (if b = (1, 0) ∧ f = 4 then x else if b = (1, 0) then _ else vi h b f) = if b = (1, 0) then _ else vi h b f
  by_cases hb : b = (1, 0)
  · rw [if_pos hb, if_pos hb]
    by_cases hf : f = 4
    · rw [if_pos ⟨hb, hf⟩, hf]; rfl
    · rw [if_neg (fun z => hf z.2), if_neg hf, if_neg hf]
  · rw [if_neg (fun z => hb z.1), if_neg hb, if_neg hb]
theorem tp_k (h : Hp) (a p k v x : Int32) : sI (tp h a p k v) (1, 0) 5 x = tp h a p x v := by
  refine Prod.ext rfl (Prod.ext rfl (Prod.ext ?_ rfl))
  funext b f
  show (if b = (1, 0) ∧ f = 5 then x else if b = (1, 0) then _ else vi h b f) = if b = (1, 0) then _ else vi h b f
  by_cases hb : b = (1, 0)
  · rw [if_pos hb, if_pos hb]
    by_cases hf : f = 5
    · rw [if_pos ⟨hb, hf⟩, hf]; rfl
    · rw [if_neg (fun z => hf z.2), if_neg hf, if_neg hf]
  · rw [if_neg (fun z => hb z.1), if_neg hb, if_neg hb]
theorem tp_v (h : Hp) (a p k v x : Int32) : sI (tp h a p k v) (1, 0) 6 x = tp h a p k x := by
  refine Prod.ext rfl (Prod.ext rfl (Prod.ext ?_ rfl))
  funext b f
  show (if b = (1, 0) ∧ f = 6 then x else if b = (1, 0) then _ else vi h b f) = if b = (1, 0) then _ else vi h b f
  by_cases hb : b = (1, 0)
  · rw [if_pos hb, if_pos hb]
    by_cases hf : f = 6
    · rw [if_pos ⟨hb, hf⟩, hf]; rfl
    · rw [if_neg (fun z => hf z.2), if_neg hf, if_neg hf]
  · rw [if_neg (fun z => hb z.1), if_neg hb, if_neg hb]
theorem tp_id (h : Hp) : tp h (vi h (1, 0) 3) (vi h (1, 0) 4) (vi h (1, 0) 5) (vi h (1, 0) 6) = h := by
  refine Prod.ext rfl (Prod.ext rfl (Prod.ext ?_ rfl))
  funext b f
  show (if b = (1, 0) then _ else vi h b f) = vi h b f
  by_cases hb : b = (1, 0)
  · rw [if_pos hb, hb]
    by_cases h3 : f = 3
    · rw [if_pos h3, h3]
    · rw [if_neg h3]
      by_cases h4 : f = 4
      · rw [if_pos h4, h4]
      · rw [if_neg h4]
        by_cases h5 : f = 5
        · rw [if_pos h5, h5]
        · rw [if_neg h5]
          by_cases h6 : f = 6
          · rw [if_pos h6, h6]
          · rw [if_neg h6]
  · rw [if_neg hb]
theorem tp_3 (h : Hp) (a p k v : Int32) : vi (tp h a p k v) (1, 0) 3 = a := rfl
theorem tp_4 (h : Hp) (a p k v : Int32) : vi (tp h a p k v) (1, 0) 4 = p := rfl
theorem tp_5 (h : Hp) (a p k v : Int32) : vi (tp h a p k v) (1, 0) 5 = k := rfl
theorem tp_6 (h : Hp) (a p k v : Int32) : vi (tp h a p k v) (1, 0) 6 = v := rfl
theorem tp_2 (h : Hp) (a p k v : Int32) : vi (tp h a p k v) (1, 0) 2 = vi h (1, 0) 2 := rfl
theorem tp_o (h : Hp) (a p k v : Int32) {b : Ad} (f : Nat) (hb : b.1 ≠ 1) : vi (tp h a p k v) b f = vi h b f := by
  show (if b = (1, 0) then _ else vi h b f) = vi h b f
  rw [if_neg (fun z => hb (by rw [z]))]
theorem SXtp {h : Hp} (s : SX h) (a p k v : Int32) : SX (tp h a p k v) := s
set_option maxRecDepth 20000 in
theorem m_byteAt (g : G0) (h : Hp) (hS : SX h) {q : Nat} (hq : q < 300) : Mx g yX8_byteAt wX8_byteAt 0 [pR (1, 0), pI (nI q)] h 0 0 (qE (some (pI (vi h (13, 0) q))) h) noX := by
  have ncl : (nI q).toNatClampNeg = q := nI_clamp (by omega)
  refine Mx.by kfX8_byteAt rfl (by decide) (Nat.le_of_ble_eq_true rfl) ?_
  refine v_iload_n dX8_byteAt_0 rfl ?_
  refine v_if_lt 22 dX8_byteAt_1 (by decide) (fun z => absurd z (nI_pos (by omega))) (fun _ => ?_)
  refine v_iload_n dX8_byteAt_4 rfl ?_
  refine v_aload_n dX8_byteAt_5 rfl ?_
  refine v_getR (some (13, 0)) fl_X8_9 dX8_byteAt_6 rfl rfl (Nat.le_of_ble_eq_true rfl) (xh_1_0 hS) (xr_1_0_0 hS) ?_
  refine v_alen dX8_byteAt_9 rfl (by decide) (Nat.le_of_ble_eq_true rfl) (xh_13_0 hS) ?_
  rw [xl_13_0 hS]
  refine v_icmp_ge 22 dX8_byteAt_10 (by decide) (fun z => absurd z (nI_ge (by omega) (by omega))) (fun _ => ?_)
  refine v_aload_n dX8_byteAt_13 rfl ?_
  refine v_getR (some (13, 0)) fl_X8_9 dX8_byteAt_14 rfl rfl (Nat.le_of_ble_eq_true rfl) (xh_1_0 hS) (xr_1_0_0 hS) ?_
  refine v_iload_n dX8_byteAt_17 rfl ?_
  refine v_iald dX8_byteAt_18 rfl (Nat.le_of_ble_eq_true rfl) (xh_13_0 hS) (by rw [xl_13_0 hS]; exact vp_in_nI hq (by decide)) ?_
  rw [ncl]
  refine v_goto 23 dX8_byteAt_19 (by decide) ?_
  refine v_ireturn dX8_byteAt_23 rfl rfl ?_
  exact ⟨rfl, rfl⟩
def xDig (c : Int32) : Int32 := if c < 48 then 0 else if 57 < c then 0 else 1
def xLet (c : Int32) : Int32 := if c < 97 then 0 else if 122 < c then 0 else 1
def xSgn (c : Int32) : Int32 := if (40 ≤ c ∧ c ≤ 43) ∨ (59 ≤ c ∧ c ≤ 62) then 1 else 0
set_option maxRecDepth 20000 in
theorem m_isDigit (g : G0) (h : Hp) {c : Int32} : Mx g yX8_isDigit wX8_isDigit 0 [pI c] h 0 0 (qE (some (pI (xDig c))) h) noX := by
  refine Mx.by kfX8_isDigit rfl (by decide) (Nat.le_of_ble_eq_true rfl) ?_
  refine v_iload_n dX8_isDigit_0 rfl ?_
  refine v_bipush (48) dX8_isDigit_1 (by decide) ?_
  refine v_icmp_lt 16 dX8_isDigit_3 (by decide) (fun c3 => ?_) (fun c3 => ?_)
  · refine v_iconst (0) dX8_isDigit_16 (by decide) ?_
    refine v_ireturn dX8_isDigit_17 rfl rfl ?_
    exact ⟨by simp only [xDig, if_pos c3], rfl⟩
  · refine v_iload_n dX8_isDigit_6 rfl ?_
    refine v_bipush (57) dX8_isDigit_7 (by decide) ?_
    refine v_icmp_gt 16 dX8_isDigit_9 (by decide) (fun c9 => ?_) (fun c9 => ?_)
    · refine v_iconst (0) dX8_isDigit_16 (by decide) ?_
      refine v_ireturn dX8_isDigit_17 rfl rfl ?_
      exact ⟨by simp only [xDig, if_neg c3, if_pos c9], rfl⟩
    · refine v_iconst (1) dX8_isDigit_12 (by decide) ?_
      refine v_goto 17 dX8_isDigit_13 (by decide) ?_
      refine v_ireturn dX8_isDigit_17 rfl rfl ?_
      exact ⟨by simp only [xDig, if_neg c3, if_neg c9], rfl⟩
set_option maxRecDepth 20000 in
theorem m_isLetter (g : G0) (h : Hp) {c : Int32} : Mx g yX8_isLetter wX8_isLetter 0 [pI c] h 0 0 (qE (some (pI (xLet c))) h) noX := by
  refine Mx.by kfX8_isLetter rfl (by decide) (Nat.le_of_ble_eq_true rfl) ?_
  refine v_iload_n dX8_isLetter_0 rfl ?_
  refine v_bipush (97) dX8_isLetter_1 (by decide) ?_
  refine v_icmp_lt 16 dX8_isLetter_3 (by decide) (fun c3 => ?_) (fun c3 => ?_)
  · refine v_iconst (0) dX8_isLetter_16 (by decide) ?_
    refine v_ireturn dX8_isLetter_17 rfl rfl ?_
    exact ⟨by simp only [xLet, if_pos c3], rfl⟩
  · refine v_iload_n dX8_isLetter_6 rfl ?_
    refine v_bipush (122) dX8_isLetter_7 (by decide) ?_
    refine v_icmp_gt 16 dX8_isLetter_9 (by decide) (fun c9 => ?_) (fun c9 => ?_)
    · refine v_iconst (0) dX8_isLetter_16 (by decide) ?_
      refine v_ireturn dX8_isLetter_17 rfl rfl ?_
      exact ⟨by simp only [xLet, if_neg c3, if_pos c9], rfl⟩
    · refine v_iconst (1) dX8_isLetter_12 (by decide) ?_
      refine v_goto 17 dX8_isLetter_13 (by decide) ?_
      refine v_ireturn dX8_isLetter_17 rfl rfl ?_
      exact ⟨by simp only [xLet, if_neg c3, if_neg c9], rfl⟩
set_option maxRecDepth 20000 in
theorem m_sgn40 (g : G0) (h : Hp) : Mx g yX8_isSign wX8_isSign 0 [pI (nI 40)] h 0 0 (qE (some (pI (xSgn (nI 40)))) h) noX := by
  refine Mx.by kfX8_isSign rfl (by decide) (Nat.le_of_ble_eq_true rfl) ?_
  refine v_iload_n dX8_isSign_0 rfl ?_
  refine v_tableIn 108 dX8_isSign_1 (by decide) (by decide) (by rfl) (by decide) ?_
  refine v_iconst (1) dX8_isSign_108 (by decide) ?_
  refine v_ireturn dX8_isSign_109 rfl rfl ?_
  exact ⟨by decide, rfl⟩
set_option maxRecDepth 20000 in
theorem m_sgn41 (g : G0) (h : Hp) : Mx g yX8_isSign wX8_isSign 0 [pI (nI 41)] h 0 0 (qE (some (pI (xSgn (nI 41)))) h) noX := by
  refine Mx.by kfX8_isSign rfl (by decide) (Nat.le_of_ble_eq_true rfl) ?_
  refine v_iload_n dX8_isSign_0 rfl ?_
  refine v_tableIn 108 dX8_isSign_1 (by decide) (by decide) (by rfl) (by decide) ?_
  refine v_iconst (1) dX8_isSign_108 (by decide) ?_
  refine v_ireturn dX8_isSign_109 rfl rfl ?_
  exact ⟨by decide, rfl⟩
set_option maxRecDepth 20000 in
theorem m_sgn42 (g : G0) (h : Hp) : Mx g yX8_isSign wX8_isSign 0 [pI (nI 42)] h 0 0 (qE (some (pI (xSgn (nI 42)))) h) noX := by
  refine Mx.by kfX8_isSign rfl (by decide) (Nat.le_of_ble_eq_true rfl) ?_
  refine v_iload_n dX8_isSign_0 rfl ?_
  refine v_tableIn 108 dX8_isSign_1 (by decide) (by decide) (by rfl) (by decide) ?_
  refine v_iconst (1) dX8_isSign_108 (by decide) ?_
  refine v_ireturn dX8_isSign_109 rfl rfl ?_
  exact ⟨by decide, rfl⟩
set_option maxRecDepth 20000 in
theorem m_sgn43 (g : G0) (h : Hp) : Mx g yX8_isSign wX8_isSign 0 [pI (nI 43)] h 0 0 (qE (some (pI (xSgn (nI 43)))) h) noX := by
  refine Mx.by kfX8_isSign rfl (by decide) (Nat.le_of_ble_eq_true rfl) ?_
  refine v_iload_n dX8_isSign_0 rfl ?_
  refine v_tableIn 108 dX8_isSign_1 (by decide) (by decide) (by rfl) (by decide) ?_
  refine v_iconst (1) dX8_isSign_108 (by decide) ?_
  refine v_ireturn dX8_isSign_109 rfl rfl ?_
  exact ⟨by decide, rfl⟩
set_option maxRecDepth 20000 in
theorem m_sgn44 (g : G0) (h : Hp) : Mx g yX8_isSign wX8_isSign 0 [pI (nI 44)] h 0 0 (qE (some (pI (xSgn (nI 44)))) h) noX := by
  refine Mx.by kfX8_isSign rfl (by decide) (Nat.le_of_ble_eq_true rfl) ?_
  refine v_iload_n dX8_isSign_0 rfl ?_
  refine v_tableIn 110 dX8_isSign_1 (by decide) (by decide) (by rfl) (by decide) ?_
  refine v_iconst (0) dX8_isSign_110 (by decide) ?_
  refine v_ireturn dX8_isSign_111 rfl rfl ?_
  exact ⟨by decide, rfl⟩
set_option maxRecDepth 20000 in
theorem m_sgn45 (g : G0) (h : Hp) : Mx g yX8_isSign wX8_isSign 0 [pI (nI 45)] h 0 0 (qE (some (pI (xSgn (nI 45)))) h) noX := by
  refine Mx.by kfX8_isSign rfl (by decide) (Nat.le_of_ble_eq_true rfl) ?_
  refine v_iload_n dX8_isSign_0 rfl ?_
  refine v_tableIn 110 dX8_isSign_1 (by decide) (by decide) (by rfl) (by decide) ?_
  refine v_iconst (0) dX8_isSign_110 (by decide) ?_
  refine v_ireturn dX8_isSign_111 rfl rfl ?_
  exact ⟨by decide, rfl⟩
set_option maxRecDepth 20000 in
theorem m_sgn46 (g : G0) (h : Hp) : Mx g yX8_isSign wX8_isSign 0 [pI (nI 46)] h 0 0 (qE (some (pI (xSgn (nI 46)))) h) noX := by
  refine Mx.by kfX8_isSign rfl (by decide) (Nat.le_of_ble_eq_true rfl) ?_
  refine v_iload_n dX8_isSign_0 rfl ?_
  refine v_tableIn 110 dX8_isSign_1 (by decide) (by decide) (by rfl) (by decide) ?_
  refine v_iconst (0) dX8_isSign_110 (by decide) ?_
  refine v_ireturn dX8_isSign_111 rfl rfl ?_
  exact ⟨by decide, rfl⟩
set_option maxRecDepth 20000 in
theorem m_sgn47 (g : G0) (h : Hp) : Mx g yX8_isSign wX8_isSign 0 [pI (nI 47)] h 0 0 (qE (some (pI (xSgn (nI 47)))) h) noX := by
  refine Mx.by kfX8_isSign rfl (by decide) (Nat.le_of_ble_eq_true rfl) ?_
  refine v_iload_n dX8_isSign_0 rfl ?_
  refine v_tableIn 110 dX8_isSign_1 (by decide) (by decide) (by rfl) (by decide) ?_
  refine v_iconst (0) dX8_isSign_110 (by decide) ?_
  refine v_ireturn dX8_isSign_111 rfl rfl ?_
  exact ⟨by decide, rfl⟩
set_option maxRecDepth 20000 in
theorem m_sgn48 (g : G0) (h : Hp) : Mx g yX8_isSign wX8_isSign 0 [pI (nI 48)] h 0 0 (qE (some (pI (xSgn (nI 48)))) h) noX := by
  refine Mx.by kfX8_isSign rfl (by decide) (Nat.le_of_ble_eq_true rfl) ?_
  refine v_iload_n dX8_isSign_0 rfl ?_
  refine v_tableIn 110 dX8_isSign_1 (by decide) (by decide) (by rfl) (by decide) ?_
  refine v_iconst (0) dX8_isSign_110 (by decide) ?_
  refine v_ireturn dX8_isSign_111 rfl rfl ?_
  exact ⟨by decide, rfl⟩
set_option maxRecDepth 20000 in
theorem m_sgn49 (g : G0) (h : Hp) : Mx g yX8_isSign wX8_isSign 0 [pI (nI 49)] h 0 0 (qE (some (pI (xSgn (nI 49)))) h) noX := by
  refine Mx.by kfX8_isSign rfl (by decide) (Nat.le_of_ble_eq_true rfl) ?_
  refine v_iload_n dX8_isSign_0 rfl ?_
  refine v_tableIn 110 dX8_isSign_1 (by decide) (by decide) (by rfl) (by decide) ?_
  refine v_iconst (0) dX8_isSign_110 (by decide) ?_
  refine v_ireturn dX8_isSign_111 rfl rfl ?_
  exact ⟨by decide, rfl⟩
set_option maxRecDepth 20000 in
theorem m_sgn50 (g : G0) (h : Hp) : Mx g yX8_isSign wX8_isSign 0 [pI (nI 50)] h 0 0 (qE (some (pI (xSgn (nI 50)))) h) noX := by
  refine Mx.by kfX8_isSign rfl (by decide) (Nat.le_of_ble_eq_true rfl) ?_
  refine v_iload_n dX8_isSign_0 rfl ?_
  refine v_tableIn 110 dX8_isSign_1 (by decide) (by decide) (by rfl) (by decide) ?_
  refine v_iconst (0) dX8_isSign_110 (by decide) ?_
  refine v_ireturn dX8_isSign_111 rfl rfl ?_
  exact ⟨by decide, rfl⟩
set_option maxRecDepth 20000 in
theorem m_sgn51 (g : G0) (h : Hp) : Mx g yX8_isSign wX8_isSign 0 [pI (nI 51)] h 0 0 (qE (some (pI (xSgn (nI 51)))) h) noX := by
  refine Mx.by kfX8_isSign rfl (by decide) (Nat.le_of_ble_eq_true rfl) ?_
  refine v_iload_n dX8_isSign_0 rfl ?_
  refine v_tableIn 110 dX8_isSign_1 (by decide) (by decide) (by rfl) (by decide) ?_
  refine v_iconst (0) dX8_isSign_110 (by decide) ?_
  refine v_ireturn dX8_isSign_111 rfl rfl ?_
  exact ⟨by decide, rfl⟩
set_option maxRecDepth 20000 in
theorem m_sgn52 (g : G0) (h : Hp) : Mx g yX8_isSign wX8_isSign 0 [pI (nI 52)] h 0 0 (qE (some (pI (xSgn (nI 52)))) h) noX := by
  refine Mx.by kfX8_isSign rfl (by decide) (Nat.le_of_ble_eq_true rfl) ?_
  refine v_iload_n dX8_isSign_0 rfl ?_
  refine v_tableIn 110 dX8_isSign_1 (by decide) (by decide) (by rfl) (by decide) ?_
  refine v_iconst (0) dX8_isSign_110 (by decide) ?_
  refine v_ireturn dX8_isSign_111 rfl rfl ?_
  exact ⟨by decide, rfl⟩
set_option maxRecDepth 20000 in
theorem m_sgn53 (g : G0) (h : Hp) : Mx g yX8_isSign wX8_isSign 0 [pI (nI 53)] h 0 0 (qE (some (pI (xSgn (nI 53)))) h) noX := by
  refine Mx.by kfX8_isSign rfl (by decide) (Nat.le_of_ble_eq_true rfl) ?_
  refine v_iload_n dX8_isSign_0 rfl ?_
  refine v_tableIn 110 dX8_isSign_1 (by decide) (by decide) (by rfl) (by decide) ?_
  refine v_iconst (0) dX8_isSign_110 (by decide) ?_
  refine v_ireturn dX8_isSign_111 rfl rfl ?_
  exact ⟨by decide, rfl⟩
set_option maxRecDepth 20000 in
theorem m_sgn54 (g : G0) (h : Hp) : Mx g yX8_isSign wX8_isSign 0 [pI (nI 54)] h 0 0 (qE (some (pI (xSgn (nI 54)))) h) noX := by
  refine Mx.by kfX8_isSign rfl (by decide) (Nat.le_of_ble_eq_true rfl) ?_
  refine v_iload_n dX8_isSign_0 rfl ?_
  refine v_tableIn 110 dX8_isSign_1 (by decide) (by decide) (by rfl) (by decide) ?_
  refine v_iconst (0) dX8_isSign_110 (by decide) ?_
  refine v_ireturn dX8_isSign_111 rfl rfl ?_
  exact ⟨by decide, rfl⟩
set_option maxRecDepth 20000 in
theorem m_sgn55 (g : G0) (h : Hp) : Mx g yX8_isSign wX8_isSign 0 [pI (nI 55)] h 0 0 (qE (some (pI (xSgn (nI 55)))) h) noX := by
  refine Mx.by kfX8_isSign rfl (by decide) (Nat.le_of_ble_eq_true rfl) ?_
  refine v_iload_n dX8_isSign_0 rfl ?_
  refine v_tableIn 110 dX8_isSign_1 (by decide) (by decide) (by rfl) (by decide) ?_
  refine v_iconst (0) dX8_isSign_110 (by decide) ?_
  refine v_ireturn dX8_isSign_111 rfl rfl ?_
  exact ⟨by decide, rfl⟩
set_option maxRecDepth 20000 in
theorem m_sgn56 (g : G0) (h : Hp) : Mx g yX8_isSign wX8_isSign 0 [pI (nI 56)] h 0 0 (qE (some (pI (xSgn (nI 56)))) h) noX := by
  refine Mx.by kfX8_isSign rfl (by decide) (Nat.le_of_ble_eq_true rfl) ?_
  refine v_iload_n dX8_isSign_0 rfl ?_
  refine v_tableIn 110 dX8_isSign_1 (by decide) (by decide) (by rfl) (by decide) ?_
  refine v_iconst (0) dX8_isSign_110 (by decide) ?_
  refine v_ireturn dX8_isSign_111 rfl rfl ?_
  exact ⟨by decide, rfl⟩
set_option maxRecDepth 20000 in
theorem m_sgn57 (g : G0) (h : Hp) : Mx g yX8_isSign wX8_isSign 0 [pI (nI 57)] h 0 0 (qE (some (pI (xSgn (nI 57)))) h) noX := by
  refine Mx.by kfX8_isSign rfl (by decide) (Nat.le_of_ble_eq_true rfl) ?_
  refine v_iload_n dX8_isSign_0 rfl ?_
  refine v_tableIn 110 dX8_isSign_1 (by decide) (by decide) (by rfl) (by decide) ?_
  refine v_iconst (0) dX8_isSign_110 (by decide) ?_
  refine v_ireturn dX8_isSign_111 rfl rfl ?_
  exact ⟨by decide, rfl⟩
set_option maxRecDepth 20000 in
theorem m_sgn58 (g : G0) (h : Hp) : Mx g yX8_isSign wX8_isSign 0 [pI (nI 58)] h 0 0 (qE (some (pI (xSgn (nI 58)))) h) noX := by
  refine Mx.by kfX8_isSign rfl (by decide) (Nat.le_of_ble_eq_true rfl) ?_
  refine v_iload_n dX8_isSign_0 rfl ?_
  refine v_tableIn 110 dX8_isSign_1 (by decide) (by decide) (by rfl) (by decide) ?_
  refine v_iconst (0) dX8_isSign_110 (by decide) ?_
  refine v_ireturn dX8_isSign_111 rfl rfl ?_
  exact ⟨by decide, rfl⟩
set_option maxRecDepth 20000 in
theorem m_sgn59 (g : G0) (h : Hp) : Mx g yX8_isSign wX8_isSign 0 [pI (nI 59)] h 0 0 (qE (some (pI (xSgn (nI 59)))) h) noX := by
  refine Mx.by kfX8_isSign rfl (by decide) (Nat.le_of_ble_eq_true rfl) ?_
  refine v_iload_n dX8_isSign_0 rfl ?_
  refine v_tableIn 108 dX8_isSign_1 (by decide) (by decide) (by rfl) (by decide) ?_
  refine v_iconst (1) dX8_isSign_108 (by decide) ?_
  refine v_ireturn dX8_isSign_109 rfl rfl ?_
  exact ⟨by decide, rfl⟩
set_option maxRecDepth 20000 in
theorem m_sgn60 (g : G0) (h : Hp) : Mx g yX8_isSign wX8_isSign 0 [pI (nI 60)] h 0 0 (qE (some (pI (xSgn (nI 60)))) h) noX := by
  refine Mx.by kfX8_isSign rfl (by decide) (Nat.le_of_ble_eq_true rfl) ?_
  refine v_iload_n dX8_isSign_0 rfl ?_
  refine v_tableIn 108 dX8_isSign_1 (by decide) (by decide) (by rfl) (by decide) ?_
  refine v_iconst (1) dX8_isSign_108 (by decide) ?_
  refine v_ireturn dX8_isSign_109 rfl rfl ?_
  exact ⟨by decide, rfl⟩
set_option maxRecDepth 20000 in
theorem m_sgn61 (g : G0) (h : Hp) : Mx g yX8_isSign wX8_isSign 0 [pI (nI 61)] h 0 0 (qE (some (pI (xSgn (nI 61)))) h) noX := by
  refine Mx.by kfX8_isSign rfl (by decide) (Nat.le_of_ble_eq_true rfl) ?_
  refine v_iload_n dX8_isSign_0 rfl ?_
  refine v_tableIn 108 dX8_isSign_1 (by decide) (by decide) (by rfl) (by decide) ?_
  refine v_iconst (1) dX8_isSign_108 (by decide) ?_
  refine v_ireturn dX8_isSign_109 rfl rfl ?_
  exact ⟨by decide, rfl⟩
set_option maxRecDepth 20000 in
theorem m_sgn62 (g : G0) (h : Hp) : Mx g yX8_isSign wX8_isSign 0 [pI (nI 62)] h 0 0 (qE (some (pI (xSgn (nI 62)))) h) noX := by
  refine Mx.by kfX8_isSign rfl (by decide) (Nat.le_of_ble_eq_true rfl) ?_
  refine v_iload_n dX8_isSign_0 rfl ?_
  refine v_tableIn 108 dX8_isSign_1 (by decide) (by decide) (by rfl) (by decide) ?_
  refine v_iconst (1) dX8_isSign_108 (by decide) ?_
  refine v_ireturn dX8_isSign_109 rfl rfl ?_
  exact ⟨by decide, rfl⟩
set_option maxRecDepth 20000 in
theorem m_sgnO (g : G0) (h : Hp) {c : Int32} (hc : c.toInt < 40 ∨ 62 < c.toInt) : Mx g yX8_isSign wX8_isSign 0 [pI c] h 0 0 (qE (some (pI (xSgn c))) h) noX := by
  refine Mx.by kfX8_isSign rfl (by decide) (Nat.le_of_ble_eq_true rfl) ?_
  refine v_iload_n dX8_isSign_0 rfl ?_
  refine v_tableOut 110 dX8_isSign_1 hc (by decide) ?_
  refine v_iconst (0) dX8_isSign_110 (by decide) ?_
  refine v_ireturn dX8_isSign_111 rfl rfl ?_
  refine ⟨?_, rfl⟩
  have e : ¬ ((40 ≤ c ∧ c ≤ 43) ∨ (59 ≤ c ∧ c ≤ 62)) := by
    intro z
    have f40 : (40 : Int32).toInt = 40 := by decide
    have f43 : (43 : Int32).toInt = 43 := by decide
    have f59 : (59 : Int32).toInt = 59 := by decide
    have f62 : (62 : Int32).toInt = 62 := by decide
    rcases z with ⟨z1, z2⟩ | ⟨z1, z2⟩ <;> rw [Int32.le_iff_toInt_le] at z1 z2 <;> omega
  rw [xSgn, if_neg e]
theorem m_isSign (g : G0) (h : Hp) {c : Int32} : Mx g yX8_isSign wX8_isSign 0 [pI c] h 0 0 (qE (some (pI (xSgn c))) h) noX := by
  by_cases hc : c.toInt < 40 ∨ 62 < c.toInt
  · exact m_sgnO g h hc
  · have : c = nI c.toInt.toNat := by
      apply Int32.toInt_inj.mp
      rw [nI_toInt (by omega)]
      omega
    obtain ⟨k, hk⟩ : ∃ k, c.toInt.toNat = k := ⟨_, rfl⟩
    rw [hk] at this
    subst this
    have : k = 40 ∨ k = 41 ∨ k = 42 ∨ k = 43 ∨ k = 44 ∨ k = 45 ∨ k = 46 ∨ k = 47 ∨ k = 48 ∨ k = 49 ∨ k = 50 ∨ k = 51 ∨ k = 52 ∨ k = 53 ∨ k = 54 ∨ k = 55 ∨ k = 56 ∨ k = 57 ∨ k = 58 ∨ k = 59 ∨ k = 60 ∨ k = 61 ∨ k = 62 := by omega
    rcases this with rfl | rfl | rfl | rfl | rfl | rfl | rfl | rfl | rfl | rfl | rfl | rfl | rfl | rfl | rfl | rfl | rfl | rfl | rfl | rfl | rfl | rfl | rfl
    · exact m_sgn40 g h
    · exact m_sgn41 g h
    · exact m_sgn42 g h
    · exact m_sgn43 g h
    · exact m_sgn44 g h
    · exact m_sgn45 g h
    · exact m_sgn46 g h
    · exact m_sgn47 g h
    · exact m_sgn48 g h
    · exact m_sgn49 g h
    · exact m_sgn50 g h
    · exact m_sgn51 g h
    · exact m_sgn52 g h
    · exact m_sgn53 g h
    · exact m_sgn54 g h
    · exact m_sgn55 g h
    · exact m_sgn56 g h
    · exact m_sgn57 g h
    · exact m_sgn58 g h
    · exact m_sgn59 g h
    · exact m_sgn60 g h
    · exact m_sgn61 g h
    · exact m_sgn62 g h
def spT (b : Nat → Int32) (s j : Nat) : Nat → Nat → Int32
  | 0, _ => 1
  | n + 1, i => if b (s + i) = (bytS.getD j []).getD i 0 then spT b s j n (i + 1) else 0
def spl (b : Nat → Int32) (s w j : Nat) : Int32 := if nI w = nI (lenS.getD j 0) then spT b s j (lenS.getD j 0) 0 else 0
set_option maxRecDepth 20000 in
theorem spells_loop (g : G0) (h : Hp) (hS : SX h) {s j : Nat} (hj : j < 11) (hs : vi h (1, 0) 4 = nI s) (hl : s + lenS.getD j 0 ≤ 300) : ∀ (n i : Nat) (x : Int32), i + n = lenS.getD j 0 → x = nI i → V g kfX8_spells 4 0 0 20 [(0, pR (1, 0)), (1, pR (64, j)), (2, pI x)] [] h (qE (some (pI (spT (vi h (13, 0)) s j n i))) h) (fun _ _ a h' => noX a h') := by
  intro n
  induction n with
  | zero =>
    intro i x hij hx
    subst hx
    refine v_iload_n dX8_spells_20 rfl ?_
    refine v_aload_n dX8_spells_21 rfl ?_
    refine v_invStr (m_strlen g h hj) dX8_spells_22 cwJ0_length_8abf5 mlX8_87 rfl hj rfl rfl (by decide) (by decide) (Nat.le_of_ble_eq_true rfl) ?_
    refine v_icmp_ge 54 dX8_spells_25 (by decide) (fun _ => ?_) (fun z => absurd (nI_le (by omega) (by omega)) z)
    refine v_iconst (1) dX8_spells_54 (by decide) ?_
    refine v_ireturn dX8_spells_55 rfl rfl ?_
    exact ⟨rfl, rfl⟩
  | succ n ih =>
    intro i x hij hx
    subst hx
    refine v_iload_n dX8_spells_20 rfl ?_
    refine v_aload_n dX8_spells_21 rfl ?_
    refine v_invStr (m_strlen g h hj) dX8_spells_22 cwJ0_length_8abf5 mlX8_87 rfl hj rfl rfl (by decide) (by decide) (Nat.le_of_ble_eq_true rfl) ?_
    refine v_icmp_ge 54 dX8_spells_25 (by decide) (fun z => absurd z (nI_ge (by omega) (by omega))) (fun _ => ?_)
    refine v_aload_n dX8_spells_28 rfl ?_
    refine v_aload_n dX8_spells_29 rfl ?_
    refine v_getI fl_X8_29 dX8_spells_30 rfl rfl (Nat.le_of_ble_eq_true rfl) (xh_1_0 hS) ?_
    rw [hs]
    refine v_iload_n dX8_spells_33 rfl ?_
    refine v_iadd dX8_spells_34 ?_
    rw [nI_add]
    refine v_invVE (m_byteAt g h hS (show s + i < 300 by omega)) dX8_spells_35 cwX8_byteAt mlX8_25 (ob_1 _) rfl rfl (by decide) (by decide) (Nat.le_of_ble_eq_true rfl) ?_
    refine v_aload_n dX8_spells_38 rfl ?_
    refine v_iload_n dX8_spells_39 rfl ?_
    refine v_invStr (m_charAt g h hj (show i < lenS.getD j 0 by omega)) dX8_spells_40 cwJ0_charAt_5068e mlX8_91 rfl hj rfl rfl (by decide) (by decide) (Nat.le_of_ble_eq_true rfl) ?_
    refine v_icmp_eq 48 dX8_spells_43 (by decide) (fun c43 => ?_) (fun c43 => ?_)
    · refine v_iinc _ dX8_spells_48 rfl rfl (by decide) ?_
      refine v_goto 20 dX8_spells_51 (by decide) ?_
      rw [spT, if_pos c43]
      refine v_loc [(0, pR (1, 0)), (1, pR (64, j)), (2, pI (nI i + 1))] rfl ?_
      exact ih (i + 1) _ (by omega) (nI_1 i)
    · refine v_iconst (0) dX8_spells_46 (by decide) ?_
      refine v_ireturn dX8_spells_47 rfl rfl ?_
      exact ⟨by simp only [spT, if_neg c43], rfl⟩
set_option maxRecDepth 20000 in
theorem m_spells (g : G0) (h : Hp) (hS : SX h) {s t j : Nat} (hj : j < 11) (ha : vi h (1, 0) 3 = nI t) (hs : vi h (1, 0) 4 = nI s) (hst : s ≤ t) (ht : t ≤ 300) : Mx g yX8_spells wX8_spells 4 [pR (1, 0), pR (64, j)] h 0 0 (qE (some (pI (spl (vi h (13, 0)) s (t - s) j))) h) noX := by
  refine Mx.by kfX8_spells rfl (by decide) (Nat.le_of_ble_eq_true rfl) ?_
  refine v_aload_n dX8_spells_0 rfl ?_
  refine v_getI fl_X8_22 dX8_spells_1 rfl rfl (Nat.le_of_ble_eq_true rfl) (xh_1_0 hS) ?_
  rw [ha]
  refine v_aload_n dX8_spells_4 rfl ?_
  refine v_getI fl_X8_29 dX8_spells_5 rfl rfl (Nat.le_of_ble_eq_true rfl) (xh_1_0 hS) ?_
  rw [hs]
  refine v_isub dX8_spells_8 ?_
  rw [nI_sub hst]
  refine v_aload_n dX8_spells_9 rfl ?_
  refine v_invStr (m_strlen g h hj) dX8_spells_10 cwJ0_length_8abf5 mlX8_87 rfl hj rfl rfl (by decide) (by decide) (Nat.le_of_ble_eq_true rfl) ?_
  refine v_icmp_eq 18 dX8_spells_13 (by decide) (fun c13 => ?_) (fun c13 => ?_)
  · refine v_iconst (0) dX8_spells_18 (by decide) ?_
    refine v_istore_n dX8_spells_19 (by decide) ?_
    have hl : s + lenS.getD j 0 ≤ 300 := by
      have l8 := (lenS_ok j hj).2
      have := (nI_eq (by omega) (by omega)).mp c13
      omega
    rw [spl, if_pos c13]
    refine v_loc [(0, pR (1, 0)), (1, pR (64, j)), (2, pI 0)] rfl ?_
    exact spells_loop g h hS hj hs hl _ 0 0 (by omega) rfl
  · refine v_iconst (0) dX8_spells_16 (by decide) ?_
    refine v_ireturn dX8_spells_17 rfl rfl ?_
    exact ⟨by simp only [spl, if_neg c13], rfl⟩
def kwK (b : Nat → Int32) (s w : Nat) : Int32 := if spl b s w 0 = 0 then (if spl b s w 1 = 0 then (if spl b s w 2 = 0 then (if spl b s w 3 = 0 then (if spl b s w 4 = 0 then (if spl b s w 5 = 0 then 3 else 10) else 9) else 8) else 7) else 6) else 5
def kwN (b : Nat → Int32) (s w : Nat) : Int32 := if spl b s w 6 = 0 then (if spl b s w 7 = 0 then (if spl b s w 8 = 0 then (if spl b s w 9 = 0 then (if spl b s w 10 = 0 then -1 else 4) else 3) else 2) else 1) else 0
set_option maxRecDepth 20000 in
theorem m_keyword (g : G0) (h : Hp) (hS : SX h) {s t : Nat} (ha : vi h (1, 0) 3 = nI t) (hs : vi h (1, 0) 4 = nI s) (hst : s ≤ t) (ht : t ≤ 300) : Mx g yX8_keywordKind wX8_keywordKind 5 [pR (1, 0)] h 0 0 (qE (some (pI (kwK (vi h (13, 0)) s (t - s)))) h) noX := by
  refine Mx.by kfX8_keywordKind rfl (by decide) (Nat.le_of_ble_eq_true rfl) ?_
  refine v_aload_n dX8_keywordKind_0 rfl ?_
  refine v_ldcS (j := 0) (tx := "put") dX8_keywordKind_1 (by decide) ?_
  refine v_invVE (m_spells g h hS (j := 0) (by decide) ha hs hst ht) dX8_keywordKind_3 cwX8_spells mlX8_63 (ob_1 _) rfl rfl (by decide) (by decide) (Nat.le_of_ble_eq_true rfl) ?_
  refine v_if_eq 11 dX8_keywordKind_6 (by decide) (fun c6 => ?_) (fun c6 => ?_)
  · refine v_aload_n dX8_keywordKind_11 rfl ?_
    refine v_ldcS (j := 1) (tx := "strike") dX8_keywordKind_12 (by decide) ?_
    refine v_invVE (m_spells g h hS (j := 1) (by decide) ha hs hst ht) dX8_keywordKind_14 cwX8_spells mlX8_63 (ob_1 _) rfl rfl (by decide) (by decide) (Nat.le_of_ble_eq_true rfl) ?_
    refine v_if_eq 23 dX8_keywordKind_17 (by decide) (fun c17 => ?_) (fun c17 => ?_)
    · refine v_aload_n dX8_keywordKind_23 rfl ?_
      refine v_ldcS (j := 2) (tx := "order") dX8_keywordKind_24 (by decide) ?_
      refine v_invVE (m_spells g h hS (j := 2) (by decide) ha hs hst ht) dX8_keywordKind_26 cwX8_spells mlX8_63 (ob_1 _) rfl rfl (by decide) (by decide) (Nat.le_of_ble_eq_true rfl) ?_
      refine v_if_eq 35 dX8_keywordKind_29 (by decide) (fun c29 => ?_) (fun c29 => ?_)
      · refine v_aload_n dX8_keywordKind_35 rfl ?_
        refine v_ldcS (j := 3) (tx := "or") dX8_keywordKind_36 (by decide) ?_
        refine v_invVE (m_spells g h hS (j := 3) (by decide) ha hs hst ht) dX8_keywordKind_38 cwX8_spells mlX8_63 (ob_1 _) rfl rfl (by decide) (by decide) (Nat.le_of_ble_eq_true rfl) ?_
        refine v_if_eq 47 dX8_keywordKind_41 (by decide) (fun c41 => ?_) (fun c41 => ?_)
        · refine v_aload_n dX8_keywordKind_47 rfl ?_
          refine v_ldcS (j := 4) (tx := "and") dX8_keywordKind_48 (by decide) ?_
          refine v_invVE (m_spells g h hS (j := 4) (by decide) ha hs hst ht) dX8_keywordKind_50 cwX8_spells mlX8_63 (ob_1 _) rfl rfl (by decide) (by decide) (Nat.le_of_ble_eq_true rfl) ?_
          refine v_if_eq 59 dX8_keywordKind_53 (by decide) (fun c53 => ?_) (fun c53 => ?_)
          · refine v_aload_n dX8_keywordKind_59 rfl ?_
            refine v_ldcS (j := 5) (tx := "not") dX8_keywordKind_60 (by decide) ?_
            refine v_invVE (m_spells g h hS (j := 5) (by decide) ha hs hst ht) dX8_keywordKind_62 cwX8_spells mlX8_63 (ob_1 _) rfl rfl (by decide) (by decide) (Nat.le_of_ble_eq_true rfl) ?_
            refine v_if_eq 73 dX8_keywordKind_65 (by decide) (fun c65 => ?_) (fun c65 => ?_)
            · refine v_iconst (3) dX8_keywordKind_73 (by decide) ?_
              refine v_ireturn dX8_keywordKind_74 rfl rfl ?_
              exact ⟨by simp only [kwK, if_pos c6, if_pos c17, if_pos c29, if_pos c41, if_pos c53, if_pos c65], rfl⟩
            · refine v_bipush (10) dX8_keywordKind_68 (by decide) ?_
              refine v_goto 74 dX8_keywordKind_70 (by decide) ?_
              refine v_ireturn dX8_keywordKind_74 rfl rfl ?_
              exact ⟨by simp only [kwK, if_pos c6, if_pos c17, if_pos c29, if_pos c41, if_pos c53, if_neg c65], rfl⟩
          · refine v_bipush (9) dX8_keywordKind_56 (by decide) ?_
            refine v_ireturn dX8_keywordKind_58 rfl rfl ?_
            exact ⟨by simp only [kwK, if_pos c6, if_pos c17, if_pos c29, if_pos c41, if_neg c53], rfl⟩
        · refine v_bipush (8) dX8_keywordKind_44 (by decide) ?_
          refine v_ireturn dX8_keywordKind_46 rfl rfl ?_
          exact ⟨by simp only [kwK, if_pos c6, if_pos c17, if_pos c29, if_neg c41], rfl⟩
      · refine v_bipush (7) dX8_keywordKind_32 (by decide) ?_
        refine v_ireturn dX8_keywordKind_34 rfl rfl ?_
        exact ⟨by simp only [kwK, if_pos c6, if_pos c17, if_neg c29], rfl⟩
    · refine v_bipush (6) dX8_keywordKind_20 (by decide) ?_
      refine v_ireturn dX8_keywordKind_22 rfl rfl ?_
      exact ⟨by simp only [kwK, if_pos c6, if_neg c17], rfl⟩
  · refine v_iconst (5) dX8_keywordKind_9 (by decide) ?_
    refine v_ireturn dX8_keywordKind_10 rfl rfl ?_
    exact ⟨by simp only [kwK, if_neg c6], rfl⟩
set_option maxRecDepth 20000 in
theorem m_nameNumber (g : G0) (h : Hp) (hS : SX h) {s t : Nat} (ha : vi h (1, 0) 3 = nI t) (hs : vi h (1, 0) 4 = nI s) (hst : s ≤ t) (ht : t ≤ 300) : Mx g yX8_nameNumber wX8_nameNumber 5 [pR (1, 0)] h 0 0 (qE (some (pI (kwN (vi h (13, 0)) s (t - s)))) h) noX := by
  refine Mx.by kfX8_nameNumber rfl (by decide) (Nat.le_of_ble_eq_true rfl) ?_
  refine v_aload_n dX8_nameNumber_0 rfl ?_
  refine v_ldcS (j := 6) (tx := "age") dX8_nameNumber_1 (by decide) ?_
  refine v_invVE (m_spells g h hS (j := 6) (by decide) ha hs hst ht) dX8_nameNumber_3 cwX8_spells mlX8_63 (ob_1 _) rfl rfl (by decide) (by decide) (Nat.le_of_ble_eq_true rfl) ?_
  refine v_if_eq 11 dX8_nameNumber_6 (by decide) (fun c6 => ?_) (fun c6 => ?_)
  · refine v_aload_n dX8_nameNumber_11 rfl ?_
    refine v_ldcS (j := 7) (tx := "years") dX8_nameNumber_12 (by decide) ?_
    refine v_invVE (m_spells g h hS (j := 7) (by decide) ha hs hst ht) dX8_nameNumber_14 cwX8_spells mlX8_63 (ob_1 _) rfl rfl (by decide) (by decide) (Nat.le_of_ble_eq_true rfl) ?_
    refine v_if_eq 22 dX8_nameNumber_17 (by decide) (fun c17 => ?_) (fun c17 => ?_)
    · refine v_aload_n dX8_nameNumber_22 rfl ?_
      refine v_ldcS (j := 8) (tx := "means") dX8_nameNumber_23 (by decide) ?_
      refine v_invVE (m_spells g h hS (j := 8) (by decide) ha hs hst ht) dX8_nameNumber_25 cwX8_spells mlX8_63 (ob_1 _) rfl rfl (by decide) (by decide) (Nat.le_of_ble_eq_true rfl) ?_
      refine v_if_eq 33 dX8_nameNumber_28 (by decide) (fun c28 => ?_) (fun c28 => ?_)
      · refine v_aload_n dX8_nameNumber_33 rfl ?_
        refine v_ldcS (j := 9) (tx := "kin") dX8_nameNumber_34 (by decide) ?_
        refine v_invVE (m_spells g h hS (j := 9) (by decide) ha hs hst ht) dX8_nameNumber_36 cwX8_spells mlX8_63 (ob_1 _) rfl rfl (by decide) (by decide) (Nat.le_of_ble_eq_true rfl) ?_
        refine v_if_eq 44 dX8_nameNumber_39 (by decide) (fun c39 => ?_) (fun c39 => ?_)
        · refine v_aload_n dX8_nameNumber_44 rfl ?_
          refine v_ldcS (j := 10) (tx := "waits") dX8_nameNumber_45 (by decide) ?_
          refine v_invVE (m_spells g h hS (j := 10) (by decide) ha hs hst ht) dX8_nameNumber_47 cwX8_spells mlX8_63 (ob_1 _) rfl rfl (by decide) (by decide) (Nat.le_of_ble_eq_true rfl) ?_
          refine v_if_eq 57 dX8_nameNumber_50 (by decide) (fun c50 => ?_) (fun c50 => ?_)
          · refine v_iconst (-1) dX8_nameNumber_57 (by decide) ?_
            refine v_ireturn dX8_nameNumber_58 rfl rfl ?_
            exact ⟨by simp only [kwN, if_pos c6, if_pos c17, if_pos c28, if_pos c39, if_pos c50], rfl⟩
          · refine v_iconst (4) dX8_nameNumber_53 (by decide) ?_
            refine v_goto 58 dX8_nameNumber_54 (by decide) ?_
            refine v_ireturn dX8_nameNumber_58 rfl rfl ?_
            exact ⟨by simp only [kwN, if_pos c6, if_pos c17, if_pos c28, if_pos c39, if_neg c50], rfl⟩
        · refine v_iconst (3) dX8_nameNumber_42 (by decide) ?_
          refine v_ireturn dX8_nameNumber_43 rfl rfl ?_
          exact ⟨by simp only [kwN, if_pos c6, if_pos c17, if_pos c28, if_neg c39], rfl⟩
      · refine v_iconst (2) dX8_nameNumber_31 (by decide) ?_
        refine v_ireturn dX8_nameNumber_32 rfl rfl ?_
        exact ⟨by simp only [kwN, if_pos c6, if_pos c17, if_neg c28], rfl⟩
    · refine v_iconst (1) dX8_nameNumber_20 (by decide) ?_
      refine v_ireturn dX8_nameNumber_21 rfl rfl ?_
      exact ⟨by simp only [kwN, if_pos c6, if_neg c17], rfl⟩
  · refine v_iconst (0) dX8_nameNumber_9 (by decide) ?_
    refine v_ireturn dX8_nameNumber_10 rfl rfl ?_
    exact ⟨by simp only [kwN, if_neg c6], rfl⟩
