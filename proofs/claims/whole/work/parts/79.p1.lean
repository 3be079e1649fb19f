/-! the reference's tape: its moving fields at 12, sort 13, place 14, mark 15, number 16, word (a long) 19 -/
def mt (h : Hp) (a s p m n : Int32) (w : Int64) : Hp := sL (sIs h (32, 0) (fun f => if f = 12 then a else if f = 13 then s else if f = 14 then p else if f = 15 then m else if f = 16 then n else vi h (32, 0) f)) (32, 0) 19 w
theorem mt_id (h : Hp) : mt h (vi h (32, 0) 12) (vi h (32, 0) 13) (vi h (32, 0) 14) (vi h (32, 0) 15) (vi h (32, 0) 16) (vl h (32, 0) 19) = h := by
  refine Prod.ext rfl (Prod.ext rfl (Prod.ext ?_ (Prod.ext ?_ rfl)))
  · funext b f
    show (if b = (32, 0) then _ else vi h b f) = vi h b f
    by_cases hb : b = (32, 0)
    · subst hb
      rw [if_pos rfl]
      by_cases h1 : f = 12
      · rw [if_pos h1, h1]
      · rw [if_neg h1]
        by_cases h2 : f = 13
        · rw [if_pos h2, h2]
        · rw [if_neg h2]
          by_cases h3 : f = 14
          · rw [if_pos h3, h3]
          · rw [if_neg h3]
            by_cases h4 : f = 15
            · rw [if_pos h4, h4]
            · rw [if_neg h4]
              by_cases h5 : f = 16
              · rw [if_pos h5, h5]
              · rw [if_neg h5]
    · rw [if_neg hb]
  · funext b f
    show (if b = (32, 0) ∧ f = 19 then vl h (32, 0) 19 else vl h b f) = vl h b f
    by_cases hb : b = (32, 0) ∧ f = 19
    · rw [if_pos hb, hb.1, hb.2]
    · rw [if_neg hb]
theorem mt_o (h : Hp) (a s p m n : Int32) (w : Int64) {b : Ad} (f : Nat) (hb : b ≠ (32, 0)) : vi (mt h a s p m n w) b f = vi h b f := by
  show (if b = (32, 0) then _ else vi h b f) = vi h b f
  rw [if_neg hb]
theorem mt_f (h : Hp) (a s p m n : Int32) (w : Int64) (f : Nat) (hf : f ≠ 12 ∧ f ≠ 13 ∧ f ≠ 14 ∧ f ≠ 15 ∧ f ≠ 16) : vi (mt h a s p m n w) (32, 0) f = vi h (32, 0) f := by
  show (if ((32, 0) : Ad) = (32, 0) then (if f = 12 then a else if f = 13 then s else if f = 14 then p else if f = 15 then m else if f = 16 then n else vi h (32, 0) f) else vi h (32, 0) f) = vi h (32, 0) f
  rw [if_pos rfl, if_neg hf.1, if_neg hf.2.1, if_neg hf.2.2.1, if_neg hf.2.2.2.1, if_neg hf.2.2.2.2]
theorem mt_w (h : Hp) (a s p m n : Int32) (w x : Int64) : sL (mt h a s p m n w) (32, 0) 19 x = mt h a s p m n x := by
  refine Prod.ext rfl (Prod.ext rfl (Prod.ext rfl (Prod.ext ?_ rfl)))
  funext b f
  show (if b = (32, 0) ∧ f = 19 then x else if b = (32, 0) ∧ f = 19 then w else vl h b f) = if b = (32, 0) ∧ f = 19 then x else vl h b f
  by_cases hb : b = (32, 0) ∧ f = 19
  · rw [if_pos hb, if_pos hb]
  · rw [if_neg hb, if_neg hb, if_neg hb]
theorem mt_19 (h : Hp) (a s p m n : Int32) (w : Int64) : vl (mt h a s p m n w) (32, 0) 19 = w := rfl
theorem mt_12 (h : Hp) (a s p m n : Int32) (w : Int64) : vi (mt h a s p m n w) (32, 0) 12 = a := rfl
theorem mt_s12 (h : Hp) (a s p m n : Int32) (w : Int64) (x : Int32) : sI (mt h a s p m n w) (32, 0) 12 x = mt h x s p m n w := by
  refine Prod.ext rfl (Prod.ext rfl (Prod.ext ?_ rfl))
  funext b f
  show (if b = (32, 0) ∧ f = 12 then x else if b = (32, 0) then _ else vi h b f) = if b = (32, 0) then _ else vi h b f
  by_cases hb : b = (32, 0)
  · rw [if_pos hb, if_pos hb]
    by_cases hf : f = 12
    · rw [if_pos ⟨hb, hf⟩, hf]; rfl
    · rw [if_neg (fun z => hf z.2)]
      rw [if_neg hf, if_neg hf]
  · rw [if_neg (fun z => hb z.1), if_neg hb, if_neg hb]
theorem mt_13 (h : Hp) (a s p m n : Int32) (w : Int64) : vi (mt h a s p m n w) (32, 0) 13 = s := rfl
theorem mt_s13 (h : Hp) (a s p m n : Int32) (w : Int64) (x : Int32) : sI (mt h a s p m n w) (32, 0) 13 x = mt h a x p m n w := by
  refine Prod.ext rfl (Prod.ext rfl (Prod.ext ?_ rfl))
  funext b f
  show (if b = (32, 0) ∧ f = 13 then x else if b = (32, 0) then _ else vi h b f) = if b = (32, 0) then _ else vi h b f
  by_cases hb : b = (32, 0)
  · rw [if_pos hb, if_pos hb]
    by_cases hf : f = 13
    · rw [if_pos ⟨hb, hf⟩, hf]; rfl
    · rw [if_neg (fun z => hf z.2)]
      by_cases h12 : f = 12
      · rw [if_pos h12, if_pos h12]
      · rw [if_neg h12, if_neg h12]
        rw [if_neg hf, if_neg hf]
  · rw [if_neg (fun z => hb z.1), if_neg hb, if_neg hb]
theorem mt_14 (h : Hp) (a s p m n : Int32) (w : Int64) : vi (mt h a s p m n w) (32, 0) 14 = p := rfl
theorem mt_s14 (h : Hp) (a s p m n : Int32) (w : Int64) (x : Int32) : sI (mt h a s p m n w) (32, 0) 14 x = mt h a s x m n w := by
  refine Prod.ext rfl (Prod.ext rfl (Prod.ext ?_ rfl))
  funext b f
  show (if b = (32, 0) ∧ f = 14 then x else if b = (32, 0) then _ else vi h b f) = if b = (32, 0) then _ else vi h b f
  by_cases hb : b = (32, 0)
  · rw [if_pos hb, if_pos hb]
    by_cases hf : f = 14
    · rw [if_pos ⟨hb, hf⟩, hf]; rfl
    · rw [if_neg (fun z => hf z.2)]
      by_cases h12 : f = 12
      · rw [if_pos h12, if_pos h12]
      · rw [if_neg h12, if_neg h12]
        by_cases h13 : f = 13
        · rw [if_pos h13, if_pos h13]
        · rw [if_neg h13, if_neg h13]
          rw [if_neg hf, if_neg hf]
  · rw [if_neg (fun z => hb z.1), if_neg hb, if_neg hb]
theorem mt_15 (h : Hp) (a s p m n : Int32) (w : Int64) : vi (mt h a s p m n w) (32, 0) 15 = m := rfl
theorem mt_s15 (h : Hp) (a s p m n : Int32) (w : Int64) (x : Int32) : sI (mt h a s p m n w) (32, 0) 15 x = mt h a s p x n w := by
  refine Prod.ext rfl (Prod.ext rfl (Prod.ext ?_ rfl))
  funext b f
  show (if b = (32, 0) ∧ f = 15 then x else if b = (32, 0) then _ else vi h b f) = if b = (32, 0) then _ else vi h b f
  by_cases hb : b = (32, 0)
  · rw [if_pos hb, if_pos hb]
    by_cases hf : f = 15
    · rw [if_pos ⟨hb, hf⟩, hf]; rfl
    · rw [if_neg (fun z => hf z.2)]
      by_cases h12 : f = 12
      · rw [if_pos h12, if_pos h12]
      · rw [if_neg h12, if_neg h12]
        by_cases h13 : f = 13
        · rw [if_pos h13, if_pos h13]
        · rw [if_neg h13, if_neg h13]
          by_cases h14 : f = 14
          · rw [if_pos h14, if_pos h14]
          · rw [if_neg h14, if_neg h14]
            rw [if_neg hf, if_neg hf]
  · rw [if_neg (fun z => hb z.1), if_neg hb, if_neg hb]
theorem mt_16 (h : Hp) (a s p m n : Int32) (w : Int64) : vi (mt h a s p m n w) (32, 0) 16 = n := rfl
theorem mt_s16 (h : Hp) (a s p m n : Int32) (w : Int64) (x : Int32) : sI (mt h a s p m n w) (32, 0) 16 x = mt h a s p m x w := by
  refine Prod.ext rfl (Prod.ext rfl (Prod.ext ?_ rfl))
  funext b f
  show (if b = (32, 0) ∧ f = 16 then x else if b = (32, 0) then _ else vi h b f) = if b = (32, 0) then _ else vi h b f
  by_cases hb : b = (32, 0)
  · rw [if_pos hb, if_pos hb]
    by_cases hf : f = 16
    · rw [if_pos ⟨hb, hf⟩, hf]; rfl
    · rw [if_neg (fun z => hf z.2)]
      by_cases h12 : f = 12
      · rw [if_pos h12, if_pos h12]
      · rw [if_neg h12, if_neg h12]
        by_cases h13 : f = 13
        · rw [if_pos h13, if_pos h13]
        · rw [if_neg h13, if_neg h13]
          by_cases h14 : f = 14
          · rw [if_pos h14, if_pos h14]
          · rw [if_neg h14, if_neg h14]
            by_cases h15 : f = 15
            · rw [if_pos h15, if_pos h15]
            · rw [if_neg h15, if_neg h15]
              rw [if_neg hf, if_neg hf]
  · rw [if_neg (fun z => hb z.1), if_neg hb, if_neg hb]
def mb (h : Hp) (i : Nat) : Int32 := vi h (37, 0) i &&& 255
theorem mb_mt (h : Hp) (a s p m n : Int32) (w : Int64) : mb (mt h a s p m n w) = mb h := by funext i; unfold mb; rw [mt_o _ _ _ _ _ _ _ _ (by decide)]
def rbt (b : Nat → Int32) (e q : Nat) : Int32 := if nI e ≤ nI q then -1 else b q
set_option maxRecDepth 20000 in
theorem M_byteAt (g : G0) (h : Hp) (hM : SM h) {e q : Nat} (he : vi h (32, 0) 11 = nI e) (he3 : e ≤ 300) (hq : q ≤ e) : Mx g yX14_byteAt wX14_byteAt 0 [pR (32, 0), pI (nI q)] h 0 0 (qE (some (pI (rbt (mb h) e q))) h) noX := by
  refine Mx.by kfX14_byteAt rfl (by decide) (Nat.le_of_ble_eq_true rfl) ?_
  refine v_iload_n dX14_byteAt_0 rfl ?_
  refine v_aload_n dX14_byteAt_1 rfl ?_
  refine v_getI fl_X14_135 dX14_byteAt_2 rfl rfl (Nat.le_of_ble_eq_true rfl) (mh_32_0 hM) ?_
  rw [he]
  refine v_icmp_ge 21 dX14_byteAt_5 (by decide) (fun c5 => ?_) (fun c5 => ?_)
  · refine v_iconst (-1) dX14_byteAt_21 (by decide) ?_
    refine v_ireturn dX14_byteAt_22 rfl rfl ?_
    exact ⟨by simp only [rbt, mb, if_pos c5], rfl⟩
  · refine v_aload_n dX14_byteAt_8 rfl ?_
    refine v_getR (some (37, 0)) fl_X14_31 dX14_byteAt_9 rfl rfl (Nat.le_of_ble_eq_true rfl) (mh_32_0 hM) (mr_32_0_9 hM) ?_
    refine v_iload_n dX14_byteAt_12 rfl ?_
    refine v_bald dX14_byteAt_13 rfl (Nat.le_of_ble_eq_true rfl) (mh_37_0 hM) (by rw [ml_37_0 hM]; exact vp_in_nI (by have : ¬ e ≤ q := fun z => c5 (nI_le z (by omega)); omega) (by decide)) ?_
    rw [nI_clamp (by omega)]
    refine v_sipush (255) dX14_byteAt_14 (by decide) ?_
    refine v_iand dX14_byteAt_17 ?_
    refine v_goto 22 dX14_byteAt_18 (by decide) ?_
    refine v_ireturn dX14_byteAt_22 rfl rfl ?_
    exact ⟨by simp only [rbt, mb, if_neg c5], rfl⟩
set_option maxRecDepth 20000 in
theorem M_isLetter (g : G0) (h : Hp) {c : Int32} : Mx g yX14_isLetter wX14_isLetter 0 [pI c] h 0 0 (qE (some (pI (xLet c))) h) noX := by
  refine Mx.by kfX14_isLetter rfl (by decide) (Nat.le_of_ble_eq_true rfl) ?_
  refine v_iload_n dX14_isLetter_0 rfl ?_
  refine v_bipush (97) dX14_isLetter_1 (by decide) ?_
  refine v_icmp_lt 16 dX14_isLetter_3 (by decide) (fun c3 => ?_) (fun c3 => ?_)
  · refine v_iconst (0) dX14_isLetter_16 (by decide) ?_
    refine v_ireturn dX14_isLetter_17 rfl rfl ?_
    exact ⟨by simp only [xLet, if_pos c3], rfl⟩
  · refine v_iload_n dX14_isLetter_6 rfl ?_
    refine v_bipush (122) dX14_isLetter_7 (by decide) ?_
    refine v_icmp_gt 16 dX14_isLetter_9 (by decide) (fun c9 => ?_) (fun c9 => ?_)
    · refine v_iconst (0) dX14_isLetter_16 (by decide) ?_
      refine v_ireturn dX14_isLetter_17 rfl rfl ?_
      exact ⟨by simp only [xLet, if_neg c3, if_pos c9], rfl⟩
    · refine v_iconst (1) dX14_isLetter_12 (by decide) ?_
      refine v_goto 17 dX14_isLetter_13 (by decide) ?_
      refine v_ireturn dX14_isLetter_17 rfl rfl ?_
      exact ⟨by simp only [xLet, if_neg c3, if_neg c9], rfl⟩
set_option maxRecDepth 20000 in
theorem M_isDigit (g : G0) (h : Hp) {c : Int32} : Mx g yX14_isDigit wX14_isDigit 0 [pI c] h 0 0 (qE (some (pI (xDig c))) h) noX := by
  refine Mx.by kfX14_isDigit rfl (by decide) (Nat.le_of_ble_eq_true rfl) ?_
  refine v_iload_n dX14_isDigit_0 rfl ?_
  refine v_bipush (48) dX14_isDigit_1 (by decide) ?_
  refine v_icmp_lt 16 dX14_isDigit_3 (by decide) (fun c3 => ?_) (fun c3 => ?_)
  · refine v_iconst (0) dX14_isDigit_16 (by decide) ?_
    refine v_ireturn dX14_isDigit_17 rfl rfl ?_
    exact ⟨by simp only [xDig, if_pos c3], rfl⟩
  · refine v_iload_n dX14_isDigit_6 rfl ?_
    refine v_bipush (57) dX14_isDigit_7 (by decide) ?_
    refine v_icmp_gt 16 dX14_isDigit_9 (by decide) (fun c9 => ?_) (fun c9 => ?_)
    · refine v_iconst (0) dX14_isDigit_16 (by decide) ?_
      refine v_ireturn dX14_isDigit_17 rfl rfl ?_
      exact ⟨by simp only [xDig, if_neg c3, if_pos c9], rfl⟩
    · refine v_iconst (1) dX14_isDigit_12 (by decide) ?_
      refine v_goto 17 dX14_isDigit_13 (by decide) ?_
      refine v_ireturn dX14_isDigit_17 rfl rfl ?_
      exact ⟨by simp only [xDig, if_neg c3, if_neg c9], rfl⟩
theorem mt_11 (h : Hp) (a s p m n : Int32) (w : Int64) : vi (mt h a s p m n w) (32, 0) 11 = vi h (32, 0) 11 := rfl
set_option maxRecDepth 20000 in
theorem M_nx1 (g : G0) (h : Hp) (hM : SM h) {e : Nat} (he : vi h (32, 0) 11 = nI e) (he3 : e ≤ 300) {s p m n : Int32} {w : Int64} {Q : Option PV → Hp → Prop} {E : EP} : ∀ (j q : Nat), q + j = e → V g kfX14_next 1 0 0 26 [(0, pR (32, 0))] [] (mt h (nI (skp (mb h) j q)) s p m n w) Q E → V g kfX14_next 1 0 0 0 [(0, pR (32, 0))] [] (mt h (nI q) s p m n w) Q E := by
  intro j
  induction j with
  | zero =>
    intro q hij K
    have hq : q ≤ e := by omega
    have he2 : vi (mt h (nI q) s p m n w) (32, 0) 11 = nI e := he
    have eb : rbt (mb h) e q = -1 := by rw [rbt, if_pos (nI_le (by omega) (by omega))]
    refine v_aload_n dX14_next_0 rfl ?_
    refine v_aload_n dX14_next_1 rfl ?_
    refine v_getI fl_X14_150 dX14_next_2 rfl rfl (Nat.le_of_ble_eq_true rfl) (mh_32_0 hM) ?_
    rw [mt_12]
    refine v_invVE (M_byteAt g (mt h (nI q) s p m n w) hM (e := e) (q := q) he2 he3 hq) dX14_next_5 cwX14_byteAt mlX14_153 (ob_32 _) rfl rfl (by decide) (by decide) (Nat.le_of_ble_eq_true rfl) ?_
    rw [mb_mt, eb]
    refine v_bipush (32) dX14_next_8 (by decide) ?_
    refine v_icmp_ne 26 dX14_next_10 (by decide) (fun _ => ?_) (fun z => absurd z (by decide))
    exact K
  | succ j ih =>
    intro q hij K
    have hq : q ≤ e := by omega
    have he2 : vi (mt h (nI q) s p m n w) (32, 0) 11 = nI e := he
    have eb : rbt (mb h) e q = mb h q := by rw [rbt, if_neg (nI_ge (by omega) (by omega))]
    refine v_aload_n dX14_next_0 rfl ?_
    refine v_aload_n dX14_next_1 rfl ?_
    refine v_getI fl_X14_150 dX14_next_2 rfl rfl (Nat.le_of_ble_eq_true rfl) (mh_32_0 hM) ?_
    rw [mt_12]
    refine v_invVE (M_byteAt g (mt h (nI q) s p m n w) hM (e := e) (q := q) he2 he3 hq) dX14_next_5 cwX14_byteAt mlX14_153 (ob_32 _) rfl rfl (by decide) (by decide) (Nat.le_of_ble_eq_true rfl) ?_
    rw [mb_mt, eb]
    refine v_bipush (32) dX14_next_8 (by decide) ?_
    refine v_icmp_ne 26 dX14_next_10 (by decide) (fun c10 => ?_) (fun c10 => ?_)
    · rw [skp, if_neg c10] at K
      exact K
    · refine v_aload_n dX14_next_13 rfl ?_
      refine v_dup dX14_next_14 rfl ?_
      refine v_getI fl_X14_150 dX14_next_15 rfl rfl (Nat.le_of_ble_eq_true rfl) (mh_32_0 hM) ?_
      rw [mt_12]
      refine v_iconst (1) dX14_next_18 (by decide) ?_
      refine v_iadd dX14_next_19 ?_
      refine v_putI fl_X14_150 (fun z => by cases z) dX14_next_20 rfl rfl (Nat.le_of_ble_eq_true rfl) rfl rfl (mh_32_0 hM) ?_
      rw [mt_s12, nI_1]
      refine v_goto 0 dX14_next_23 (by decide) ?_
      rw [skp, if_pos c10] at K
      exact ih (q + 1) (by omega) K
def wdL (b : Nat → Int32) : Nat → Nat → Nat → Int64 → Nat × Nat × Int64
  | 0, q, c, w => (q, c, w)
  | j + 1, q, c, w => if xLet (b q) = 0 then (q, c, w) else wdL b j (q + 1) (c + 1) (if 8 ≤ nI c then w else 32 * w + (b q - 97 + 1).toInt64)
def nmL (b : Nat → Int32) : Nat → Nat → Nat → Int32 → Nat × Nat × Int32
  | 0, q, c, v => (q, c, v)
  | j + 1, q, c, v => if xDig (b q) = 0 then (q, c, v) else nmL b j (q + 1) (c + 1) (if 4 ≤ nI c then v else 10 * v + b q - 48)
set_option maxRecDepth 20000 in
theorem M_nx2 (g : G0) (h : Hp) (hM : SM h) {e : Nat} (he : vi h (32, 0) 11 = nI e) (he3 : e ≤ 300) {s p m n cc : Int32} {Q : Option PV → Hp → Prop} {E : EP} : ∀ (j q c : Nat) (x : Int32) (w : Int64), q + j = e → x = nI c → V g kfX14_next 1 0 0 143 [(0, pR (32, 0)), (1, pI cc), (2, pI (nI (wdL (mb h) j q c w).2.1))] [] (mt h (nI (wdL (mb h) j q c w).1) s p m n (wdL (mb h) j q c w).2.2) Q E → V g kfX14_next 1 0 0 80 [(0, pR (32, 0)), (1, pI cc), (2, pI x)] [] (mt h (nI q) s p m n w) Q E := by
  intro j
  induction j with
  | zero =>
    intro q c x w hij hx K
    subst hx
    have hq : q ≤ e := by omega
    have he2 : vi (mt h (nI q) s p m n w) (32, 0) 11 = nI e := he
    have eb : rbt (mb h) e q = -1 := by rw [rbt, if_pos (nI_le (by omega) (by omega))]
    refine v_aload_n dX14_next_80 rfl ?_
    refine v_aload_n dX14_next_81 rfl ?_
    refine v_getI fl_X14_150 dX14_next_82 rfl rfl (Nat.le_of_ble_eq_true rfl) (mh_32_0 hM) ?_
    rw [mt_12]
    refine v_invVE (M_byteAt g (mt h (nI q) s p m n w) hM (e := e) (q := q) he2 he3 hq) dX14_next_85 cwX14_byteAt mlX14_153 (ob_32 _) rfl rfl (by decide) (by decide) (Nat.le_of_ble_eq_true rfl) ?_
    rw [mb_mt, eb]
    refine v_invSE (M_isLetter g _) dX14_next_88 cwX14_isLetter mlX14_162 rfl rfl (by decide) (by decide) (Nat.le_of_ble_eq_true rfl) ?_
    refine v_if_eq 143 dX14_next_91 (by decide) (fun _ => ?_) (fun z => absurd (by decide) z)
    exact K
  | succ j ih =>
    intro q c x w hij hx K
    subst hx
    have hq : q ≤ e := by omega
    have he2 : vi (mt h (nI q) s p m n w) (32, 0) 11 = nI e := he
    have eb : rbt (mb h) e q = mb h q := by rw [rbt, if_neg (nI_ge (by omega) (by omega))]
    refine v_aload_n dX14_next_80 rfl ?_
    refine v_aload_n dX14_next_81 rfl ?_
    refine v_getI fl_X14_150 dX14_next_82 rfl rfl (Nat.le_of_ble_eq_true rfl) (mh_32_0 hM) ?_
    rw [mt_12]
    refine v_invVE (M_byteAt g (mt h (nI q) s p m n w) hM (e := e) (q := q) he2 he3 hq) dX14_next_85 cwX14_byteAt mlX14_153 (ob_32 _) rfl rfl (by decide) (by decide) (Nat.le_of_ble_eq_true rfl) ?_
    rw [mb_mt, eb]
    refine v_invSE (M_isLetter g _) dX14_next_88 cwX14_isLetter mlX14_162 rfl rfl (by decide) (by decide) (Nat.le_of_ble_eq_true rfl) ?_
    refine v_if_eq 143 dX14_next_91 (by decide) (fun c91 => ?_) (fun c91 => ?_)
    · rw [wdL, if_pos c91] at K
      exact K
    · refine v_iload_n dX14_next_94 rfl ?_
      refine v_bipush (8) dX14_next_95 (by decide) ?_
      refine v_icmp_ge 127 dX14_next_97 (by decide) (fun c97 => ?_) (fun c97 => ?_)
      · refine v_iinc _ dX14_next_127 rfl rfl (by decide) ?_
        refine v_aload_n dX14_next_130 rfl ?_
        refine v_dup dX14_next_131 rfl ?_
        refine v_getI fl_X14_150 dX14_next_132 rfl rfl (Nat.le_of_ble_eq_true rfl) (mh_32_0 hM) ?_
        rw [mt_12]
        refine v_iconst (1) dX14_next_135 (by decide) ?_
        refine v_iadd dX14_next_136 ?_
        refine v_putI fl_X14_150 (fun z => by cases z) dX14_next_137 rfl rfl (Nat.le_of_ble_eq_true rfl) rfl rfl (mh_32_0 hM) ?_
        rw [mt_s12, nI_1]
        refine v_goto 80 dX14_next_140 (by decide) ?_
        rw [wdL, if_neg c91, if_pos c97] at K
        refine v_loc [(0, pR (32, 0)), (1, pI cc), (2, pI (nI c + 1))] rfl ?_
        exact ih (q + 1) (c + 1) _ _ (by omega) (nI_1 c) K
      · refine v_aload_n dX14_next_100 rfl ?_
        refine v_ldc2 (32) dX14_next_101 ctX14_144 ?_
        refine v_aload_n dX14_next_104 rfl ?_
        refine v_getL fl_X14_166 dX14_next_105 rfl rfl (Nat.le_of_ble_eq_true rfl) (mh_32_0 hM) ?_
        rw [mt_19]
        refine v_lmul dX14_next_108 ?_
        refine v_aload_n dX14_next_109 rfl ?_
        refine v_aload_n dX14_next_110 rfl ?_
        refine v_getI fl_X14_150 dX14_next_111 rfl rfl (Nat.le_of_ble_eq_true rfl) (mh_32_0 hM) ?_
        rw [mt_12]
        refine v_invVE (M_byteAt g (mt h (nI q) s p m n w) hM (e := e) (q := q) he2 he3 hq) dX14_next_114 cwX14_byteAt mlX14_153 (ob_32 _) rfl rfl (by decide) (by decide) (Nat.le_of_ble_eq_true rfl) ?_
        rw [mb_mt, eb]
        refine v_bipush (97) dX14_next_117 (by decide) ?_
        refine v_isub dX14_next_119 ?_
        refine v_iconst (1) dX14_next_120 (by decide) ?_
        refine v_iadd dX14_next_121 ?_
        refine v_i2l dX14_next_122 ?_
        refine v_ladd dX14_next_123 ?_
        refine v_putL fl_X14_166 (fun z => by cases z) dX14_next_124 rfl rfl (Nat.le_of_ble_eq_true rfl) (mh_32_0 hM) ?_
        rw [mt_w]
        refine v_iinc _ dX14_next_127 rfl rfl (by decide) ?_
        refine v_aload_n dX14_next_130 rfl ?_
        refine v_dup dX14_next_131 rfl ?_
        refine v_getI fl_X14_150 dX14_next_132 rfl rfl (Nat.le_of_ble_eq_true rfl) (mh_32_0 hM) ?_
        rw [mt_12]
        refine v_iconst (1) dX14_next_135 (by decide) ?_
        refine v_iadd dX14_next_136 ?_
        refine v_putI fl_X14_150 (fun z => by cases z) dX14_next_137 rfl rfl (Nat.le_of_ble_eq_true rfl) rfl rfl (mh_32_0 hM) ?_
        rw [mt_s12, nI_1]
        refine v_goto 80 dX14_next_140 (by decide) ?_
        rw [wdL, if_neg c91, if_neg c97] at K
        refine v_loc [(0, pR (32, 0)), (1, pI cc), (2, pI (nI c + 1))] rfl ?_
        exact ih (q + 1) (c + 1) _ _ (by omega) (nI_1 c) K
set_option maxRecDepth 20000 in
theorem M_nx3 (g : G0) (h : Hp) (hM : SM h) {e : Nat} (he : vi h (32, 0) 11 = nI e) (he3 : e ≤ 300) {s p m cc : Int32} {w : Int64} {Q : Option PV → Hp → Prop} {E : EP} : ∀ (j q c : Nat) (x n : Int32), q + j = e → x = nI c → V g kfX14_next 1 0 0 227 [(0, pR (32, 0)), (1, pI cc), (2, pI (nI (nmL (mb h) j q c n).2.1))] [] (mt h (nI (nmL (mb h) j q c n).1) s p m (nmL (mb h) j q c n).2.2 w) Q E → V g kfX14_next 1 0 0 169 [(0, pR (32, 0)), (1, pI cc), (2, pI x)] [] (mt h (nI q) s p m n w) Q E := by
  intro j
  induction j with
  | zero =>
    intro q c x n hij hx K
    subst hx
    have hq : q ≤ e := by omega
    have he2 : vi (mt h (nI q) s p m n w) (32, 0) 11 = nI e := he
    have eb : rbt (mb h) e q = -1 := by rw [rbt, if_pos (nI_le (by omega) (by omega))]
    refine v_aload_n dX14_next_169 rfl ?_
    refine v_aload_n dX14_next_170 rfl ?_
    refine v_getI fl_X14_150 dX14_next_171 rfl rfl (Nat.le_of_ble_eq_true rfl) (mh_32_0 hM) ?_
    rw [mt_12]
    refine v_invVE (M_byteAt g (mt h (nI q) s p m n w) hM (e := e) (q := q) he2 he3 hq) dX14_next_174 cwX14_byteAt mlX14_153 (ob_32 _) rfl rfl (by decide) (by decide) (Nat.le_of_ble_eq_true rfl) ?_
    rw [mb_mt, eb]
    refine v_invSE (M_isDigit g _) dX14_next_177 cwX14_isDigit mlX14_170 rfl rfl (by decide) (by decide) (Nat.le_of_ble_eq_true rfl) ?_
    refine v_if_eq 227 dX14_next_180 (by decide) (fun _ => ?_) (fun z => absurd (by decide) z)
    exact K
  | succ j ih =>
    intro q c x n hij hx K
    subst hx
    have hq : q ≤ e := by omega
    have he2 : vi (mt h (nI q) s p m n w) (32, 0) 11 = nI e := he
    have eb : rbt (mb h) e q = mb h q := by rw [rbt, if_neg (nI_ge (by omega) (by omega))]
    refine v_aload_n dX14_next_169 rfl ?_
    refine v_aload_n dX14_next_170 rfl ?_
    refine v_getI fl_X14_150 dX14_next_171 rfl rfl (Nat.le_of_ble_eq_true rfl) (mh_32_0 hM) ?_
    rw [mt_12]
    refine v_invVE (M_byteAt g (mt h (nI q) s p m n w) hM (e := e) (q := q) he2 he3 hq) dX14_next_174 cwX14_byteAt mlX14_153 (ob_32 _) rfl rfl (by decide) (by decide) (Nat.le_of_ble_eq_true rfl) ?_
    rw [mb_mt, eb]
    refine v_invSE (M_isDigit g _) dX14_next_177 cwX14_isDigit mlX14_170 rfl rfl (by decide) (by decide) (Nat.le_of_ble_eq_true rfl) ?_
    refine v_if_eq 227 dX14_next_180 (by decide) (fun c180 => ?_) (fun c180 => ?_)
    · rw [nmL, if_pos c180] at K
      exact K
    · refine v_iload_n dX14_next_183 rfl ?_
      refine v_iconst (4) dX14_next_184 (by decide) ?_
      refine v_icmp_ge 211 dX14_next_185 (by decide) (fun c185 => ?_) (fun c185 => ?_)
      · refine v_iinc _ dX14_next_211 rfl rfl (by decide) ?_
        refine v_aload_n dX14_next_214 rfl ?_
        refine v_dup dX14_next_215 rfl ?_
        refine v_getI fl_X14_150 dX14_next_216 rfl rfl (Nat.le_of_ble_eq_true rfl) (mh_32_0 hM) ?_
        rw [mt_12]
        refine v_iconst (1) dX14_next_219 (by decide) ?_
        refine v_iadd dX14_next_220 ?_
        refine v_putI fl_X14_150 (fun z => by cases z) dX14_next_221 rfl rfl (Nat.le_of_ble_eq_true rfl) rfl rfl (mh_32_0 hM) ?_
        rw [mt_s12, nI_1]
        refine v_goto 169 dX14_next_224 (by decide) ?_
        rw [nmL, if_neg c180, if_pos c185] at K
        refine v_loc [(0, pR (32, 0)), (1, pI cc), (2, pI (nI c + 1))] rfl ?_
        exact ih (q + 1) (c + 1) _ _ (by omega) (nI_1 c) K
      · refine v_aload_n dX14_next_188 rfl ?_
        refine v_bipush (10) dX14_next_189 (by decide) ?_
        refine v_aload_n dX14_next_191 rfl ?_
        refine v_getI fl_X14_173 dX14_next_192 rfl rfl (Nat.le_of_ble_eq_true rfl) (mh_32_0 hM) ?_
        rw [mt_16]
        refine v_imul dX14_next_195 ?_
        refine v_aload_n dX14_next_196 rfl ?_
        refine v_aload_n dX14_next_197 rfl ?_
        refine v_getI fl_X14_150 dX14_next_198 rfl rfl (Nat.le_of_ble_eq_true rfl) (mh_32_0 hM) ?_
        rw [mt_12]
        refine v_invVE (M_byteAt g (mt h (nI q) s p m n w) hM (e := e) (q := q) he2 he3 hq) dX14_next_201 cwX14_byteAt mlX14_153 (ob_32 _) rfl rfl (by decide) (by decide) (Nat.le_of_ble_eq_true rfl) ?_
        rw [mb_mt, eb]
        refine v_iadd dX14_next_204 ?_
        refine v_bipush (48) dX14_next_205 (by decide) ?_
        refine v_isub dX14_next_207 ?_
        refine v_putI fl_X14_173 (fun z => by cases z) dX14_next_208 rfl rfl (Nat.le_of_ble_eq_true rfl) rfl rfl (mh_32_0 hM) ?_
        rw [mt_s16]
        refine v_iinc _ dX14_next_211 rfl rfl (by decide) ?_
        refine v_aload_n dX14_next_214 rfl ?_
        refine v_dup dX14_next_215 rfl ?_
        refine v_getI fl_X14_150 dX14_next_216 rfl rfl (Nat.le_of_ble_eq_true rfl) (mh_32_0 hM) ?_
        rw [mt_12]
        refine v_iconst (1) dX14_next_219 (by decide) ?_
        refine v_iadd dX14_next_220 ?_
        refine v_putI fl_X14_150 (fun z => by cases z) dX14_next_221 rfl rfl (Nat.le_of_ble_eq_true rfl) rfl rfl (mh_32_0 hM) ?_
        rw [mt_s12, nI_1]
        refine v_goto 169 dX14_next_224 (by decide) ?_
        rw [nmL, if_neg c180, if_neg c185] at K
        refine v_loc [(0, pR (32, 0)), (1, pI cc), (2, pI (nI c + 1))] rfl ?_
        exact ih (q + 1) (c + 1) _ _ (by omega) (nI_1 c) K
def mSgn (c : Int32) : Prop := c = 60 ∨ c = 62 ∨ c = 61 ∨ c = 40 ∨ c = 41 ∨ c = 43 ∨ c = 42 ∨ c = 59
/-- what next() leaves, from the first byte that is no blank: at, sort, mark, number, word -/
def mTk (b : Nat → Int32) (e s : Nat) (n : Int32) (w : Int64) : Nat × Int32 × Int32 × Int32 × Int64 :=
  if nI e ≤ nI s then (s, 1, 0, n, w)
  else if xLet (b s) = 0 then
    (if xDig (b s) = 0 then
      (if b s = 60 then (s + 1, 4, b s, n, w) else if b s = 62 then (s + 1, 4, b s, n, w) else if b s = 61 then (s + 1, 4, b s, n, w) else if b s = 40 then (s + 1, 4, b s, n, w) else if b s = 41 then (s + 1, 4, b s, n, w) else if b s = 43 then (s + 1, 4, b s, n, w) else if b s = 42 then (s + 1, 4, b s, n, w) else if b s = 59 then (s + 1, 4, b s, n, w) else (s, 0, 0, n, w))
     else ((nmL b (e - s) s 0 0).1, if 5 ≤ nI (nmL b (e - s) s 0 0).2.1 then 0 else 3, 0, (nmL b (e - s) s 0 0).2.2, w))
  else ((wdL b (e - s) s 0 0).1, if 9 ≤ nI (wdL b (e - s) s 0 0).2.1 then 0 else 2, 0, n, (wdL b (e - s) s 0 0).2.2)
def mtH (h : Hp) (s : Nat) (t : Nat × Int32 × Int32 × Int32 × Int64) : Hp := mt h (nI t.1) t.2.1 (nI s) t.2.2.1 t.2.2.2.1 t.2.2.2.2
set_option maxRecDepth 20000 in
theorem M_nx4 (g : G0) (h : Hp) (hM : SM h) {e q : Nat} (he : vi h (32, 0) 11 = nI e) (he3 : e ≤ 300) (hq : q ≤ e) (hb : q < e → ¬ mb h q < 0) {s p m n : Int32} {w : Int64} : V g kfX14_next 1 0 0 26 [(0, pR (32, 0))] [] (mt h (nI q) s p m n w) (qE none (mtH h q (mTk (mb h) e q n w))) (fun _ _ a h' => noX a h') := by
  have he2 : vi (mt h (nI q) 0 (nI q) 0 n w) (32, 0) 11 = nI e := he
  by_cases hqe : nI e ≤ nI q
  · have eb : rbt (mb h) e q = -1 := by rw [rbt, if_pos hqe]
    refine v_aload_n dX14_next_26 rfl ?_
    refine v_aload_n dX14_next_27 rfl ?_
    refine v_getI fl_X14_150 dX14_next_28 rfl rfl (Nat.le_of_ble_eq_true rfl) (mh_32_0 hM) ?_
    rw [mt_12]
    refine v_putI fl_X14_131 (fun z => by cases z) dX14_next_31 rfl rfl (Nat.le_of_ble_eq_true rfl) rfl rfl (mh_32_0 hM) ?_
    rw [mt_s14]
    refine v_aload_n dX14_next_34 rfl ?_
    refine v_iconst (0) dX14_next_35 (by decide) ?_
    refine v_putI fl_X14_156 (fun z => by cases z) dX14_next_36 rfl rfl (Nat.le_of_ble_eq_true rfl) rfl rfl (mh_32_0 hM) ?_
    rw [mt_s13]
    refine v_aload_n dX14_next_39 rfl ?_
    refine v_iconst (0) dX14_next_40 (by decide) ?_
    refine v_putI fl_X14_159 (fun z => by cases z) dX14_next_41 rfl rfl (Nat.le_of_ble_eq_true rfl) rfl rfl (mh_32_0 hM) ?_
    rw [mt_s15]
    refine v_aload_n dX14_next_44 rfl ?_
    refine v_aload_n dX14_next_45 rfl ?_
    refine v_getI fl_X14_150 dX14_next_46 rfl rfl (Nat.le_of_ble_eq_true rfl) (mh_32_0 hM) ?_
    rw [mt_12]
    refine v_invVE (M_byteAt g (mt h (nI q) 0 (nI q) 0 n w) hM (e := e) (q := q) he2 he3 hq) dX14_next_49 cwX14_byteAt mlX14_153 (ob_32 _) rfl rfl (by decide) (by decide) (Nat.le_of_ble_eq_true rfl) ?_
    rw [mb_mt, eb]
    refine v_istore_n dX14_next_52 (by decide) ?_
    refine v_iconst (0) dX14_next_53 (by decide) ?_
    refine v_istore_n dX14_next_54 (by decide) ?_
    refine v_iload_n dX14_next_55 rfl ?_
    refine v_iconst (-1) dX14_next_56 (by decide) ?_
    refine v_icmp_ne 68 dX14_next_57 (by decide) (fun z => absurd rfl z) (fun _ => ?_)
    refine v_aload_n dX14_next_60 rfl ?_
    refine v_iconst (1) dX14_next_61 (by decide) ?_
    refine v_putI fl_X14_156 (fun z => by cases z) dX14_next_62 rfl rfl (Nat.le_of_ble_eq_true rfl) rfl rfl (mh_32_0 hM) ?_
    rw [mt_s13]
    refine v_goto 308 dX14_next_65 (by decide) ?_
    refine v_return dX14_next_308 rfl ?_
    exact ⟨rfl, by rw [mTk, if_pos hqe]; rfl⟩
  · have eb : rbt (mb h) e q = mb h q := by rw [rbt, if_neg hqe]
    have hlt : q < e := by have : ¬ e ≤ q := fun z => hqe (nI_le z (by omega)); omega
    have ne1 : ¬ mb h q = -1 := fun z => hb hlt (by rw [z]; decide)
    refine v_aload_n dX14_next_26 rfl ?_
    refine v_aload_n dX14_next_27 rfl ?_
    refine v_getI fl_X14_150 dX14_next_28 rfl rfl (Nat.le_of_ble_eq_true rfl) (mh_32_0 hM) ?_
    rw [mt_12]
    refine v_putI fl_X14_131 (fun z => by cases z) dX14_next_31 rfl rfl (Nat.le_of_ble_eq_true rfl) rfl rfl (mh_32_0 hM) ?_
    rw [mt_s14]
    refine v_aload_n dX14_next_34 rfl ?_
    refine v_iconst (0) dX14_next_35 (by decide) ?_
    refine v_putI fl_X14_156 (fun z => by cases z) dX14_next_36 rfl rfl (Nat.le_of_ble_eq_true rfl) rfl rfl (mh_32_0 hM) ?_
    rw [mt_s13]
    refine v_aload_n dX14_next_39 rfl ?_
    refine v_iconst (0) dX14_next_40 (by decide) ?_
    refine v_putI fl_X14_159 (fun z => by cases z) dX14_next_41 rfl rfl (Nat.le_of_ble_eq_true rfl) rfl rfl (mh_32_0 hM) ?_
    rw [mt_s15]
    refine v_aload_n dX14_next_44 rfl ?_
    refine v_aload_n dX14_next_45 rfl ?_
    refine v_getI fl_X14_150 dX14_next_46 rfl rfl (Nat.le_of_ble_eq_true rfl) (mh_32_0 hM) ?_
    rw [mt_12]
    refine v_invVE (M_byteAt g (mt h (nI q) 0 (nI q) 0 n w) hM (e := e) (q := q) he2 he3 hq) dX14_next_49 cwX14_byteAt mlX14_153 (ob_32 _) rfl rfl (by decide) (by decide) (Nat.le_of_ble_eq_true rfl) ?_
    rw [mb_mt, eb]
    refine v_istore_n dX14_next_52 (by decide) ?_
    refine v_iconst (0) dX14_next_53 (by decide) ?_
    refine v_istore_n dX14_next_54 (by decide) ?_
    refine v_iload_n dX14_next_55 rfl ?_
    refine v_iconst (-1) dX14_next_56 (by decide) ?_
    refine v_icmp_ne 68 dX14_next_57 (by decide) (fun _ => ?_) (fun z => absurd z ne1)
    refine v_iload_n dX14_next_68 rfl ?_
    refine v_invSE (M_isLetter g _) dX14_next_69 cwX14_isLetter mlX14_162 rfl rfl (by decide) (by decide) (Nat.le_of_ble_eq_true rfl) ?_
    refine v_if_eq 157 dX14_next_72 (by decide) (fun c72 => ?_) (fun c72 => ?_)
    · refine v_iload_n dX14_next_157 rfl ?_
      refine v_invSE (M_isDigit g _) dX14_next_158 cwX14_isDigit mlX14_170 rfl rfl (by decide) (by decide) (Nat.le_of_ble_eq_true rfl) ?_
      refine v_if_eq 240 dX14_next_161 (by decide) (fun c161 => ?_) (fun c161 => ?_)
      · refine v_iload_n dX14_next_240 rfl ?_
        refine v_bipush (60) dX14_next_241 (by decide) ?_
        refine v_icmp_eq 288 dX14_next_243 (by decide) (fun c243 => ?_) (fun c243 => ?_)
        · refine v_aload_n dX14_next_288 rfl ?_
          refine v_iconst (4) dX14_next_289 (by decide) ?_
          refine v_putI fl_X14_156 (fun z => by cases z) dX14_next_290 rfl rfl (Nat.le_of_ble_eq_true rfl) rfl rfl (mh_32_0 hM) ?_
          rw [mt_s13]
          refine v_aload_n dX14_next_293 rfl ?_
          refine v_iload_n dX14_next_294 rfl ?_
          refine v_putI fl_X14_159 (fun z => by cases z) dX14_next_295 rfl rfl (Nat.le_of_ble_eq_true rfl) rfl rfl (mh_32_0 hM) ?_
          rw [mt_s15]
          refine v_aload_n dX14_next_298 rfl ?_
          refine v_dup dX14_next_299 rfl ?_
          refine v_getI fl_X14_150 dX14_next_300 rfl rfl (Nat.le_of_ble_eq_true rfl) (mh_32_0 hM) ?_
          rw [mt_12]
          refine v_iconst (1) dX14_next_303 (by decide) ?_
          refine v_iadd dX14_next_304 ?_
          refine v_putI fl_X14_150 (fun z => by cases z) dX14_next_305 rfl rfl (Nat.le_of_ble_eq_true rfl) rfl rfl (mh_32_0 hM) ?_
          rw [mt_s12, nI_1]
          refine v_return dX14_next_308 rfl ?_
          exact ⟨rfl, by rw [mTk, if_neg hqe, if_pos c72, if_pos c161, if_pos c243]; rfl⟩
        · refine v_iload_n dX14_next_246 rfl ?_
          refine v_bipush (62) dX14_next_247 (by decide) ?_
          refine v_icmp_eq 288 dX14_next_249 (by decide) (fun c249 => ?_) (fun c249 => ?_)
          · refine v_aload_n dX14_next_288 rfl ?_
            refine v_iconst (4) dX14_next_289 (by decide) ?_
            refine v_putI fl_X14_156 (fun z => by cases z) dX14_next_290 rfl rfl (Nat.le_of_ble_eq_true rfl) rfl rfl (mh_32_0 hM) ?_
            rw [mt_s13]
            refine v_aload_n dX14_next_293 rfl ?_
            refine v_iload_n dX14_next_294 rfl ?_
            refine v_putI fl_X14_159 (fun z => by cases z) dX14_next_295 rfl rfl (Nat.le_of_ble_eq_true rfl) rfl rfl (mh_32_0 hM) ?_
            rw [mt_s15]
            refine v_aload_n dX14_next_298 rfl ?_
            refine v_dup dX14_next_299 rfl ?_
            refine v_getI fl_X14_150 dX14_next_300 rfl rfl (Nat.le_of_ble_eq_true rfl) (mh_32_0 hM) ?_
            rw [mt_12]
            refine v_iconst (1) dX14_next_303 (by decide) ?_
            refine v_iadd dX14_next_304 ?_
            refine v_putI fl_X14_150 (fun z => by cases z) dX14_next_305 rfl rfl (Nat.le_of_ble_eq_true rfl) rfl rfl (mh_32_0 hM) ?_
            rw [mt_s12, nI_1]
            refine v_return dX14_next_308 rfl ?_
            exact ⟨rfl, by rw [mTk, if_neg hqe, if_pos c72, if_pos c161, if_neg c243, if_pos c249]; rfl⟩
          · refine v_iload_n dX14_next_252 rfl ?_
            refine v_bipush (61) dX14_next_253 (by decide) ?_
            refine v_icmp_eq 288 dX14_next_255 (by decide) (fun c255 => ?_) (fun c255 => ?_)
            · refine v_aload_n dX14_next_288 rfl ?_
              refine v_iconst (4) dX14_next_289 (by decide) ?_
              refine v_putI fl_X14_156 (fun z => by cases z) dX14_next_290 rfl rfl (Nat.le_of_ble_eq_true rfl) rfl rfl (mh_32_0 hM) ?_
              rw [mt_s13]
              refine v_aload_n dX14_next_293 rfl ?_
              refine v_iload_n dX14_next_294 rfl ?_
              refine v_putI fl_X14_159 (fun z => by cases z) dX14_next_295 rfl rfl (Nat.le_of_ble_eq_true rfl) rfl rfl (mh_32_0 hM) ?_
              rw [mt_s15]
              refine v_aload_n dX14_next_298 rfl ?_
              refine v_dup dX14_next_299 rfl ?_
              refine v_getI fl_X14_150 dX14_next_300 rfl rfl (Nat.le_of_ble_eq_true rfl) (mh_32_0 hM) ?_
              rw [mt_12]
              refine v_iconst (1) dX14_next_303 (by decide) ?_
              refine v_iadd dX14_next_304 ?_
              refine v_putI fl_X14_150 (fun z => by cases z) dX14_next_305 rfl rfl (Nat.le_of_ble_eq_true rfl) rfl rfl (mh_32_0 hM) ?_
              rw [mt_s12, nI_1]
              refine v_return dX14_next_308 rfl ?_
              exact ⟨rfl, by rw [mTk, if_neg hqe, if_pos c72, if_pos c161, if_neg c243, if_neg c249, if_pos c255]; rfl⟩
            · refine v_iload_n dX14_next_258 rfl ?_
              refine v_bipush (40) dX14_next_259 (by decide) ?_
              refine v_icmp_eq 288 dX14_next_261 (by decide) (fun c261 => ?_) (fun c261 => ?_)
              · refine v_aload_n dX14_next_288 rfl ?_
                refine v_iconst (4) dX14_next_289 (by decide) ?_
                refine v_putI fl_X14_156 (fun z => by cases z) dX14_next_290 rfl rfl (Nat.le_of_ble_eq_true rfl) rfl rfl (mh_32_0 hM) ?_
                rw [mt_s13]
                refine v_aload_n dX14_next_293 rfl ?_
                refine v_iload_n dX14_next_294 rfl ?_
                refine v_putI fl_X14_159 (fun z => by cases z) dX14_next_295 rfl rfl (Nat.le_of_ble_eq_true rfl) rfl rfl (mh_32_0 hM) ?_
                rw [mt_s15]
                refine v_aload_n dX14_next_298 rfl ?_
                refine v_dup dX14_next_299 rfl ?_
                refine v_getI fl_X14_150 dX14_next_300 rfl rfl (Nat.le_of_ble_eq_true rfl) (mh_32_0 hM) ?_
                rw [mt_12]
                refine v_iconst (1) dX14_next_303 (by decide) ?_
                refine v_iadd dX14_next_304 ?_
                refine v_putI fl_X14_150 (fun z => by cases z) dX14_next_305 rfl rfl (Nat.le_of_ble_eq_true rfl) rfl rfl (mh_32_0 hM) ?_
                rw [mt_s12, nI_1]
                refine v_return dX14_next_308 rfl ?_
                exact ⟨rfl, by rw [mTk, if_neg hqe, if_pos c72, if_pos c161, if_neg c243, if_neg c249, if_neg c255, if_pos c261]; rfl⟩
              · refine v_iload_n dX14_next_264 rfl ?_
                refine v_bipush (41) dX14_next_265 (by decide) ?_
                refine v_icmp_eq 288 dX14_next_267 (by decide) (fun c267 => ?_) (fun c267 => ?_)
                · refine v_aload_n dX14_next_288 rfl ?_
                  refine v_iconst (4) dX14_next_289 (by decide) ?_
                  refine v_putI fl_X14_156 (fun z => by cases z) dX14_next_290 rfl rfl (Nat.le_of_ble_eq_true rfl) rfl rfl (mh_32_0 hM) ?_
                  rw [mt_s13]
                  refine v_aload_n dX14_next_293 rfl ?_
                  refine v_iload_n dX14_next_294 rfl ?_
                  refine v_putI fl_X14_159 (fun z => by cases z) dX14_next_295 rfl rfl (Nat.le_of_ble_eq_true rfl) rfl rfl (mh_32_0 hM) ?_
                  rw [mt_s15]
                  refine v_aload_n dX14_next_298 rfl ?_
                  refine v_dup dX14_next_299 rfl ?_
                  refine v_getI fl_X14_150 dX14_next_300 rfl rfl (Nat.le_of_ble_eq_true rfl) (mh_32_0 hM) ?_
                  rw [mt_12]
                  refine v_iconst (1) dX14_next_303 (by decide) ?_
                  refine v_iadd dX14_next_304 ?_
                  refine v_putI fl_X14_150 (fun z => by cases z) dX14_next_305 rfl rfl (Nat.le_of_ble_eq_true rfl) rfl rfl (mh_32_0 hM) ?_
                  rw [mt_s12, nI_1]
                  refine v_return dX14_next_308 rfl ?_
                  exact ⟨rfl, by rw [mTk, if_neg hqe, if_pos c72, if_pos c161, if_neg c243, if_neg c249, if_neg c255, if_neg c261, if_pos c267]; rfl⟩
                · refine v_iload_n dX14_next_270 rfl ?_
                  refine v_bipush (43) dX14_next_271 (by decide) ?_
                  refine v_icmp_eq 288 dX14_next_273 (by decide) (fun c273 => ?_) (fun c273 => ?_)
                  · refine v_aload_n dX14_next_288 rfl ?_
                    refine v_iconst (4) dX14_next_289 (by decide) ?_
                    refine v_putI fl_X14_156 (fun z => by cases z) dX14_next_290 rfl rfl (Nat.le_of_ble_eq_true rfl) rfl rfl (mh_32_0 hM) ?_
                    rw [mt_s13]
                    refine v_aload_n dX14_next_293 rfl ?_
                    refine v_iload_n dX14_next_294 rfl ?_
                    refine v_putI fl_X14_159 (fun z => by cases z) dX14_next_295 rfl rfl (Nat.le_of_ble_eq_true rfl) rfl rfl (mh_32_0 hM) ?_
                    rw [mt_s15]
                    refine v_aload_n dX14_next_298 rfl ?_
                    refine v_dup dX14_next_299 rfl ?_
                    refine v_getI fl_X14_150 dX14_next_300 rfl rfl (Nat.le_of_ble_eq_true rfl) (mh_32_0 hM) ?_
                    rw [mt_12]
                    refine v_iconst (1) dX14_next_303 (by decide) ?_
                    refine v_iadd dX14_next_304 ?_
                    refine v_putI fl_X14_150 (fun z => by cases z) dX14_next_305 rfl rfl (Nat.le_of_ble_eq_true rfl) rfl rfl (mh_32_0 hM) ?_
                    rw [mt_s12, nI_1]
                    refine v_return dX14_next_308 rfl ?_
                    exact ⟨rfl, by rw [mTk, if_neg hqe, if_pos c72, if_pos c161, if_neg c243, if_neg c249, if_neg c255, if_neg c261, if_neg c267, if_pos c273]; rfl⟩
                  · refine v_iload_n dX14_next_276 rfl ?_
                    refine v_bipush (42) dX14_next_277 (by decide) ?_
                    refine v_icmp_eq 288 dX14_next_279 (by decide) (fun c279 => ?_) (fun c279 => ?_)
                    · refine v_aload_n dX14_next_288 rfl ?_
                      refine v_iconst (4) dX14_next_289 (by decide) ?_
                      refine v_putI fl_X14_156 (fun z => by cases z) dX14_next_290 rfl rfl (Nat.le_of_ble_eq_true rfl) rfl rfl (mh_32_0 hM) ?_
                      rw [mt_s13]
                      refine v_aload_n dX14_next_293 rfl ?_
                      refine v_iload_n dX14_next_294 rfl ?_
                      refine v_putI fl_X14_159 (fun z => by cases z) dX14_next_295 rfl rfl (Nat.le_of_ble_eq_true rfl) rfl rfl (mh_32_0 hM) ?_
                      rw [mt_s15]
                      refine v_aload_n dX14_next_298 rfl ?_
                      refine v_dup dX14_next_299 rfl ?_
                      refine v_getI fl_X14_150 dX14_next_300 rfl rfl (Nat.le_of_ble_eq_true rfl) (mh_32_0 hM) ?_
                      rw [mt_12]
                      refine v_iconst (1) dX14_next_303 (by decide) ?_
                      refine v_iadd dX14_next_304 ?_
                      refine v_putI fl_X14_150 (fun z => by cases z) dX14_next_305 rfl rfl (Nat.le_of_ble_eq_true rfl) rfl rfl (mh_32_0 hM) ?_
                      rw [mt_s12, nI_1]
                      refine v_return dX14_next_308 rfl ?_
                      exact ⟨rfl, by rw [mTk, if_neg hqe, if_pos c72, if_pos c161, if_neg c243, if_neg c249, if_neg c255, if_neg c261, if_neg c267, if_neg c273, if_pos c279]; rfl⟩
                    · refine v_iload_n dX14_next_282 rfl ?_
                      refine v_bipush (59) dX14_next_283 (by decide) ?_
                      refine v_icmp_ne 308 dX14_next_285 (by decide) (fun c285 => ?_) (fun c285 => ?_)
                      · refine v_return dX14_next_308 rfl ?_
                        exact ⟨rfl, by rw [mTk, if_neg hqe, if_pos c72, if_pos c161, if_neg c243, if_neg c249, if_neg c255, if_neg c261, if_neg c267, if_neg c273, if_neg c279, if_neg c285]; rfl⟩
                      · refine v_aload_n dX14_next_288 rfl ?_
                        refine v_iconst (4) dX14_next_289 (by decide) ?_
                        refine v_putI fl_X14_156 (fun z => by cases z) dX14_next_290 rfl rfl (Nat.le_of_ble_eq_true rfl) rfl rfl (mh_32_0 hM) ?_
                        rw [mt_s13]
                        refine v_aload_n dX14_next_293 rfl ?_
                        refine v_iload_n dX14_next_294 rfl ?_
                        refine v_putI fl_X14_159 (fun z => by cases z) dX14_next_295 rfl rfl (Nat.le_of_ble_eq_true rfl) rfl rfl (mh_32_0 hM) ?_
                        rw [mt_s15]
                        refine v_aload_n dX14_next_298 rfl ?_
                        refine v_dup dX14_next_299 rfl ?_
                        refine v_getI fl_X14_150 dX14_next_300 rfl rfl (Nat.le_of_ble_eq_true rfl) (mh_32_0 hM) ?_
                        rw [mt_12]
                        refine v_iconst (1) dX14_next_303 (by decide) ?_
                        refine v_iadd dX14_next_304 ?_
                        refine v_putI fl_X14_150 (fun z => by cases z) dX14_next_305 rfl rfl (Nat.le_of_ble_eq_true rfl) rfl rfl (mh_32_0 hM) ?_
                        rw [mt_s12, nI_1]
                        refine v_return dX14_next_308 rfl ?_
                        exact ⟨rfl, by rw [mTk, if_neg hqe, if_pos c72, if_pos c161, if_neg c243, if_neg c249, if_neg c255, if_neg c261, if_neg c267, if_neg c273, if_neg c279, if_pos c285]; rfl⟩
      · refine v_aload_n dX14_next_164 rfl ?_
        refine v_iconst (0) dX14_next_165 (by decide) ?_
        refine v_putI fl_X14_173 (fun z => by cases z) dX14_next_166 rfl rfl (Nat.le_of_ble_eq_true rfl) rfl rfl (mh_32_0 hM) ?_
        rw [mt_s16]
        rw [mTk, if_neg hqe, if_pos c72, if_neg c161]
        refine v_loc [(0, pR (32, 0)), (1, pI (mb h q)), (2, pI 0)] rfl ?_
        refine M_nx3 g h hM he he3 (e - q) q 0 0 0 (by omega) rfl ?_
        refine v_iload_n dX14_next_227 rfl ?_
        refine v_iconst (5) dX14_next_228 (by decide) ?_
        refine v_icmp_ge 308 dX14_next_229 (by decide) (fun c229 => ?_) (fun c229 => ?_)
        · refine v_return dX14_next_308 rfl ?_
          first | exact ⟨rfl, by rw [if_pos c229]; rfl⟩ | exact ⟨rfl, by rw [if_neg c229]; rfl⟩
        · refine v_aload_n dX14_next_232 rfl ?_
          refine v_iconst (3) dX14_next_233 (by decide) ?_
          refine v_putI fl_X14_156 (fun z => by cases z) dX14_next_234 rfl rfl (Nat.le_of_ble_eq_true rfl) rfl rfl (mh_32_0 hM) ?_
          rw [mt_s13]
          refine v_goto 308 dX14_next_237 (by decide) ?_
          refine v_return dX14_next_308 rfl ?_
          first | exact ⟨rfl, by rw [if_pos c229]; rfl⟩ | exact ⟨rfl, by rw [if_neg c229]; rfl⟩
    · refine v_aload_n dX14_next_75 rfl ?_
      refine v_lconst 0 dX14_next_76 (by decide) ?_
      refine v_putL fl_X14_166 (fun z => by cases z) dX14_next_77 rfl rfl (Nat.le_of_ble_eq_true rfl) (mh_32_0 hM) ?_
      rw [mt_w]
      rw [mTk, if_neg hqe, if_neg c72]
      refine v_loc [(0, pR (32, 0)), (1, pI (mb h q)), (2, pI 0)] rfl ?_
      refine M_nx2 g h hM he he3 (e - q) q 0 0 0 (by omega) rfl ?_
      refine v_iload_n dX14_next_143 rfl ?_
      refine v_bipush (9) dX14_next_144 (by decide) ?_
      refine v_icmp_ge 308 dX14_next_146 (by decide) (fun c146 => ?_) (fun c146 => ?_)
      · refine v_return dX14_next_308 rfl ?_
        first | exact ⟨rfl, by rw [if_pos c146]; rfl⟩ | exact ⟨rfl, by rw [if_neg c146]; rfl⟩
      · refine v_aload_n dX14_next_149 rfl ?_
        refine v_iconst (2) dX14_next_150 (by decide) ?_
        refine v_putI fl_X14_156 (fun z => by cases z) dX14_next_151 rfl rfl (Nat.le_of_ble_eq_true rfl) rfl rfl (mh_32_0 hM) ?_
        rw [mt_s13]
        refine v_goto 308 dX14_next_154 (by decide) ?_
        refine v_return dX14_next_308 rfl ?_
        first | exact ⟨rfl, by rw [if_pos c146]; rfl⟩ | exact ⟨rfl, by rw [if_neg c146]; rfl⟩
set_option maxRecDepth 20000 in
theorem M_next (g : G0) (h : Hp) (hM : SM h) {e q : Nat} (he : vi h (32, 0) 11 = nI e) (he3 : e ≤ 300) (hq : q ≤ e) (hqv : vi h (32, 0) 12 = nI q) (hb : ∀ i, i < e → ¬ mb h i < 0) : Mx g yX14_next wX14_next 1 [pR (32, 0)] h 0 0 (qE none (mtH h (skp (mb h) (e - q) q) (mTk (mb h) e (skp (mb h) (e - q) q) (vi h (32, 0) 16) (vl h (32, 0) 19)))) noX := by
  refine Mx.by kfX14_next rfl (by decide) (Nat.le_of_ble_eq_true rfl) ?_
  have hs := skp_le (mb h) (e - q) q
  have id := mt_id h
  rw [hqv] at id
  have K := M_nx1 g h hM he he3 (s := vi h (32, 0) 13) (p := vi h (32, 0) 14) (m := vi h (32, 0) 15) (n := vi h (32, 0) 16) (w := vl h (32, 0) 19) (e - q) q (by omega) (M_nx4 g h hM he he3 (q := skp (mb h) (e - q) q) (by omega) (fun z => hb _ z))
  rw [id] at K
  exact K
