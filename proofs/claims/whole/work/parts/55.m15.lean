theorem ff_ff (h : Hp) (s t : Int32 × Int32) : ff (ff h s) t = ff h t := by
  refine Prod.ext rfl (Prod.ext rfl (Prod.ext ?_ rfl))
  funext b f
  show (if b = (32, 0) then (if f = 20 then t.1 else if f = 21 then t.2 else vi (ff h s) (32, 0) f) else vi (ff h s) b f) = if b = (32, 0) then (if f = 20 then t.1 else if f = 21 then t.2 else vi h (32, 0) f) else vi h b f
  by_cases hb : b = (32, 0)
  · rw [if_pos hb, if_pos hb]
    by_cases h0 : f = 20
    · rw [if_pos h0, if_pos h0]
    · rw [if_neg h0, if_neg h0]
      by_cases h1 : f = 21
      · rw [if_pos h1, if_pos h1]
      · rw [if_neg h1, if_neg h1]
        show (if ((32, 0) : Ad) = (32, 0) then (if f = 20 then s.1 else if f = 21 then s.2 else vi h (32, 0) f) else vi h (32, 0) f) = vi h (32, 0) f
        rw [if_pos rfl, if_neg h0, if_neg h1]
  · rw [if_neg hb, if_neg hb, ff_o _ _ _ hb]
theorem fC_ff (h : Hp) (s0 : Int32 × Int32) (k : Nat) (nu : Int32) : ∀ (j c : Nat) (s : Int32 × Int32), fC (ff h s0) k nu j c s = fC h k nu j c s
  | 0, _, _ => rfl
  | j + 1, c, s => by
    rw [fC, fC, ff33 _ _ _ _ _ (by decide), ff33 _ _ _ _ _ (by decide), fC_ff h s0 k nu j, fC_ff h s0 k nu j]
theorem fO_ff (h : Hp) (s0 : Int32 × Int32) (w nu d : Int32) : ∀ (j k : Nat) (s : Int32 × Int32), fO (ff h s0) w nu d j k s = fO h w nu d j k s
  | 0, _, _ => rfl
  | j + 1, k, s => by
    have e : chN (ff h s0) k = chN h k := by rw [chN, chN, ff33 _ _ _ _ _ (by decide)]
    rw [fO, fO, ff33 _ _ _ _ _ (by decide), ff33 _ _ _ _ _ (by decide), ff33 _ _ _ _ _ (by decide), fO_ff h s0 w nu d j, fO_ff h s0 w nu d j, fC_ff, e]
theorem fEnd_ff (h : Hp) (s0 s : Int32 × Int32) : fEnd (ff h s0) s = fEnd h s := by rw [fEnd, fEnd, ff33 _ _ _ _ _ (by decide)]
/-- the reference's schemes -/
def MK (h : Hp) (n : Nat) : Prop := SM h ∧ n ≤ 40 ∧ vi h (32, 0) 5 = nI n ∧ ∀ k, k < n → SK h k
theorem SKff {h : Hp} {k : Nat} (s : SK h k) (t : Int32 × Int32) : SK (ff h t) k := ⟨s.1, s.2.1, s.2.2.1, s.2.2.2.1, s.2.2.2.2.1, by obtain ⟨c, hc, e⟩ := s.2.2.2.2.2; exact ⟨c, hc, by rw [ff33 _ _ _ _ _ (by decide)]; exact e⟩⟩
theorem MKff {h : Hp} {n : Nat} (m : MK h n) (t : Int32 × Int32) : MK (ff h t) n := ⟨m.1, m.2.1, m.2.2.1, fun k hk => SKff (m.2.2.2 k hk) t⟩
def fB (h : Hp) (n : Nat) (w nu d : Int32) (c : Int32) : Int32 × Int32 := fO h w nu d n 0 (-1, c)
theorem M_findsF (g : G0) (h : Hp) {n : Nat} (m : MK h n) (s : Int32 × Int32) {w nu d : Int32} : Mx g yX14_finds wX14_finds 0 [pR (32, 0), pI w, pI nu, pI d] (ff h s) 0 0 (qE (some (pI (fEnd h (fB h n w nu d s.2)))) (ff h (fB h n w nu d s.2))) noX := by
  have K := M_finds g (ff h s) (MKff m s).1 m.2.1 m.2.2.1 (MKff m s).2.2.2 (w := w) (nu := nu) (d := d)
  rw [ff_21, fO_ff, fEnd_ff, ff_ff] at K
  exact K
def mCs (h : Hp) (n : Nat) (w d : Int32) : Nat → Nat → Int32 → Int32 × Int32 → Int32 × (Int32 × Int32)
  | 0, _, t, s => (t, s)
  | j + 1, m, t, s => mCs h n w d j (m + 1) (t + (if fEnd h (fB h n w (nI m) d s.2) = 0 then 0 else 1)) (fB h n w (nI m) d s.2)
set_option maxRecDepth 20000 in
theorem M_cls_loop (g : G0) (h : Hp) {n : Nat} (m0 : MK h n) {w d : Int32} : ∀ (j m : Nat) (t x : Int32) (s : Int32 × Int32), m + j = 13 → x = nI m → V g kfX14_clausesOf 1 0 0 5 [(0, pR (32, 0)), (1, pI w), (2, pI d), (3, pI t), (4, pI x)] [] (ff h s) (qE (some (pI (mCs h n w d j m t s).1)) (ff h (mCs h n w d j m t s).2)) (fun _ _ a h' => noX a h') := by
  intro j
  induction j with
  | zero =>
    intro m t x s hij hx
    subst hx
    refine v_iload dX14_clausesOf_5 rfl ?_
    refine v_bipush (12) dX14_clausesOf_7 (by decide) ?_
    refine v_icmp_gt 37 dX14_clausesOf_9 (by decide) (fun _ => ?_) (fun z => absurd (show nI 12 < nI m from nI_lt (by omega) (by omega)) z)
    refine v_iload_n dX14_clausesOf_37 rfl ?_
    refine v_ireturn dX14_clausesOf_38 rfl rfl ?_
    exact ⟨rfl, rfl⟩
  | succ j ih =>
    intro m t x s hij hx
    subst hx
    refine v_iload dX14_clausesOf_5 rfl ?_
    refine v_bipush (12) dX14_clausesOf_7 (by decide) ?_
    refine v_icmp_gt 37 dX14_clausesOf_9 (by decide) (fun z => absurd z (show ¬ nI 12 < nI m from nI_nlt (by omega) (by omega))) (fun _ => ?_)
    refine v_iload_n dX14_clausesOf_12 rfl ?_
    refine v_aload_n dX14_clausesOf_13 rfl ?_
    refine v_iload_n dX14_clausesOf_14 rfl ?_
    refine v_iload dX14_clausesOf_15 rfl ?_
    refine v_iload_n dX14_clausesOf_17 rfl ?_
    refine v_invVE (M_findsF g h m0 s) dX14_clausesOf_18 cwX14_finds mlX14_301 (ob_32 _) rfl rfl (by decide) (by decide) (Nat.le_of_ble_eq_true rfl) ?_
    refine v_if_eq 28 dX14_clausesOf_21 (by decide) (fun c21 => ?_) (fun c21 => ?_)
    · refine v_iconst (0) dX14_clausesOf_28 (by decide) ?_
      refine v_iadd dX14_clausesOf_29 ?_
      refine v_istore_n dX14_clausesOf_30 (by decide) ?_
      refine v_iinc _ dX14_clausesOf_31 rfl rfl (by decide) ?_
      refine v_goto 5 dX14_clausesOf_34 (by decide) ?_
      rw [mCs, if_pos c21]
      first | (refine v_loc [(0, pR (32, 0)), (1, pI w), (2, pI d), (3, pI (t + 0)), (4, pI (nI m + 1))] rfl ?_; exact ih (m + 1) _ _ _ (by omega) (nI_1 m)) | (refine v_loc [(0, pR (32, 0)), (1, pI w), (2, pI d), (3, pI (t + 1)), (4, pI (nI m + 1))] rfl ?_; exact ih (m + 1) _ _ _ (by omega) (nI_1 m))
    · refine v_iconst (1) dX14_clausesOf_24 (by decide) ?_
      refine v_goto 29 dX14_clausesOf_25 (by decide) ?_
      refine v_iadd dX14_clausesOf_29 ?_
      refine v_istore_n dX14_clausesOf_30 (by decide) ?_
      refine v_iinc _ dX14_clausesOf_31 rfl rfl (by decide) ?_
      refine v_goto 5 dX14_clausesOf_34 (by decide) ?_
      rw [mCs, if_neg c21]
      first | (refine v_loc [(0, pR (32, 0)), (1, pI w), (2, pI d), (3, pI (t + 0)), (4, pI (nI m + 1))] rfl ?_; exact ih (m + 1) _ _ _ (by omega) (nI_1 m)) | (refine v_loc [(0, pR (32, 0)), (1, pI w), (2, pI d), (3, pI (t + 1)), (4, pI (nI m + 1))] rfl ?_; exact ih (m + 1) _ _ _ (by omega) (nI_1 m))
set_option maxRecDepth 20000 in
theorem M_clausesOf (g : G0) (h : Hp) {n : Nat} (m0 : MK h n) (s : Int32 × Int32) {w d : Int32} : Mx g yX14_clausesOf wX14_clausesOf 1 [pR (32, 0), pI w, pI d] (ff h s) 0 0 (qE (some (pI (mCs h n w d 12 1 0 s).1)) (ff h (mCs h n w d 12 1 0 s).2)) noX := by
  refine Mx.by kfX14_clausesOf rfl (by decide) (Nat.le_of_ble_eq_true rfl) ?_
  refine v_iconst (0) dX14_clausesOf_0 (by decide) ?_
  refine v_istore_n dX14_clausesOf_1 (by decide) ?_
  refine v_iconst (1) dX14_clausesOf_2 (by decide) ?_
  refine v_istore dX14_clausesOf_3 (by decide) ?_
  refine v_loc [(0, pR (32, 0)), (1, pI w), (2, pI d), (3, pI 0), (4, pI 1)] rfl ?_
  exact M_cls_loop g h m0 12 1 0 1 s (by omega) rfl
