/-- what reading leaves as it was -/
def Fq (h h' : Hp) : Prop := cn h' = cn h ∧ ln h' = ln h ∧ vl h' = vl h ∧ vr h' = vr h ∧ ∀ (a : Ad) (f : Nat), a.1 ≠ 2 → a.1 ≠ 3 → (a.1 = 13 → a.2 = 0) → vi h' a f = vi h a f
theorem Fq.rf (h : Hp) : Fq h h := ⟨rfl, rfl, rfl, rfl, fun _ _ _ _ _ => rfl⟩
theorem Fq.tr {h h1 h2 : Hp} (a : Fq h h1) (b : Fq h1 h2) : Fq h h2 := ⟨b.1.trans a.1, b.2.1.trans a.2.1, b.2.2.1.trans a.2.2.1, b.2.2.2.1.trans a.2.2.2.1, fun c f x y z => (b.2.2.2.2 c f x y z).trans (a.2.2.2.2 c f x y z)⟩
def inR (a : Ad) : Prop := a.1 = 2 ∨ a.1 = 3 ∨ (a.1 = 13 ∧ a.2 ≠ 0)
theorem FqI {h h' : Hp} (q : Fq h h') {a : Ad} (k : Nat) (x : Int32) (ha : inR a) : Fq h (sI h' a k x) := q.tr ⟨rfl, rfl, rfl, rfl, fun b f h2 h3 h13 => by
  rw [vi_sI, if_neg]
  rintro ⟨rfl, -⟩
  rcases ha with z | z | ⟨z, w⟩
  · exact h2 z
  · exact h3 z
  · exact w (h13 z)⟩
theorem Fqw {h h' : Hp} (q : Fq h h') (x : Int32) : Fq h (wWr h' x) := by
  unfold wWr; split
  · exact q
  · exact FqI (FqI q _ _ (by unfold inR; decide)) _ _ (by unfold inR; decide)
theorem Fqh {h h' : Hp} (q : Fq h h') (x : Int32) : Fq h (wHo h' x) := by
  unfold wHo; split
  · exact q
  · exact FqI (FqI q _ _ (by unfold inR; decide)) _ _ (by unfold inR; decide)
theorem Fqe {h : Hp} (x : Int32) : ∀ (n : Nat) {h' : Hp}, Fq h h' → Fq h (wRe x n h')
  | 0, _, q => q
  | n + 1, h', q => by
    rw [wRe]; split
    · exact Fqe x n (Fqw (FqI q _ _ (by unfold inR; decide)) _)
    · exact q
theorem Fql {h h' : Hp} (q : Fq h h') (x : Int32) : Fq h (wRel h' x) := Fqe x _ q
theorem Fqa {h h' : Hp} (q : Fq h h') : Fq h (wEa h') := Fql (Fql q 9) 8
theorem Fqp {h h' : Hp} (q : Fq h h') : Fq h (wPop h') := by
  unfold wPop; split
  · exact q
  · exact FqI q _ _ (by unfold inR; decide)
theorem Fqc {h h' : Hp} (q : Fq h h') : Fq h (wCb h') := Fql (Fqp (Fqa q)) 10
theorem SXFq {h h' : Hp} (q : Fq h h') (s : SX h) : SX h' := by
  obtain ⟨e1, e2, -, e4, -⟩ := q
  exact ⟨fun x hx => by rw [e1]; exact s.1 x hx, fun x hx => by rw [e2]; exact s.2.1 x hx, fun x hx => by rw [e4]; exact s.2.2 x hx⟩
def OKR (h : Hp) (r : Int32 × Hp) : Prop := Fq h r.2 ∧ WI r.2 ∧ RI r.2 ∧ ∃ k, k ≤ 12 ∧ r.1 = nI k
theorem OKR.of {h : Hp} {r : Int32} {h' : Hp} (q : Fq h h') (w : WI h') (i : RI h') (k : Nat) (hk : k ≤ 12) (e : r = nI k) : OKR h (r, h') := ⟨q, w, i, k, hk, e⟩
theorem rFa_ok {h h' : Hp} (q : Fq h h') (w : WI h') (i : RI h') (x : Int32) : OKR h (rFa h' x) := OKR.of (FqI q _ _ (by unfold inR; decide)) (WIsI w (by decide)) (RIo i (vi_sI_nk _ _ _ (by decide))) 12 (by decide) (by decide)
theorem rNo_ok {h h' : Hp} (q : Fq h h') (w : WI h') (i : RI h') : OKR h (rNo h') := rFa_ok q w i _
theorem rCh_ok {h : Hp} (w : WI h) (i : RI h) : OKR h (rCh h) := by
  have q := Fq.rf h
  have qH : Fq h (chH h) := FqI (FqI (FqI (FqI q _ _ (by unfold inR; decide)) _ _ (by unfold inR; decide)) _ _ (by unfold inR; decide)) _ _ (by unfold inR; decide)
  have wH : WI (chH h) := WIsI (WIsI (WIsI (WIsI w (by decide)) (by decide)) (by decide)) (by decide)
  have a : OKR h (rCh1 h) := by
    unfold rCh1; split
    · rename_i c
      have iH : RI (chH h) := by
        obtain ⟨n, hn, e⟩ := i
        rw [e] at c
        have : n < 12 := (nI_ltI (by omega) (by decide)).mp c
        exact ⟨n + 1, by omega, by rw [chH, vi_sI_nk _ _ _ (by decide), vi_sI_eq, e, nI_1]⟩
      split
      · exact OKR.of qH wH iH 8 (by decide) (by decide)
      · split
        · exact OKR.of qH wH iH 1 (by decide) (by decide)
        · exact OKR.of qH wH iH 2 (by decide) (by decide)
    · exact rFa_ok q w i 4
  unfold rCh
  split
  · exact a
  · split
    · exact a
    · split
      · exact a
      · exact rFa_ok q w i 1
theorem cnH_ok {h : Hp} (w : WI h) (i : RI h) : Fq h (cnH h) ∧ WI (cnH h) ∧ RI (cnH h) := by
  unfold cnH; split
  · exact ⟨Fq.rf h, w, i⟩
  · exact ⟨FqI (Fq.rf h) _ _ (by unfold inR; decide), WIsI w (by decide), RIo i (vi_sI_ne _ _ _ _ (by decide))⟩
theorem bcH_ok {h h' : Hp} (q : Fq h h') (w : WI h') (i : RI h') : Fq h (bcH h') ∧ WI (bcH h') ∧ RI (bcH h') := by
  unfold bcH; split
  · exact ⟨q, w, i⟩
  · exact ⟨FqI q _ _ (by unfold inR; decide), WIsI w (by decide), RIo i (vi_sI_ne _ _ _ _ (by decide))⟩
theorem rCn_ok {h : Hp} (w : WI h) (i : RI h) {t : Int32} {k : Nat} (hk : k ≤ 12) (e : t = nI k) : OKR h (rCn h t) := by
  have q := Fq.rf h
  have a := cnH_ok w i
  unfold rCn
  split
  · split
    · exact rFa_ok q w i 3
    · split
      · exact OKR.of a.1 a.2.1 a.2.2 k hk e
      · exact rFa_ok q w i 3
  · exact rFa_ok q w i 1
theorem rBc_ok {h h' : Hp} (q : Fq h h') (w : WI h') (i : RI h') : OKR h (rBc h') := by
  have a := bcH_ok q w i
  have b : OKR h (rBc1 h') := by
    unfold rBc1; split
    · exact OKR.of a.1 a.2.1 a.2.2 12 (by decide) (by decide)
    · exact OKR.of a.1 a.2.1 a.2.2 0 (by decide) (by decide)
  unfold rBc
  split
  · exact b
  · split
    · exact b
    · exact rFa_ok q w i 1
theorem rOn_ok {h : Hp} (w : WI h) (i : RI h) : OKR h (rOn h) := by
  have q := Fq.rf h
  have qN : Fq h (onN h) := Fqh (FqI q _ _ (by unfold inR; decide)) _
  have wN : WI (onN h) := WIho (WIsI w (by decide)) _
  have iN : RI (onN h) := RIo i (by rw [onN, wHo_o _ _ _ (by decide) (by decide), vi_sI_nk _ _ _ (by decide)])
  have qB : Fq h (onB h) := Fqh (FqI (FqI q _ _ (by unfold inR; decide)) _ _ (by unfold inR; decide)) _
  have wB : WI (onB h) := WIho (WIsI (WIsI w (by decide)) (by decide)) _
  have iB : RI (onB h) := RIo i (by rw [onB, wHo_o _ _ _ (by decide) (by decide), onB0, vi_sI_nk _ _ _ (by decide), vi_sI_nk _ _ _ (by decide)])
  have qC : Fq h (onC h) := FqI (FqI (FqI q _ _ (by unfold inR; decide)) _ _ (by unfold inR; decide)) _ _ (by unfold inR; decide)
  have wC : WI (onC h) := WIsI (WIsI (WIsI w (by decide)) (by decide)) (by decide)
  have iC : RI (onC h) := RIo i (by rw [onC, vi_sI_nk _ _ _ (by decide), vi_sI_nk _ _ _ (by decide), vi_sI_nk _ _ _ (by decide)])
  unfold rOn
  split
  · split
    · exact OKR.of qN wN iN 4 (by decide) (by decide)
    · exact rFa_ok qN wN iN 4
  · split
    · split
      · exact OKR.of qB wB iB 4 (by decide) (by decide)
      · exact rFa_ok qB wB iB 4
    · split
      · split
        · exact OKR.of qC wC iC 5 (by decide) (by decide)
        · exact rFa_ok qC wC iC 4
      · exact rNo_ok q w i
theorem rSg_ok {h : Hp} (w : WI h) (i : RI h) : OKR h (rSg h) := by
  have q : Fq h (sgH h) := FqI (Fq.rf h) _ _ (by unfold inR; decide)
  have w2 : WI (sgH h) := WIsI w (by decide)
  have i2 : RI (sgH h) := RIo i (vi_sI_nk _ _ _ (by decide))
  unfold rSg
  split
  · exact OKR.of q w2 i2 6 (by decide) (by decide)
  · split
    · exact OKR.of q w2 i2 6 (by decide) (by decide)
    · split
      · exact OKR.of q w2 i2 6 (by decide) (by decide)
      · exact rFa_ok q w2 i2 1
theorem rVa_ok {h : Hp} (s : SX h) (w : WI h) (i : RI h) : OKR h (rVa h) := by
  unfold rVa
  split
  · exact OKR.of (Fql (Fqw (Fq.rf h) _) 10) (wRel_ok (SXwr s _) (WIwr w _) 10).2 (RIo i (by rw [wRel_o _ _ _ (by decide) (by decide), vaH, wWr_o _ _ _ (by decide) (by decide)])) 7 (by decide) (by decide)
  · exact rFa_ok (Fq.rf h) w i 1
theorem rBo_ok {h : Hp} (s : SX h) (w : WI h) (i : RI h) : OKR h (rBo h) := by
  have q := Fq.rf h
  have a := wRel_ok s w 9
  have j : OKR h (4, wHo (wRel h 9) (vi h (1, 0) 5)) := OKR.of (Fqh (Fql q 9) _) (WIho a.2 _) (RIo i (by rw [wHo_o _ _ _ (by decide) (by decide), wRel_o _ _ _ (by decide) (by decide)])) 4 (by decide) (by decide)
  unfold rBo
  split
  · exact j
  · split
    · exact j
    · split
      · exact rBc_ok (Fqa q) (wEa_ok s w).2 (RIo i (wEa_o h 5 (by decide) (by decide)))
      · split
        · exact OKR.of (Fqc (FqI q _ _ (by unfold inR; decide))) (wCb_ok (SX.sI s) (WIsI w (by decide))).2 (RIo i (by rw [wCb_o _ _ (by decide) (by decide), vi_sI_nk _ _ _ (by decide)])) 7 (by decide) (by decide)
        · exact rFa_ok q w i 1
theorem rTe_ok {h : Hp} (w : WI h) (i : RI h) : OKR h (rTe h) := by
  have q : Fq h (teH h) := FqI (Fq.rf h) _ _ (by unfold inR; decide)
  have w2 : WI (teH h) := WIsI w (by decide)
  have i2 : RI (teH h) := RIo i (vi_sI_nk _ _ _ (by decide))
  have a : OKR h (rTe1 h) := by
    unfold rTe1
    split
    · split
      · exact OKR.of (FqI q _ _ (by unfold inR; decide)) (WIsI w2 (by decide)) (RIo i2 (vi_sI_nk _ _ _ (by decide))) 9 (by decide) (by decide)
      · exact OKR.of (Fqw q _) (WIwr w2 _) (RIo i2 (wWr_o _ _ _ (by decide) (by decide))) 11 (by decide) (by decide)
    · exact rFa_ok q w2 i2 4
  unfold rTe
  split
  · exact a
  · split
    · exact a
    · exact rNo_ok (Fq.rf h) w i
theorem rBt_ok {h h' : Hp} (q : Fq h h') (w : WI h') (i : RI h') : OKR h (rBt h') := by
  unfold rBt
  split
  · exact OKR.of q w i 8 (by decide) (by decide)
  · exact rBc_ok q w i
theorem rBn_ok {h : Hp} (w : WI h) (i : RI h) : OKR h (rBn h) := by
  unfold rBn
  split
  · exact OKR.of (Fq.rf h) w i 10 (by decide) (by decide)
  · exact rBt_ok (Fqw (Fq.rf h) _) (WIwr w _) (RIo i (wWr_o _ _ _ (by decide) (by decide)))
theorem rFc_ok {h : Hp} (w : WI h) (i : RI h) : OKR h (rFc h) := by
  unfold rFc
  split
  · exact OKR.of (Fqw (Fq.rf h) _) (WIwr w _) (RIo i (wWr_o _ _ _ (by decide) (by decide))) 11 (by decide) (by decide)
  · exact rNo_ok (Fq.rf h) w i
theorem rSt_ok {h : Hp} (s : SX h) (w : WI h) (i : RI h) (k : Nat) : OKR h (rSt h k) := by
  unfold rSt
  split
  · exact rCh_ok w i
  · exact rCn_ok w i (k := 4) (by decide) (by decide)
  · exact rCn_ok w i (k := 3) (by decide) (by decide)
  · exact rBc_ok (Fq.rf h) w i
  · exact rOn_ok w i
  · exact rSg_ok w i
  · exact rVa_ok s w i
  · exact rBo_ok s w i
  · exact rTe_ok w i
  · exact rBn_ok w i
  · exact rFc_ok w i
  · exact rBt_ok (Fq.rf h) w i
  · exact OKR.of (Fq.rf h) w i 12 (by decide) (by decide)
def bgW (h : Hp) : Hp := sI (sI h (3, 0) 2 0) (3, 0) 3 0
def bgH (h : Hp) : Hp := sI (sI (sI (sI (sI (bgW h) (2, 0) 5 0) (2, 0) 6 0) (2, 0) 7 0) (2, 0) 9 0) (2, 0) 10 0
def rwH (h : Hp) (n : Int32) : Hp := sI (sI h (1, 0) 2 n) (1, 0) 3 0
set_option maxRecDepth 20000 in
theorem m_wbegin (g : G0) (h : Hp) (hS : SX h) : Mx g yX10_begin wX10_begin 0 [pR (3, 0)] h 0 0 (qE none (bgW h)) noX := by
  refine Mx.by kfX10_begin rfl (by decide) (Nat.le_of_ble_eq_true rfl) ?_
  refine v_aload_n dX10_begin_0 rfl ?_
  refine v_iconst (0) dX10_begin_1 (by decide) ?_
  refine v_putI fl_X10_18 (fun z => by cases z) dX10_begin_2 rfl rfl (Nat.le_of_ble_eq_true rfl) rfl rfl (xh_3_0 hS) ?_
  refine v_aload_n dX10_begin_5 rfl ?_
  refine v_iconst (0) dX10_begin_6 (by decide) ?_
  refine v_putI fl_X10_22 (fun z => by cases z) dX10_begin_7 rfl rfl (Nat.le_of_ble_eq_true rfl) rfl rfl (xh_3_0 hS) ?_
  refine v_return dX10_begin_10 rfl ?_
  exact ⟨rfl, rfl⟩
set_option maxRecDepth 20000 in
theorem m_rbegin (g : G0) (h : Hp) (hS : SX h) : Mx g yX4_begin wX4_begin 1 [pR (2, 0)] h 0 0 (qE none (bgH h)) noX := by
  refine Mx.by kfX4_begin rfl (by decide) (Nat.le_of_ble_eq_true rfl) ?_
  refine v_aload_n dX4_begin_0 rfl ?_
  refine v_getR (some (3, 0)) fl_X4_12 dX4_begin_1 rfl rfl (Nat.le_of_ble_eq_true rfl) (xh_2_0 hS) (xr_2_0_1 hS) ?_
  refine v_invVE (m_wbegin g h hS) dX4_begin_4 cwX10_begin mlX4_64 (ob_3 _) rfl rfl (by decide) (by decide) (Nat.le_of_ble_eq_true rfl) ?_
  change V g _ _ _ _ _ _ _ (bgW h) _ _
  refine v_aload_n dX4_begin_7 rfl ?_
  refine v_iconst (0) dX4_begin_8 (by decide) ?_
  refine v_putI fl_X4_52 (fun z => by cases z) dX4_begin_9 rfl rfl (Nat.le_of_ble_eq_true rfl) rfl rfl (xh_2_0 hS) ?_
  refine v_aload_n dX4_begin_12 rfl ?_
  refine v_iconst (0) dX4_begin_13 (by decide) ?_
  refine v_putI fl_X4_48 (fun z => by cases z) dX4_begin_14 rfl rfl (Nat.le_of_ble_eq_true rfl) rfl rfl (xh_2_0 hS) ?_
  refine v_aload_n dX4_begin_17 rfl ?_
  refine v_iconst (0) dX4_begin_18 (by decide) ?_
  refine v_putI fl_X4_65 (fun z => by cases z) dX4_begin_19 rfl rfl (Nat.le_of_ble_eq_true rfl) rfl rfl (xh_2_0 hS) ?_
  refine v_aload_n dX4_begin_22 rfl ?_
  refine v_iconst (0) dX4_begin_23 (by decide) ?_
  refine v_putI fl_X4_68 (fun z => by cases z) dX4_begin_24 rfl rfl (Nat.le_of_ble_eq_true rfl) rfl rfl (xh_2_0 hS) ?_
  refine v_aload_n dX4_begin_27 rfl ?_
  refine v_iconst (0) dX4_begin_28 (by decide) ?_
  refine v_putI fl_X4_71 (fun z => by cases z) dX4_begin_29 rfl rfl (Nat.le_of_ble_eq_true rfl) rfl rfl (xh_2_0 hS) ?_
  refine v_return dX4_begin_32 rfl ?_
  exact ⟨rfl, rfl⟩
set_option maxRecDepth 20000 in
theorem m_rewind (g : G0) (h : Hp) (hS : SX h) {n : Int32} : Mx g yX8_rewind wX8_rewind 0 [pR (1, 0), pI n] h 0 0 (qE none (rwH h n)) noX := by
  refine Mx.by kfX8_rewind rfl (by decide) (Nat.le_of_ble_eq_true rfl) ?_
  refine v_aload_n dX8_rewind_0 rfl ?_
  refine v_iload_n dX8_rewind_1 rfl ?_
  refine v_putI fl_X8_19 (fun z => by cases z) dX8_rewind_2 rfl rfl (Nat.le_of_ble_eq_true rfl) rfl rfl (xh_1_0 hS) ?_
  refine v_aload_n dX8_rewind_5 rfl ?_
  refine v_iconst (0) dX8_rewind_6 (by decide) ?_
  refine v_putI fl_X8_22 (fun z => by cases z) dX8_rewind_7 rfl rfl (Nat.le_of_ble_eq_true rfl) rfl rfl (xh_1_0 hS) ?_
  refine v_return dX8_rewind_10 rfl ?_
  exact ⟨rfl, rfl⟩
def rdT (e : Nat) (h : Hp) : Hp := tkH h (tok (vi h (13, 0)) e (vi h (1, 0) 3).toNatClampNeg)
def rLp (e : Nat) : Nat → Nat → Hp → Hp
  | 0, _, h => h
  | j + 1, s, h => if s = 12 then h else rLp e j (rSt (rdT e h) s).1.toNatClampNeg (rSt (rdT e h) s).2
theorem tokS_le (b : Nat → Int32) {e s : Nat} (hs : s ≤ e) (he : e ≤ 300) : s ≤ (tokS b e s).1 ∧ (tokS b e s).1 ≤ e ∧ (tokS b e s).2.1 = s := by
  unfold tokS
  split
  · rename_i c
    have l : s < e := (nI_ltI (by omega) (by omega)).mp c
    split
    · split
      · split
        · exact ⟨Nat.le_succ _, l, rfl⟩
        · exact ⟨Nat.le_succ _, l, rfl⟩
      · have := spn_le b (e - s) s
        exact ⟨this.1, by show spn b (e - s) s ≤ e; omega, rfl⟩
    · have := tnA_le b (e - s) s 0
      exact ⟨this.1, by show (tnA b (e - s) s 0).1 ≤ e; omega, rfl⟩
  · exact ⟨Nat.le_refl _, hs, rfl⟩
theorem tok_le (b : Nat → Int32) {e q : Nat} (hq : q ≤ e) (he : e ≤ 300) : q ≤ (tok b e q).1 ∧ (tok b e q).1 ≤ e := by
  have a := skp_le b (e - q) q
  have c := tokS_le b (e := e) (s := skp b (e - q) q) (by omega) he
  unfold tok
  omega
theorem WItp {h : Hp} (w : WI h) (a p k v : Int32) : WI (tp h a p k v) := by
  obtain ⟨⟨n, hn, e⟩, m, hm, f⟩ := w
  exact ⟨⟨n, hn, by rw [tp_o _ _ _ _ _ _ (by decide)]; exact e⟩, m, hm, by rw [tp_o _ _ _ _ _ _ (by decide)]; exact f⟩
theorem RItp {h : Hp} (w : RI h) (a p k v : Int32) : RI (tp h a p k v) := RIo w (by rw [tp_o _ _ _ _ _ _ (by decide)])
/-- the reading's invariant -/
def RJ (e : Nat) (h : Hp) : Prop := SX h ∧ WI h ∧ RI h ∧ vi h (1, 0) 2 = nI e ∧ ∃ q, q ≤ e ∧ vi h (1, 0) 3 = nI q
theorem rdT_ok {e : Nat} (he : e ≤ 300) {h : Hp} (j : RJ e h) : RJ e (rdT e h) := by
  obtain ⟨s, w, i, e2, q, hq, e3⟩ := j
  refine ⟨s, WItp w _ _ _ _, RItp i _ _ _ _, e2, ?_⟩
  have := tok_le (vi h (13, 0)) hq he
  refine ⟨_, ?_, rfl⟩
  rw [e3, nI_clamp (by omega)]
  exact this.2
theorem rSt_J {e : Nat} {h : Hp} (j : RJ e h) (k : Nat) : RJ e (rSt h k).2 ∧ ∃ m, m ≤ 12 ∧ (rSt h k).1 = nI m := by
  obtain ⟨s, w, i, e2, q, hq, e3⟩ := j
  obtain ⟨f, w2, i2, m, hm, em⟩ := rSt_ok s w i k
  have e1 : ∀ t, vi (rSt h k).2 (1, 0) t = vi h (1, 0) t := fun t => f.2.2.2.2 (1, 0) t (by decide) (by decide) (fun z => by cases z)
  exact ⟨⟨SXFq f s, w2, i2, (e1 2).trans e2, q, hq, (e1 3).trans e3⟩, m, hm, em⟩
set_option maxRecDepth 20000 in
theorem read_loop (g : G0) {e : Nat} (he : e ≤ 300) : ∀ (j i s : Nat) (y x : Int32) (h : Hp), RJ e h → s ≤ 12 → i + j = 301 → y = nI s → x = nI i → V g kfX4_read 8 0 0 16 [(0, pR (2, 0)), (2, pI y), (3, pI x)] [] h (qE (some (pI (vi (rLp e j s h) (2, 0) 6))) (rLp e j s h)) (fun _ _ a h' => noX a h') := by
  intro j
  induction j with
  | zero =>
    intro i s y x h hJ hs hij hy hx
    subst hx hy
    have hS := hJ.1
    refine v_iload_n dX4_read_16 rfl ?_
    refine v_sipush (300) dX4_read_17 (by decide) ?_
    refine v_icmp_gt 48 dX4_read_20 (by decide) (fun _ => ?_) (fun z => absurd (show nI 300 < nI i from nI_lt (by omega) (by omega)) z)
    refine v_aload_n dX4_read_48 rfl ?_
    refine v_getI fl_X4_48 dX4_read_49 rfl rfl (Nat.le_of_ble_eq_true rfl) (xh_2_0 hS) ?_
    refine v_ireturn dX4_read_52 rfl rfl ?_
    exact ⟨rfl, rfl⟩
  | succ j ih =>
    intro i s y x h hJ hs hij hy hx
    subst hx hy
    have hS := hJ.1
    obtain ⟨q, hq, e3⟩ := hJ.2.2.2.2
    have ecl : (vi h (1, 0) 3).toNatClampNeg = q := by rw [e3, nI_clamp (by omega)]
    have hT : rdT e h = tkH h (tok (vi h (13, 0)) e q) := by rw [rdT, ecl]
    have jT := rdT_ok he hJ
    have hS2 := jT.1
    obtain ⟨jS, m, hm, em⟩ := rSt_J jT s
    refine v_iload_n dX4_read_16 rfl ?_
    refine v_sipush (300) dX4_read_17 (by decide) ?_
    refine v_icmp_gt 48 dX4_read_20 (by decide) (fun z => absurd z (show ¬ nI 300 < nI i from nI_nlt (by omega) (by omega))) (fun _ => ?_)
    refine v_iload_n dX4_read_23 rfl ?_
    refine v_bipush (12) dX4_read_24 (by decide) ?_
    refine v_icmp_eq 48 dX4_read_26 (by decide) (fun c26 => ?_) (fun c26 => ?_)
    · refine v_aload_n dX4_read_48 rfl ?_
      refine v_getI fl_X4_48 dX4_read_49 rfl rfl (Nat.le_of_ble_eq_true rfl) (xh_2_0 hS) ?_
      refine v_ireturn dX4_read_52 rfl rfl ?_
      have s12 : s = 12 := (nI_eq (by omega) (by omega)).mp (show nI s = nI 12 from c26)
      exact ⟨by rw [rLp, if_pos s12], by rw [rLp, if_pos s12]⟩
    · refine v_aload_n dX4_read_29 rfl ?_
      refine v_getR (some (1, 0)) fl_X4_28 dX4_read_30 rfl rfl (Nat.le_of_ble_eq_true rfl) (xh_2_0 hS) (xr_2_0_0 hS) ?_
      refine v_invVE (m_advance g h hS hJ.2.2.2.1 he hq e3) dX4_read_33 cwX8_advance mlX4_41 (ob_1 _) rfl rfl (by decide) (by decide) (Nat.le_of_ble_eq_true rfl) ?_
      rw [← hT]
      have s12 : ¬ s = 12 := fun z => c26 (by rw [z]; decide)
      have hs12 : s < 12 := by omega
      refine v_aload_n dX4_read_36 rfl ?_
      refine v_iload_n dX4_read_37 rfl ?_
      refine v_invVE (m_step g (rdT e h) jT.1 jT.2.1 jT.2.2.1 hs12) dX4_read_38 cwX4_step mlX4_44 (ob_2 _) rfl rfl (by decide) (by decide) (Nat.le_of_ble_eq_true rfl) ?_
      rw [em]
      refine v_istore_n dX4_read_41 (by decide) ?_
      refine v_iinc _ dX4_read_42 rfl rfl (by decide) ?_
      refine v_goto 16 dX4_read_45 (by decide) ?_
      have eL : rLp e (j + 1) s h = rLp e j m (rSt (rdT e h) s).2 := by rw [rLp, if_neg s12, em, nI_clamp (by omega)]
      rw [eL]
      refine v_loc [(0, pR (2, 0)), (2, pI (nI m)), (3, pI (nI i + 1))] rfl ?_
      exact ih (i + 1) m _ _ _ jS hm (by omega) rfl (nI_1 i)
def rRd (h : Hp) (n : Nat) : Hp := rLp n 301 0 (rwH (bgH h) (nI n))
theorem RJst {h : Hp} (hS : SX h) (n : Nat) : RJ n (rwH (bgH h) (nI n)) := by
  refine ⟨hS, ⟨⟨0, by decide, ?_⟩, 0, by decide, ?_⟩, ⟨0, by decide, ?_⟩, ?_, 0, by omega, ?_⟩
  · rfl
  · rfl
  · rfl
  · rfl
  · rfl
set_option maxRecDepth 20000 in
theorem m_read (g : G0) (h : Hp) (hS : SX h) {n : Nat} (hn : n ≤ 300) : Mx g yX4_read wX4_read 8 [pR (2, 0), pI (nI n)] h 0 0 (qE (some (pI (vi (rRd h n) (2, 0) 6))) (rRd h n)) noX := by
  refine Mx.by kfX4_read rfl (by decide) (Nat.le_of_ble_eq_true rfl) ?_
  refine v_aload_n dX4_read_0 rfl ?_
  refine v_invVE (m_rbegin g h hS) dX4_read_1 cwX4_begin mlX4_32 (ob_2 _) rfl rfl (by decide) (by decide) (Nat.le_of_ble_eq_true rfl) ?_
  change V g _ _ _ _ _ _ _ (bgH h) _ _
  refine v_aload_n dX4_read_4 rfl ?_
  refine v_getR (some (1, 0)) fl_X4_28 dX4_read_5 rfl rfl (Nat.le_of_ble_eq_true rfl) (xh_2_0 hS) (xr_2_0_0 hS) ?_
  refine v_iload_n dX4_read_8 rfl ?_
  refine v_invVE (m_rewind g (bgH h) hS) dX4_read_9 cwX8_rewind mlX4_35 (ob_1 _) rfl rfl (by decide) (by decide) (Nat.le_of_ble_eq_true rfl) ?_
  refine v_iconst (0) dX4_read_12 (by decide) ?_
  refine v_istore_n dX4_read_13 (by decide) ?_
  refine v_iconst (0) dX4_read_14 (by decide) ?_
  refine v_istore_n dX4_read_15 (by decide) ?_
  refine v_loc [(0, pR (2, 0)), (2, pI 0), (3, pI 0)] rfl ?_
  exact read_loop g hn 301 0 0 0 0 _ (RJst hS n) (by decide) (by decide) rfl rfl
