theorem DL_HD_s {h h2 : Hp} {k : Nat} {W M N W' M' : Nat → Int32} {n : Nat} {cd : List Int32} {rl : List mOp} {w : Int32} (a : HD_s k n w h h2) (hW : ∀ i, i < n → W' i = W i) (hM : ∀ i, i < n → M' i = M i) (d : DL_s h k W M N n cd rl) : DL_s h2 k W' M' N n cd rl := DL_c_s n cd rl ⟨a.2.2.2.2.2.1, fun i _ => a.2.2.2.2.2.2.1 i, fun i _ => a.2.2.2.2.2.2.2 i, hW, hM, fun _ _ => rfl⟩ d
theorem DL_nu_s {h h2 : Hp} {k : Nat} {W M N M' : Nat → Int32} {n : Nat} {cd : List Int32} {rl : List mOp} (f : ∀ p, p = 50 ∨ p = 51 ∨ p = 52 ∨ p = 53 ∨ p = 54 ∨ p = 58 ∨ p = 59 → ∀ i, ¬ (p = 51 ∧ i = n) → vi h2 (p, 0) i = vi h (p, 0) i) (hM : ∀ i, i < n → M' i = M i) (d : DL_s h k W M N n cd rl) : DL_s h2 k W M' N n cd rl := DL_c_s n cd rl ⟨fun p hp i hi => f p (by omega) i (by omega), fun i _ => f 58 (by decide) i (by omega), fun i _ => f 59 (by decide) i (by omega), fun _ _ => rfl, hM, fun _ _ => rfl⟩ d
theorem SX_E_s {k : Nat} {h0 h h2 : Hp} {n : Nat} {w : Int32} (E0 : Eqv (fRw_s k) h0 h) (a : HD_s k n w h h2) : Eqv (fRw_s k) h0 h2 := E0.tr a.2.2.2.2.1
set_option maxRecDepth 20000 in
theorem ch_order_s (g : G0) {b : Nat → Int32} {e : Nat} {Z : Hp} {cp k n : Nat} {h0 : Hp} {rl : List mOp} {d q : Nat} {h : Hp} (he : e ≤ 300) (hn : n < 12) (li : LI_s b e Z k n cp h q rl) (E0 : Eqv (fRw_s k) h0 h) (hk : (tok b e q).2.2.1 = 7) (ih : n + 1 ≤ 12 → ∀ (q2 cp2 : Nat) (rl2 : List mOp) (h2 : Hp) (y3 y4 : Int32), LI_s b e Z k (n + 1) cp2 h2 q2 rl2 → Eqv (fRw_s k) h0 h2 → V g kfX14_reads (d + 52) 0 0 26 [(2, pI 1), (4, pI y4), (3, pI y3), (0, pR (32, 0)), (1, pR (34, 0))] [] h2 (PQR_s b e Z k h0) (fun _ _ a h' => PXr_s k Z h0 a h')) : V g kfX14_reads (d + 52) 0 0 103 [(4, pI (nI n)), (3, pI 2), (2, pI 1), (0, pR (32, 0)), (1, pR (34, 0))] [] h (PQR_s b e Z k h0) (fun _ _ a h' => PXr_s k Z h0 a h') := by
  obtain ⟨r, hq, hrl, hcp, e2, c, j, te, nm, sg, nu, W, M, N, cd, cs, hZ, hj, hl, dl⟩ := li
  have q1 := tok_end (b := b) he hq
  have ad : q + 5 ≤ (tok b e q).1 := tok_w (j := 2) he hq (by decide) hk
  obtain ⟨j, rfl⟩ : ∃ j2, j = j2 + 1 := ⟨j - 1, by omega⟩
  obtain ⟨c1, z1, s1⟩ := st_order (j := j) cs (by omega) hk hn
  refine reads_h_s g he hq hn r (by rw [hk]; decide) (fun h2 r2 a => ?_)
  refine v_iload_n dX14_reads_131 rfl ?_
  refine v_iconst (2) dX14_reads_132 (by decide) ?_
  refine v_icmp_eq 184 dX14_reads_133 (by decide) (fun _ => ?_) (fun z => absurd rfl z)
  exact reads_order_s g he q1 hn hcp (by omega) r2 s1 (hZ.trans z1) rfl (by omega) (by omega) (DL_HD_s a (fun i hi => if_neg (by omega)) (fun i hi => if_neg (by omega)) dl) (a.2.2.2.1.trans e2) (SX_E_s E0 a) ((if_pos rfl).trans hk) a.1 (a.2.1.trans (if_pos rfl).symm) (if_pos rfl) a.2.2.1 ih
set_option maxRecDepth 20000 in
theorem ch_strike_s (g : G0) {b : Nat → Int32} {e : Nat} {Z : Hp} {cp k n : Nat} {h0 : Hp} {rl : List mOp} {d q : Nat} {h : Hp} (he : e ≤ 300) (hn : n < 12) (li : LI_s b e Z k n cp h q rl) (E0 : Eqv (fRw_s k) h0 h) (hk : (tok b e q).2.2.1 = 6) (ih : n + 1 ≤ 12 → ∀ (q2 cp2 : Nat) (rl2 : List mOp) (h2 : Hp) (y3 y4 : Int32), LI_s b e Z k (n + 1) cp2 h2 q2 rl2 → Eqv (fRw_s k) h0 h2 → V g kfX14_reads (d + 52) 0 0 26 [(2, pI 1), (4, pI y4), (3, pI y3), (0, pR (32, 0)), (1, pR (34, 0))] [] h2 (PQR_s b e Z k h0) (fun _ _ a h' => PXr_s k Z h0 a h')) : V g kfX14_reads (d + 52) 0 0 103 [(4, pI (nI n)), (3, pI 1), (2, pI 1), (0, pR (32, 0)), (1, pR (34, 0))] [] h (PQR_s b e Z k h0) (fun _ _ a h' => PXr_s k Z h0 a h') := by
  obtain ⟨r, hq, hrl, hcp, e2, c, j, te, nm, sg, nu, W, M, N, cd, cs, hZ, hj, hl, dl⟩ := li
  have q1 := tok_end (b := b) he hq
  have ad : q + 6 ≤ (tok b e q).1 := tok_w (j := 1) he hq (by decide) hk
  obtain ⟨j, rfl⟩ : ∃ j2, j = j2 + 2 := ⟨j - 2, by omega⟩
  obtain ⟨c1, z1, s1⟩ := st_strike (j := j + 1) cs (by omega) hk hn
  refine reads_h_s g he hq hn r (by rw [hk]; decide) (fun h2 r2 a => ?_)
  refine v_iload_n dX14_reads_131 rfl ?_
  refine v_iconst (2) dX14_reads_132 (by decide) ?_
  refine v_icmp_eq 184 dX14_reads_133 (by decide) (fun z => absurd z (by decide)) (fun _ => ?_)
  refine reads_num_s g he q1 hn r2 (SX_E_s E0 a) (fun n2 => by rw [hZ, z1]; exact ft_snum1 s1 (by omega) n2) (fun k2 v => by rw [hZ, z1]; exact ft_snum3 s1 (by omega) k2 v) (fun h3 m k2 m1 m2 hv r3 f41 f3 f2 E3 => ?_)
  have ad2 := tok_adv he q1 (by rw [k2]; decide)
  have v1 : ¬ (tok b e (tok b e q).1).2.2.2 < 1 := by rw [hv]; exact nI_nlt (a := m) (b := 1) m1 (by omega)
  have v2 : (tok b e (tok b e q).1).2.2.2 ≤ 12 := by rw [hv]; exact nI_le (b := 12) m2 (by decide)
  obtain ⟨c3, z3, s3⟩ := st_snum (j := j) s1 (by omega) (by omega) k2 v1 v2
  have ms : (fun i => if i = n + 1 - 1 then (tok b e (tok b e q).1).2.2.2 else if i = n then 0 else M i) = (fun i => if i = n then nI m else M i) := by
    funext i; rw [hv, Nat.add_sub_cancel]; by_cases z : i = n
    · rw [if_pos z, if_pos z]
    · rw [if_neg z, if_neg z, if_neg z]
  rw [ms] at s3
  have d3 := DL_nu_s (M' := fun i => if i = n then nI m else M i) f3 (fun i hi => (if_neg (by omega)).trans (if_neg (by omega)).symm) (DL_HD_s (W' := fun i => if i = n then (tok b e q).2.2.1 else W i) (M' := fun i => if i = n then 0 else M i) a (fun i hi => if_neg (by omega)) (fun i hi => if_neg (by omega)) dl)
  exact reads_strike_s g he (tok_end he q1) hn hcp (by omega) r3 s3 ((hZ.trans z1).trans z3) (by omega) (by omega) d3 (f2.trans (a.2.2.2.1.trans e2)) E3 ((if_pos rfl).trans hk) ((f3 50 (by decide) n (by omega)).trans a.1) (f41.trans (if_pos rfl).symm) m1 m2 (if_pos rfl) ih
set_option maxRecDepth 20000 in
theorem ch_put_s (g : G0) {b : Nat → Int32} {e : Nat} {Z : Hp} {cp k n : Nat} {h0 : Hp} {rl : List mOp} {d q : Nat} {h : Hp} (he : e ≤ 300) (hn : n < 12) (li : LI_s b e Z k n cp h q rl) (E0 : Eqv (fRw_s k) h0 h) (hk : (tok b e q).2.2.1 = 5) (ih : n + 1 ≤ 12 → ∀ (q2 cp2 : Nat) (rl2 : List mOp) (h2 : Hp) (y3 y4 : Int32), LI_s b e Z k (n + 1) cp2 h2 q2 rl2 → Eqv (fRw_s k) h0 h2 → V g kfX14_reads (d + 52) 0 0 26 [(2, pI 1), (4, pI y4), (3, pI y3), (0, pR (32, 0)), (1, pR (34, 0))] [] h2 (PQR_s b e Z k h0) (fun _ _ a h' => PXr_s k Z h0 a h')) : V g kfX14_reads (d + 52) 0 0 103 [(4, pI (nI n)), (3, pI 0), (2, pI 1), (0, pR (32, 0)), (1, pR (34, 0))] [] h (PQR_s b e Z k h0) (fun _ _ a h' => PXr_s k Z h0 a h') := by
  obtain ⟨r, hq, hrl, hcp, e2, c, j, te, nm, sg, nu, W, M, N, cd, cs, hZ, hj, hl, dl⟩ := li
  have q1 := tok_end (b := b) he hq
  have ad : q + 3 ≤ (tok b e q).1 := tok_w (j := 0) he hq (by decide) hk
  obtain ⟨j, rfl⟩ : ∃ j2, j = j2 + 2 := ⟨j - 2, by omega⟩
  obtain ⟨c1, z1, s1⟩ := st_put (j := j + 1) cs (by omega) hk hn
  refine reads_h_s g he hq hn r (by rw [hk]; decide) (fun h2 r2 a => ?_)
  refine v_iload_n dX14_reads_131 rfl ?_
  refine v_iconst (2) dX14_reads_132 (by decide) ?_
  refine v_icmp_eq 184 dX14_reads_133 (by decide) (fun z => absurd z (by decide)) (fun _ => ?_)
  refine reads_num_s g he q1 hn r2 (SX_E_s E0 a) (fun n2 => by rw [hZ, z1]; exact ft_pnum1 s1 (by omega) n2) (fun k2 v => by rw [hZ, z1]; exact ft_pnum3 s1 (by omega) k2 v) (fun h3 m k2 m1 m2 hv r3 f41 f3 f2 E3 => ?_)
  have ad2 := tok_adv he q1 (by rw [k2]; decide)
  have v1 : ¬ (tok b e (tok b e q).1).2.2.2 < 1 := by rw [hv]; exact nI_nlt (a := m) (b := 1) m1 (by omega)
  have v2 : (tok b e (tok b e q).1).2.2.2 ≤ 12 := by rw [hv]; exact nI_le (b := 12) m2 (by decide)
  obtain ⟨c3, z3, s3⟩ := st_pnum (j := j) s1 (by omega) (by omega) k2 v1 v2
  have ms : (fun i => if i = n + 1 - 1 then (tok b e (tok b e q).1).2.2.2 else if i = n then 0 else M i) = (fun i => if i = n then nI m else M i) := by
    funext i; rw [hv, Nat.add_sub_cancel]; by_cases z : i = n
    · rw [if_pos z, if_pos z]
    · rw [if_neg z, if_neg z, if_neg z]
  rw [ms] at s3
  have d3 := DL_nu_s (M' := fun i => if i = n then nI m else M i) f3 (fun i hi => (if_neg (by omega)).trans (if_neg (by omega)).symm) (DL_HD_s (W' := fun i => if i = n then (tok b e q).2.2.1 else W i) (M' := fun i => if i = n then 0 else M i) a (fun i hi => if_neg (by omega)) (fun i hi => if_neg (by omega)) dl)
  exact reads_put_s g he (tok_end he q1) hn hcp (by omega) r3 s3 ((hZ.trans z1).trans z3) (by omega) (by omega) d3 (f2.trans (a.2.2.2.1.trans e2)) E3 ((if_pos rfl).trans hk) ((f3 50 (by decide) n (by omega)).trans a.1) (f41.trans (if_pos rfl).symm) m1 m2 (if_pos rfl) ih
set_option maxRecDepth 20000 in
theorem ch_bodyA_s (g : G0) {b : Nat → Int32} {e : Nat} {Z : Hp} {cp k n : Nat} {h0 : Hp} {rl : List mOp} {d q : Nat} {h : Hp} (he : e ≤ 300) (hn : n ≤ 12) (li : LI_s b e Z k n cp h q rl) (E0 : Eqv (fRw_s k) h0 h) (ih : n + 1 ≤ 12 → ∀ (q2 cp2 : Nat) (rl2 : List mOp) (h2 : Hp) (y3 y4 : Int32), LI_s b e Z k (n + 1) cp2 h2 q2 rl2 → Eqv (fRw_s k) h0 h2 → V g kfX14_reads (d + 52) 0 0 26 [(2, pI 1), (4, pI y4), (3, pI y3), (0, pR (32, 0)), (1, pR (34, 0))] [] h2 (PQR_s b e Z k h0) (fun _ _ a h' => PXr_s k Z h0 a h')) : V g kfX14_reads (d + 52) 0 0 26 [(2, pI 1), (0, pR (32, 0)), (1, pR (34, 0))] [] h (PQR_s b e Z k h0) (fun _ _ a h' => PXr_s k Z h0 a h') := by
  have li0 := li
  obtain ⟨r, hq, hrl, hcp, e2, c, j, te, nm, sg, nu, W, M, N, cd, cs, hZ, hj, hl, dl⟩ := li
  have q1 := tok_end (b := b) he hq
  have hM := r.1
  have t := r.2.2.2.2.1
  have E1 := E0
  obtain ⟨j, rfl⟩ : ∃ j2, j = j2 + 1 := ⟨j - 1, by omega⟩
  refine v_iload_n dX14_reads_26 rfl ?_
  refine v_if_eq 255 dX14_reads_27 (by decide) (fun z => absurd z (by decide)) (fun _ => ?_)
  refine v_aload_n dX14_reads_30 rfl ?_
  refine v_ldcS (j := 0) (tx := "put") dX14_reads_31 (by decide) ?_
  refine v_invVE (M_isWord g h hM (j := 0) (by decide)) dX14_reads_33 cwX14_isWord mlX14_182 (ob_32 _) rfl rfl (by omega) (by decide) (Nat.le_of_ble_eq_true rfl) ?_
  refine v_if_eq 43 dX14_reads_36 (by decide) (fun c36 => ?_) (fun c36 => ?_)
  · refine v_aload_n dX14_reads_43 rfl ?_
    refine v_ldcS (j := 1) (tx := "strike") dX14_reads_44 (by decide) ?_
    refine v_invVE (M_isWord g h hM (j := 1) (by decide)) dX14_reads_46 cwX14_isWord mlX14_182 (ob_32 _) rfl rfl (by omega) (by decide) (Nat.le_of_ble_eq_true rfl) ?_
    refine v_if_eq 56 dX14_reads_49 (by decide) (fun c49 => ?_) (fun c49 => ?_)
    · refine v_aload_n dX14_reads_56 rfl ?_
      refine v_ldcS (j := 2) (tx := "order") dX14_reads_57 (by decide) ?_
      refine v_invVE (M_isWord g h hM (j := 2) (by decide)) dX14_reads_59 cwX14_isWord mlX14_182 (ob_32 _) rfl rfl (by omega) (by decide) (Nat.le_of_ble_eq_true rfl) ?_
      refine v_if_eq 69 dX14_reads_62 (by decide) (fun c62 => ?_) (fun c62 => ?_)
      · refine v_iconst (-1) dX14_reads_69 (by decide) ?_
        refine v_istore_n dX14_reads_70 (by decide) ?_
        refine v_iload_n dX14_reads_71 rfl ?_
        refine v_iconst (-1) dX14_reads_72 (by decide) ?_
        refine v_icmp_ne 82 dX14_reads_73 (by decide) (fun z => absurd (by decide) z) (fun _ => ?_)
        refine v_aload_n dX14_reads_76 rfl ?_
        refine v_iconst (1) dX14_reads_77 (by decide) ?_
        refine v_invVE (M_stop g h hM) dX14_reads_78 cwX14_stop mlX14_196 (ob_32 _) rfl rfl (by omega) (by decide) (Nat.le_of_ble_eq_true rfl) ?_
        refine v_athrow dX14_reads_81 ?_
        exact PXr_st_s E1 r.2.1 t (by rw [hZ]; exact ft_chform cs (by omega) (fun y => (t.mk (j := 0) (by decide)).mpr y c36) (fun y => (t.mk (j := 1) (by decide)).mpr y c49) (fun y => (t.mk (j := 2) (by decide)).mpr y c62))
      · have kk := (t.mk (j := 2) (by decide)).mp c62
        refine v_iconst (2) dX14_reads_65 (by decide) ?_
        refine v_goto 70 dX14_reads_66 (by decide) ?_
        refine v_istore_n dX14_reads_70 (by decide) ?_
        refine v_iload_n dX14_reads_71 rfl ?_
        refine v_iconst (-1) dX14_reads_72 (by decide) ?_
        refine v_icmp_ne 82 dX14_reads_73 (by decide) (fun _ => ?_) (fun z => absurd z (by decide))
        refine v_aload_n dX14_reads_82 rfl ?_
        refine v_getI fl_X14_208 dX14_reads_83 rfl rfl (Nat.le_of_ble_eq_true rfl) r.2.1.1 ?_
        rw [e2]
        refine v_bipush (12) dX14_reads_86 (by decide) ?_
        refine v_icmp_ne 97 dX14_reads_88 (by decide) (fun c88 => ?_) (fun c88 => ?_)
        · refine v_aload_n dX14_reads_97 rfl ?_
          refine v_getI fl_X14_208 dX14_reads_98 rfl rfl (Nat.le_of_ble_eq_true rfl) r.2.1.1 ?_
          rw [e2]
          refine v_istore dX14_reads_101 (by decide) ?_
          exact ch_order_s g he (by have n12 : ¬ n = 12 := fun z => c88 (by rw [z]; rfl); omega) li0 E0 kk ih
        · refine v_aload_n dX14_reads_91 rfl ?_
          refine v_iconst (4) dX14_reads_92 (by decide) ?_
          refine v_invVE (M_stop g h hM) dX14_reads_93 cwX14_stop mlX14_196 (ob_32 _) rfl rfl (by omega) (by decide) (Nat.le_of_ble_eq_true rfl) ?_
          refine v_athrow dX14_reads_96 ?_
          exact PXr_st_s E1 r.2.1 t (by rw [hZ]; exact ft_chmany cs (by omega) (Or.inr (Or.inr kk)) ((nI_eq (b := 12) (by omega) (by decide)).mp c88))
    · have kk := (t.mk (j := 1) (by decide)).mp c49
      refine v_iconst (1) dX14_reads_52 (by decide) ?_
      refine v_goto 70 dX14_reads_53 (by decide) ?_
      refine v_istore_n dX14_reads_70 (by decide) ?_
      refine v_iload_n dX14_reads_71 rfl ?_
      refine v_iconst (-1) dX14_reads_72 (by decide) ?_
      refine v_icmp_ne 82 dX14_reads_73 (by decide) (fun _ => ?_) (fun z => absurd z (by decide))
      refine v_aload_n dX14_reads_82 rfl ?_
      refine v_getI fl_X14_208 dX14_reads_83 rfl rfl (Nat.le_of_ble_eq_true rfl) r.2.1.1 ?_
      rw [e2]
      refine v_bipush (12) dX14_reads_86 (by decide) ?_
      refine v_icmp_ne 97 dX14_reads_88 (by decide) (fun c88 => ?_) (fun c88 => ?_)
      · refine v_aload_n dX14_reads_97 rfl ?_
        refine v_getI fl_X14_208 dX14_reads_98 rfl rfl (Nat.le_of_ble_eq_true rfl) r.2.1.1 ?_
        rw [e2]
        refine v_istore dX14_reads_101 (by decide) ?_
        exact ch_strike_s g he (by have n12 : ¬ n = 12 := fun z => c88 (by rw [z]; rfl); omega) li0 E0 kk ih
      · refine v_aload_n dX14_reads_91 rfl ?_
        refine v_iconst (4) dX14_reads_92 (by decide) ?_
        refine v_invVE (M_stop g h hM) dX14_reads_93 cwX14_stop mlX14_196 (ob_32 _) rfl rfl (by omega) (by decide) (Nat.le_of_ble_eq_true rfl) ?_
        refine v_athrow dX14_reads_96 ?_
        exact PXr_st_s E1 r.2.1 t (by rw [hZ]; exact ft_chmany cs (by omega) (Or.inr (Or.inl kk)) ((nI_eq (b := 12) (by omega) (by decide)).mp c88))
  · have kk := (t.mk (j := 0) (by decide)).mp c36
    refine v_iconst (0) dX14_reads_39 (by decide) ?_
    refine v_goto 70 dX14_reads_40 (by decide) ?_
    refine v_istore_n dX14_reads_70 (by decide) ?_
    refine v_iload_n dX14_reads_71 rfl ?_
    refine v_iconst (-1) dX14_reads_72 (by decide) ?_
    refine v_icmp_ne 82 dX14_reads_73 (by decide) (fun _ => ?_) (fun z => absurd z (by decide))
    refine v_aload_n dX14_reads_82 rfl ?_
    refine v_getI fl_X14_208 dX14_reads_83 rfl rfl (Nat.le_of_ble_eq_true rfl) r.2.1.1 ?_
    rw [e2]
    refine v_bipush (12) dX14_reads_86 (by decide) ?_
    refine v_icmp_ne 97 dX14_reads_88 (by decide) (fun c88 => ?_) (fun c88 => ?_)
    · refine v_aload_n dX14_reads_97 rfl ?_
      refine v_getI fl_X14_208 dX14_reads_98 rfl rfl (Nat.le_of_ble_eq_true rfl) r.2.1.1 ?_
      rw [e2]
      refine v_istore dX14_reads_101 (by decide) ?_
      exact ch_put_s g he (by have n12 : ¬ n = 12 := fun z => c88 (by rw [z]; rfl); omega) li0 E0 kk ih
    · refine v_aload_n dX14_reads_91 rfl ?_
      refine v_iconst (4) dX14_reads_92 (by decide) ?_
      refine v_invVE (M_stop g h hM) dX14_reads_93 cwX14_stop mlX14_196 (ob_32 _) rfl rfl (by omega) (by decide) (Nat.le_of_ble_eq_true rfl) ?_
      refine v_athrow dX14_reads_96 ?_
      exact PXr_st_s E1 r.2.1 t (by rw [hZ]; exact ft_chmany cs (by omega) (Or.inl kk) ((nI_eq (b := 12) (by omega) (by decide)).mp c88))
set_option maxRecDepth 20000 in
theorem ch_bodyB_s (g : G0) {b : Nat → Int32} {e : Nat} {Z : Hp} {cp k n : Nat} {h0 : Hp} {rl : List mOp} {d q : Nat} {h : Hp} {y3 y4 : Int32} (he : e ≤ 300) (hn : n ≤ 12) (li : LI_s b e Z k n cp h q rl) (E0 : Eqv (fRw_s k) h0 h) (ih : n + 1 ≤ 12 → ∀ (q2 cp2 : Nat) (rl2 : List mOp) (h2 : Hp) (y3 y4 : Int32), LI_s b e Z k (n + 1) cp2 h2 q2 rl2 → Eqv (fRw_s k) h0 h2 → V g kfX14_reads (d + 52) 0 0 26 [(2, pI 1), (4, pI y4), (3, pI y3), (0, pR (32, 0)), (1, pR (34, 0))] [] h2 (PQR_s b e Z k h0) (fun _ _ a h' => PXr_s k Z h0 a h')) : V g kfX14_reads (d + 52) 0 0 26 [(2, pI 1), (4, pI y4), (3, pI y3), (0, pR (32, 0)), (1, pR (34, 0))] [] h (PQR_s b e Z k h0) (fun _ _ a h' => PXr_s k Z h0 a h') := by
  have li0 := li
  obtain ⟨r, hq, hrl, hcp, e2, c, j, te, nm, sg, nu, W, M, N, cd, cs, hZ, hj, hl, dl⟩ := li
  have q1 := tok_end (b := b) he hq
  have hM := r.1
  have t := r.2.2.2.2.1
  have E1 := E0
  obtain ⟨j, rfl⟩ : ∃ j2, j = j2 + 1 := ⟨j - 1, by omega⟩
  refine v_iload_n dX14_reads_26 rfl ?_
  refine v_if_eq 255 dX14_reads_27 (by decide) (fun z => absurd z (by decide)) (fun _ => ?_)
  refine v_aload_n dX14_reads_30 rfl ?_
  refine v_ldcS (j := 0) (tx := "put") dX14_reads_31 (by decide) ?_
  refine v_invVE (M_isWord g h hM (j := 0) (by decide)) dX14_reads_33 cwX14_isWord mlX14_182 (ob_32 _) rfl rfl (by omega) (by decide) (Nat.le_of_ble_eq_true rfl) ?_
  refine v_if_eq 43 dX14_reads_36 (by decide) (fun c36 => ?_) (fun c36 => ?_)
  · refine v_aload_n dX14_reads_43 rfl ?_
    refine v_ldcS (j := 1) (tx := "strike") dX14_reads_44 (by decide) ?_
    refine v_invVE (M_isWord g h hM (j := 1) (by decide)) dX14_reads_46 cwX14_isWord mlX14_182 (ob_32 _) rfl rfl (by omega) (by decide) (Nat.le_of_ble_eq_true rfl) ?_
    refine v_if_eq 56 dX14_reads_49 (by decide) (fun c49 => ?_) (fun c49 => ?_)
    · refine v_aload_n dX14_reads_56 rfl ?_
      refine v_ldcS (j := 2) (tx := "order") dX14_reads_57 (by decide) ?_
      refine v_invVE (M_isWord g h hM (j := 2) (by decide)) dX14_reads_59 cwX14_isWord mlX14_182 (ob_32 _) rfl rfl (by omega) (by decide) (Nat.le_of_ble_eq_true rfl) ?_
      refine v_if_eq 69 dX14_reads_62 (by decide) (fun c62 => ?_) (fun c62 => ?_)
      · refine v_iconst (-1) dX14_reads_69 (by decide) ?_
        refine v_istore_n dX14_reads_70 (by decide) ?_
        refine v_iload_n dX14_reads_71 rfl ?_
        refine v_iconst (-1) dX14_reads_72 (by decide) ?_
        refine v_icmp_ne 82 dX14_reads_73 (by decide) (fun z => absurd (by decide) z) (fun _ => ?_)
        refine v_aload_n dX14_reads_76 rfl ?_
        refine v_iconst (1) dX14_reads_77 (by decide) ?_
        refine v_invVE (M_stop g h hM) dX14_reads_78 cwX14_stop mlX14_196 (ob_32 _) rfl rfl (by omega) (by decide) (Nat.le_of_ble_eq_true rfl) ?_
        refine v_athrow dX14_reads_81 ?_
        exact PXr_st_s E1 r.2.1 t (by rw [hZ]; exact ft_chform cs (by omega) (fun y => (t.mk (j := 0) (by decide)).mpr y c36) (fun y => (t.mk (j := 1) (by decide)).mpr y c49) (fun y => (t.mk (j := 2) (by decide)).mpr y c62))
      · have kk := (t.mk (j := 2) (by decide)).mp c62
        refine v_iconst (2) dX14_reads_65 (by decide) ?_
        refine v_goto 70 dX14_reads_66 (by decide) ?_
        refine v_istore_n dX14_reads_70 (by decide) ?_
        refine v_iload_n dX14_reads_71 rfl ?_
        refine v_iconst (-1) dX14_reads_72 (by decide) ?_
        refine v_icmp_ne 82 dX14_reads_73 (by decide) (fun _ => ?_) (fun z => absurd z (by decide))
        refine v_aload_n dX14_reads_82 rfl ?_
        refine v_getI fl_X14_208 dX14_reads_83 rfl rfl (Nat.le_of_ble_eq_true rfl) r.2.1.1 ?_
        rw [e2]
        refine v_bipush (12) dX14_reads_86 (by decide) ?_
        refine v_icmp_ne 97 dX14_reads_88 (by decide) (fun c88 => ?_) (fun c88 => ?_)
        · refine v_aload_n dX14_reads_97 rfl ?_
          refine v_getI fl_X14_208 dX14_reads_98 rfl rfl (Nat.le_of_ble_eq_true rfl) r.2.1.1 ?_
          rw [e2]
          refine v_istore dX14_reads_101 (by decide) ?_
          exact ch_order_s g he (by have n12 : ¬ n = 12 := fun z => c88 (by rw [z]; rfl); omega) li0 E0 kk ih
        · refine v_aload_n dX14_reads_91 rfl ?_
          refine v_iconst (4) dX14_reads_92 (by decide) ?_
          refine v_invVE (M_stop g h hM) dX14_reads_93 cwX14_stop mlX14_196 (ob_32 _) rfl rfl (by omega) (by decide) (Nat.le_of_ble_eq_true rfl) ?_
          refine v_athrow dX14_reads_96 ?_
          exact PXr_st_s E1 r.2.1 t (by rw [hZ]; exact ft_chmany cs (by omega) (Or.inr (Or.inr kk)) ((nI_eq (b := 12) (by omega) (by decide)).mp c88))
    · have kk := (t.mk (j := 1) (by decide)).mp c49
      refine v_iconst (1) dX14_reads_52 (by decide) ?_
      refine v_goto 70 dX14_reads_53 (by decide) ?_
      refine v_istore_n dX14_reads_70 (by decide) ?_
      refine v_iload_n dX14_reads_71 rfl ?_
      refine v_iconst (-1) dX14_reads_72 (by decide) ?_
      refine v_icmp_ne 82 dX14_reads_73 (by decide) (fun _ => ?_) (fun z => absurd z (by decide))
      refine v_aload_n dX14_reads_82 rfl ?_
      refine v_getI fl_X14_208 dX14_reads_83 rfl rfl (Nat.le_of_ble_eq_true rfl) r.2.1.1 ?_
      rw [e2]
      refine v_bipush (12) dX14_reads_86 (by decide) ?_
      refine v_icmp_ne 97 dX14_reads_88 (by decide) (fun c88 => ?_) (fun c88 => ?_)
      · refine v_aload_n dX14_reads_97 rfl ?_
        refine v_getI fl_X14_208 dX14_reads_98 rfl rfl (Nat.le_of_ble_eq_true rfl) r.2.1.1 ?_
        rw [e2]
        refine v_istore dX14_reads_101 (by decide) ?_
        exact ch_strike_s g he (by have n12 : ¬ n = 12 := fun z => c88 (by rw [z]; rfl); omega) li0 E0 kk ih
      · refine v_aload_n dX14_reads_91 rfl ?_
        refine v_iconst (4) dX14_reads_92 (by decide) ?_
        refine v_invVE (M_stop g h hM) dX14_reads_93 cwX14_stop mlX14_196 (ob_32 _) rfl rfl (by omega) (by decide) (Nat.le_of_ble_eq_true rfl) ?_
        refine v_athrow dX14_reads_96 ?_
        exact PXr_st_s E1 r.2.1 t (by rw [hZ]; exact ft_chmany cs (by omega) (Or.inr (Or.inl kk)) ((nI_eq (b := 12) (by omega) (by decide)).mp c88))
  · have kk := (t.mk (j := 0) (by decide)).mp c36
    refine v_iconst (0) dX14_reads_39 (by decide) ?_
    refine v_goto 70 dX14_reads_40 (by decide) ?_
    refine v_istore_n dX14_reads_70 (by decide) ?_
    refine v_iload_n dX14_reads_71 rfl ?_
    refine v_iconst (-1) dX14_reads_72 (by decide) ?_
    refine v_icmp_ne 82 dX14_reads_73 (by decide) (fun _ => ?_) (fun z => absurd z (by decide))
    refine v_aload_n dX14_reads_82 rfl ?_
    refine v_getI fl_X14_208 dX14_reads_83 rfl rfl (Nat.le_of_ble_eq_true rfl) r.2.1.1 ?_
    rw [e2]
    refine v_bipush (12) dX14_reads_86 (by decide) ?_
    refine v_icmp_ne 97 dX14_reads_88 (by decide) (fun c88 => ?_) (fun c88 => ?_)
    · refine v_aload_n dX14_reads_97 rfl ?_
      refine v_getI fl_X14_208 dX14_reads_98 rfl rfl (Nat.le_of_ble_eq_true rfl) r.2.1.1 ?_
      rw [e2]
      refine v_istore dX14_reads_101 (by decide) ?_
      exact ch_put_s g he (by have n12 : ¬ n = 12 := fun z => c88 (by rw [z]; rfl); omega) li0 E0 kk ih
    · refine v_aload_n dX14_reads_91 rfl ?_
      refine v_iconst (4) dX14_reads_92 (by decide) ?_
      refine v_invVE (M_stop g h hM) dX14_reads_93 cwX14_stop mlX14_196 (ob_32 _) rfl rfl (by omega) (by decide) (Nat.le_of_ble_eq_true rfl) ?_
      refine v_athrow dX14_reads_96 ?_
      exact PXr_st_s E1 r.2.1 t (by rw [hZ]; exact ft_chmany cs (by omega) (Or.inl kk) ((nI_eq (b := 12) (by omega) (by decide)).mp c88))
