theorem row_o {h : Hp} {k p p' n i : Nat} {x : Int32} (hne : ¬ (p' = p ∧ i = n)) : vi (sI h (p, k) n x) (p', k) i = vi h (p', k) i := by
  by_cases y : p' = p
  · subst y; exact vi_sI_nk _ _ _ (fun z => hne ⟨rfl, z⟩)
  · exact vi_sI_ne _ _ _ _ (fun z => y (congrArg Prod.fst z))
theorem DL_w {h : Hp} {k : Nat} {W M N : Nat → Int32} {n : Nat} {cd : List Int32} {rl : List mOp} {p : Nat} {x : Int32} (hp : p < 48) (d : DL h k W M N n cd rl) : DL (sI h (p, k) n x) k W M N n cd rl := DL_c n cd rl ⟨fun p' _ i hi => row_o (fun z => by omega), fun i _ => row_o (fun z => by omega), fun i _ => row_o (fun z => by omega), fun _ _ => rfl, fun _ _ => rfl, fun _ _ => rfl⟩ d
/-- what the head of a change leaves -/
def HD (k n : Nat) (w : Int32) (h h2 : Hp) : Prop := vi h2 (40, k) n = w ∧ vi h2 (41, k) n = 0 ∧ vi h2 (44, k) n = 0 ∧ vi h2 (33, k) 2 = vi h (33, k) 2 ∧ Eqv (fRw k) h h2 ∧ (∀ p, p = 40 ∨ p = 41 ∨ p = 42 ∨ p = 43 ∨ p = 44 → ∀ i, i < n → vi h2 (p, k) i = vi h (p, k) i) ∧ (∀ i, vi h2 (48, k) i = vi h (48, k) i) ∧ (∀ i, vi h2 (49, k) i = vi h (49, k) i)
def h3w (h : Hp) (k n : Nat) (w : Int32) : Hp := sI (sI (sI h (40, k) n w) (41, k) n 0) (44, k) n 0
theorem h3w_HD (h : Hp) (k n : Nat) (w : Int32) : HD k n w h (h3w h k n w) := by
  have o : ∀ p i, ¬ (p = 40 ∧ i = n) → ¬ (p = 41 ∧ i = n) → ¬ (p = 44 ∧ i = n) → vi (h3w h k n w) (p, k) i = vi h (p, k) i := fun p i a b c => (row_o c).trans ((row_o b).trans (row_o a))
  refine ⟨?_, ?_, vi_sI_eq _ _ _ _, o 33 2 (by omega) (by omega) (by omega), (o_E h k (by decide) n w).tr ((o_E _ k (by decide) n 0).tr (o_E _ k (by decide) n 0)), fun p hp i hi => o p i (by omega) (by omega) (by omega), fun i => o 48 i (by omega) (by omega) (by omega), fun i => o 49 i (by omega) (by omega) (by omega)⟩
  · exact (row_o (p' := 40) (by omega)).trans ((row_o (p' := 40) (by omega)).trans (vi_sI_eq _ _ _ _))
  · exact (row_o (p' := 41) (by omega)).trans (vi_sI_eq _ _ _ _)
theorem HD.ps {k n : Nat} {w : Int32} {h h2 h3 : Hp} (a : HD k n w h h2) (e : Eqv (fPs k) h2 h3) : HD k n w h h3 := ⟨(Ps_row e (by decide) _).trans a.1, (Ps_row e (by decide) _).trans a.2.1, (Ps_row e (by decide) _).trans a.2.2.1, (Ps_2 e).trans a.2.2.2.1, a.2.2.2.2.1.tr (fPs_Rw e), fun p hp i hi => (Ps_row e (by omega) i).trans (a.2.2.2.2.2.1 p hp i hi), fun i => (Ps_row e (by decide) i).trans (a.2.2.2.2.2.2.1 i), fun i => (Ps_row e (by decide) i).trans (a.2.2.2.2.2.2.2 i)⟩
theorem h3w_RS {h : Hp} {k n : Nat} {w : Int32} {b : Nat → Int32} {e q dp cp : Nat} {rl : List mOp} (r : RS h k b e q dp cp rl) : RS (h3w h k n w) k b e q dp cp rl := RS_o (RS_o (RS_o r (by decide) n w) (by decide) n 0) (by decide) n 0
set_option maxRecDepth 20000 in
theorem reads_h (g : G0) {b : Nat → Int32} {e : Nat} {cp k n : Nat} {rl : List mOp} {d q : Nat} {h : Hp} {w : Int32} {Q : Option PV → Hp → Prop} {E : EP} (he : e ≤ 300) (hq : q ≤ e) (hn : n < 12) (r : RS h k b e q 0 cp rl) (hk : ¬ (tok b e q).2.2.1 = 1) (cont : ∀ h2, RS h2 k b e (tok b e q).1 0 cp rl → HD k n w h h2 → V g kfX14_reads (d + 52) 0 0 131 [(4, pI (nI n)), (3, pI w), (2, pI 1), (0, pR (32, 0)), (1, pR (33, k))] [] h2 Q E) : V g kfX14_reads (d + 52) 0 0 103 [(4, pI (nI n)), (3, pI w), (2, pI 1), (0, pR (32, 0)), (1, pR (33, k))] [] h Q E := by
  have ncc : (nI n).toNatClampNeg = n := nI_clamp (by omega)
  have hM := r.1
  refine v_aload_n dX14_reads_103 rfl ?_
  refine v_getR (some (40, k)) fl_X14_223 dX14_reads_104 rfl rfl (Nat.le_of_ble_eq_true rfl) r.2.1.1 r.2.1.2.2.2.1.1 ?_
  refine v_iload dX14_reads_107 rfl ?_
  refine v_iload_n dX14_reads_109 rfl ?_
  refine v_iast dX14_reads_110 rfl (Nat.le_of_ble_eq_true rfl) r.2.1.2.2.1.1 (by show vp_in (nI n) (ln h (40, k)); rw [show ln h (40, k) = 12 from r.2.1.2.2.2.2.1.1]; exact vp_in_nI hn (by decide)) ?_
  rw [ncc]
  refine v_aload_n dX14_reads_111 rfl ?_
  refine v_getR (some (41, k)) fl_X14_226 dX14_reads_112 rfl rfl (Nat.le_of_ble_eq_true rfl) r.2.1.1 r.2.1.2.2.2.1.2.1 ?_
  refine v_iload dX14_reads_115 rfl ?_
  refine v_iconst (0) dX14_reads_117 (by decide) ?_
  refine v_iast dX14_reads_118 rfl (Nat.le_of_ble_eq_true rfl) r.2.1.2.2.1.2.1 (by show vp_in (nI n) (ln h (41, k)); rw [show ln h (41, k) = 12 from r.2.1.2.2.2.2.1.2.1]; exact vp_in_nI hn (by decide)) ?_
  rw [ncc]
  refine v_aload_n dX14_reads_119 rfl ?_
  refine v_getR (some (44, k)) fl_X14_228 dX14_reads_120 rfl rfl (Nat.le_of_ble_eq_true rfl) r.2.1.1 r.2.1.2.2.2.1.2.2.2.2.1 ?_
  refine v_iload dX14_reads_123 rfl ?_
  refine v_iconst (0) dX14_reads_125 (by decide) ?_
  refine v_iast dX14_reads_126 rfl (Nat.le_of_ble_eq_true rfl) r.2.1.2.2.1.2.2.2.2.1 (by show vp_in (nI n) (ln h (44, k)); rw [show ln h (44, k) = 12 from r.2.1.2.2.2.2.1.2.2.2.2.1]; exact vp_in_nI hn (by decide)) ?_
  rw [ncc]
  change V g _ _ _ _ _ _ _ (h3w h k n w) _ _
  refine v_aload_n dX14_reads_127 rfl ?_
  refine v_invV 0 0 (M_nextR g _ (h3w_RS r) he hq hk) dX14_reads_128 cwX14_next mlX14_220 (ob_32 _) rfl rfl (by omega) (by decide) (Nat.le_of_ble_eq_true rfl) (Nat.le_of_ble_eq_true rfl) (Nat.le_of_ble_eq_true rfl) (fun rv h2 q2 => ?_) (fun a1 h2 q2 => q2.elim)
  obtain ⟨rfl, r2, e3⟩ := q2
  exact cont h2 r2 ((h3w_HD h k n w).ps e3)
theorem mIn_c {u : Nat} (hu : u ≤ 9999) : (mIn (nI u) 1 12 = 0 ↔ (nI u < 1 ∨ 12 < nI u)) := by
  unfold mIn
  by_cases a : nI u < 1
  · rw [if_pos a]; exact ⟨fun _ => Or.inl a, fun _ => rfl⟩
  · rw [if_neg a]
    by_cases c : 12 < nI u
    · rw [if_pos c]; exact ⟨fun _ => Or.inr c, fun _ => rfl⟩
    · rw [if_neg c]; exact ⟨fun z => absurd z (by decide), fun z => absurd z (fun y => y.elim a c)⟩
theorem mIn_u {u : Nat} (hu : u ≤ 9999) (b1 : ¬ (nI u < 1 ∨ 12 < nI u)) : 1 ≤ u ∧ u ≤ 12 := by
  refine ⟨?_, ?_⟩
  · rcases Nat.eq_zero_or_pos u with z | z
    · subst z; exact absurd (Or.inl (by decide)) b1
    · exact z
  · rcases Nat.lt_or_ge 12 u with z | z
    · exact absurd (Or.inr (nI_lt (a := 12) z (by omega))) b1
    · exact z
set_option maxRecDepth 20000 in
theorem reads_num (g : G0) {b : Nat → Int32} {e : Nat} {Z : Hp} {cp k n : Nat} {rl : List mOp} {d q : Nat} {h0 h : Hp} {w : Int32} {Q : Option PV → Hp → Prop} (he : e ≤ 300) (hq : q ≤ e) (hn : n < 12) (r : RS h k b e q 0 cp rl) (E0 : Eqv (fRw k) h0 h) (ce1 : ¬ (tok b e q).2.2.1 = 2 → CE Z 1 (tok b e q).2.1) (ce3 : (tok b e q).2.2.1 = 2 → (tok b e q).2.2.2 < 1 ∨ 12 < (tok b e q).2.2.2 → CE Z 3 (tok b e q).2.1) (cont : ∀ h2 m, (tok b e q).2.2.1 = 2 → 1 ≤ m → m ≤ 12 → (tok b e q).2.2.2 = nI m → RS h2 k b e (tok b e q).1 0 cp rl → vi h2 (41, k) n = nI m → (∀ p, p = 40 ∨ p = 41 ∨ p = 42 ∨ p = 43 ∨ p = 44 ∨ p = 48 ∨ p = 49 → ∀ i, ¬ (p = 41 ∧ i = n) → vi h2 (p, k) i = vi h (p, k) i) → vi h2 (33, k) 2 = vi h (33, k) 2 → Eqv (fRw k) h0 h2 → V g kfX14_reads (d + 52) 0 0 184 [(4, pI (nI n)), (3, pI w), (2, pI 1), (0, pR (32, 0)), (1, pR (33, k))] [] h2 Q (fun _ _ a h' => PXr k Z h0 a h')) : V g kfX14_reads (d + 52) 0 0 136 [(4, pI (nI n)), (3, pI w), (2, pI 1), (0, pR (32, 0)), (1, pR (33, k))] [] h Q (fun _ _ a h' => PXr k Z h0 a h') := by
  have ncc : (nI n).toNatClampNeg = n := nI_clamp (by omega)
  have hM := r.1
  have t := r.2.2.2.2.1
  refine v_aload_n dX14_reads_136 rfl ?_
  refine v_getI fl_X14_156 dX14_reads_137 rfl rfl (Nat.le_of_ble_eq_true rfl) (mh_32_0 hM) ?_
  refine v_iconst (3) dX14_reads_140 (by decide) ?_
  refine v_icmp_eq 150 dX14_reads_141 (by decide) (fun c141 => ?_) (fun c141 => ?_)
  · have k2 := t.num.mp c141
    obtain ⟨u, hu, hv⟩ := tok_num he hq k2
    have hv2 := (t.numv k2).trans hv
    refine v_aload_n dX14_reads_150 rfl ?_
    refine v_getI fl_X14_173 dX14_reads_151 rfl rfl (Nat.le_of_ble_eq_true rfl) (mh_32_0 hM) ?_
    rw [hv2]
    refine v_iconst (1) dX14_reads_154 (by decide) ?_
    refine v_bipush (12) dX14_reads_155 (by decide) ?_
    refine v_invSE (M_in g h) dX14_reads_157 cwX14_in mlX14_231 rfl rfl (by omega) (by decide) (Nat.le_of_ble_eq_true rfl) ?_
    refine v_if_ne 169 dX14_reads_160 (by decide) (fun c160 => ?_) (fun c160 => ?_)
    · have b1 : ¬ (nI u < 1 ∨ 12 < nI u) := fun z => c160 ((mIn_c hu).mpr z)
      obtain ⟨u1, u2⟩ := mIn_u hu b1
      refine v_aload_n dX14_reads_169 rfl ?_
      refine v_getR (some (41, k)) fl_X14_226 dX14_reads_170 rfl rfl (Nat.le_of_ble_eq_true rfl) r.2.1.1 r.2.1.2.2.2.1.2.1 ?_
      refine v_iload dX14_reads_173 rfl ?_
      refine v_aload_n dX14_reads_175 rfl ?_
      refine v_getI fl_X14_173 dX14_reads_176 rfl rfl (Nat.le_of_ble_eq_true rfl) (mh_32_0 hM) ?_
      rw [hv2]
      refine v_iast dX14_reads_179 rfl (Nat.le_of_ble_eq_true rfl) r.2.1.2.2.1.2.1 (by show vp_in (nI n) (ln h (41, k)); rw [show ln h (41, k) = 12 from r.2.1.2.2.2.2.1.2.1]; exact vp_in_nI hn (by decide)) ?_
      rw [ncc]
      refine v_aload_n dX14_reads_180 rfl ?_
      refine v_invV 0 0 (M_nextR g _ (RS_o r (by decide) n (nI u)) he hq (by rw [k2]; decide)) dX14_reads_181 cwX14_next mlX14_220 (ob_32 _) rfl rfl (by omega) (by decide) (Nat.le_of_ble_eq_true rfl) (Nat.le_of_ble_eq_true rfl) (Nat.le_of_ble_eq_true rfl) (fun rv h2 q2 => ?_) (fun a1 h2 q2 => q2.elim)
      obtain ⟨rfl, r2, e3⟩ := q2
      exact cont h2 u k2 u1 u2 hv r2 ((Ps_row e3 (by decide) n).trans (vi_sI_eq _ _ _ _)) (fun p hp i hne => (Ps_row e3 hp i).trans (row_o hne)) ((Ps_2 e3).trans (row_o (by omega))) (E0.tr ((o_E h k (by decide) n _).tr (fPs_Rw e3)))
    · refine v_aload_n dX14_reads_163 rfl ?_
      refine v_iconst (3) dX14_reads_164 (by decide) ?_
      refine v_invVE (M_stop g h hM) dX14_reads_165 cwX14_stop mlX14_196 (ob_32 _) rfl rfl (by omega) (by decide) (Nat.le_of_ble_eq_true rfl) ?_
      refine v_athrow dX14_reads_168 ?_
      first | exact PXr_st E0 r.2.1 t (ce1 (fun y => c141 (t.num.mpr y))) | exact PXr_st E0 r.2.1 t (ce3 k2 (by rw [hv]; exact (mIn_c hu).mp c160))
  · refine v_aload_n dX14_reads_144 rfl ?_
    refine v_iconst (1) dX14_reads_145 (by decide) ?_
    refine v_invVE (M_stop g h hM) dX14_reads_146 cwX14_stop mlX14_196 (ob_32 _) rfl rfl (by omega) (by decide) (Nat.le_of_ble_eq_true rfl) ?_
    refine v_athrow dX14_reads_149 ?_
    first | exact PXr_st E0 r.2.1 t (ce1 (fun y => c141 (t.num.mpr y))) | exact PXr_st E0 r.2.1 t (ce3 k2 (by rw [hv]; exact (mIn_c hu).mp c160))
