theorem SXp {h : Hp} (s : SX h) {a : Ad} {k : Nat} {v : Option Ad} (hp : ∀ q ∈ xR, q.1.1.1 ≠ a.1) : SX (sR h a k v) := SX.sR s (fun q hq z => hp q hq (by rw [z]))
theorem SX_add {h h' : Hp} {j : Nat} (f : AddF h h' j) (s : SX h) : SX h' := by
  obtain ⟨f1, f2, f3, f4, f5, f6, f7, f8⟩ := f
  have d1 : ∀ q ∈ xC, q.1 ≠ 16 := by decide
  have d2 : ∀ q ∈ xLn, q.1.1 ≠ 16 := by decide
  have d3 : ∀ q ∈ xR, q.1.1.1 ≠ 16 ∧ q.1.1.1 ≠ 7 := by decide
  exact ⟨fun q hq => by rw [f1 _ (d1 q hq)]; exact s.1 q hq, fun q hq => by rw [f3 _ (Or.inl (d2 q hq))]; exact s.2.1 q hq, fun q hq => by rw [f6 _ _ (d3 q hq).1 (fun z => (d3 q hq).2 (by rw [z]))]; exact s.2.2 q hq⟩
theorem AL_nw {h : Hp} {j q n : Nat} (hA : AL h j q n) {p m : Nat} (h7 : p ≠ 7) (h16 : p ≠ 16) : AL (nw h p m) j q n := by
  have e7 : ∀ i : Nat, ((7, i) : Ad) ≠ (p, cn h p) := fun i z => h7 (by cases z; rfl)
  have e16 : ∀ i : Nat, ((16, i) : Ad) ≠ (p, cn h p) := fun i z => h16 (by cases z; rfl)
  refine ⟨by rw [vi_nw, if_neg (e7 j)]; exact hA.1, hA.2.1, ?_⟩
  rcases hA.2.2 with ⟨z, e⟩ | ⟨e, z1, z2, z3, z4, z5, z6⟩
  · exact Or.inl ⟨z, by rw [vr_nw, if_neg (e7 j)]; exact e⟩
  · exact Or.inr ⟨e, by rw [vr_nw, if_neg (e7 j)]; exact z1, by rw [cn_nw, if_neg (Ne.symm h16)]; exact z2, by rw [ln_nw, if_neg (e16 e)]; exact z3, by rw [ln_nw, if_neg (e16 e)]; exact z4, by rw [ln_nw, if_neg (e16 e)]; exact z5, fun i hi => by rw [vr_nw, if_neg (e16 e)]; exact z6 i hi⟩
theorem AL_sR {h : Hp} {j q n : Nat} (hA : AL h j q n) {a : Ad} {k : Nat} {v : Option Ad} (h7 : a.1 ≠ 7) (h16 : a.1 ≠ 16) : AL (sR h a k v) j q n := by
  have e7 : ∀ i : Nat, ((7, i) : Ad) ≠ a := fun i z => h7 (by rw [← z])
  have e16 : ∀ i : Nat, ((16, i) : Ad) ≠ a := fun i z => h16 (by rw [← z])
  refine ⟨hA.1, hA.2.1, ?_⟩
  rcases hA.2.2 with ⟨z, e⟩ | ⟨e, z1, z2, z3, z4, z5, z6⟩
  · exact Or.inl ⟨z, by rw [vr_sR, if_neg (fun z => e7 j z.1)]; exact e⟩
  · exact Or.inr ⟨e, by rw [vr_sR, if_neg (fun z => e7 j z.1)]; exact z1, z2, z3, z4, z5, fun i hi => by rw [vr_sR, if_neg (fun z => e16 e z.1)]; exact z6 i hi⟩
theorem AL_aN {h : Hp} {j q n : Nat} (hA : AL h j q n) {a : Ad} {k p m : Nat} (h7 : a.1 ≠ 7) (h16 : a.1 ≠ 16) (p7 : p ≠ 7) (p16 : p ≠ 16) : AL (aN h a k p m) j q n := AL_sR (AL_nw hA p7 p16) h7 h16
theorem pq_8 : pq 8 1 (RX0, TX0, 6) := ⟨by decide, rfl, rfl, coX0⟩
theorem pq_9 : pq 9 4 (RX3, TX3, 11) := ⟨by decide, rfl, rfl, coX3⟩
theorem pq_10 : pq 10 6 (RX5, TX5, 3) := ⟨by decide, rfl, rfl, coX5⟩
theorem pq_11 : pq 11 8 (RX7, TX7, 4) := ⟨by decide, rfl, rfl, coX7⟩
theorem pq_12 : pq 12 3 (RX2, TX2, 3) := ⟨by decide, rfl, rfl, coX2⟩
def pe0 (h : Hp) (i : Nat) : Hp := aN h (9, i) 4 18 6
def pe1 (h : Hp) (i : Nat) : Hp := aN (pe0 h i) (9, i) 5 19 6
def pe2 (h : Hp) (i : Nat) : Hp := sI (pe1 h i) (9, i) 7 2147483647
def pe3 (h : Hp) (i : Nat) : Hp := sI (pe2 h i) (9, i) 8 (-1)
def pe4 (h : Hp) (i : Nat) (b : Int32) : Hp := sI (pe3 h i) (9, i) 0 b
def pe5 (h : Hp) (i : Nat) (b c : Int32) : Hp := sI (pe4 h i b) (9, i) 1 c
def pe6 (h : Hp) (i : Nat) (b c k : Int32) : Hp := sI (pe5 h i b c) (9, i) 2 k
def pe7 (h : Hp) (i : Nat) (b c k t : Int32) : Hp := sI (pe6 h i b c k) (9, i) 3 t
theorem nar01 {b : Int32} (hb : b = 0 ∨ b = 1) : narrow .boolean (.int b) = .int b ∧ fits .boolean (.int b) = true := by rcases hb with rfl | rfl <;> exact ⟨rfl, rfl⟩
set_option maxRecDepth 20000 in
theorem m_Person_init (g : G0) (h : Hp) {i : Nat} (hi : i < cn h 9) {b c k t : Int32} (hk : k = 0 ∨ k = 1) : Mx g yX3_init wX3_init 1 [pR (9, i), pI b, pI c, pI k, pI t] h 2 12 (qE none (pe7 h i b c k t)) noX := by
  have h0 : i < cn (pe0 h i) 9 := lt_aN hi
  have h1 : i < cn (pe1 h i) 9 := lt_aN h0
  have h2 : i < cn (pe2 h i) 9 := h1
  have h3 : i < cn (pe3 h i) 9 := h1
  have h4 : i < cn (pe4 h i b) 9 := h1
  have h5 : i < cn (pe5 h i b c) 9 := h1
  have h6 : i < cn (pe6 h i b c k) 9 := h1
  refine Mx.by kfX3_init rfl (by decide) (Nat.le_of_ble_eq_true rfl) ?_
  refine v_aload_n dX3_init_0 rfl ?_
  refine v_obj dX3_init_1 moX3_3 obj_i obj_c (by intro z; cases z) (by decide) (Nat.le_of_ble_eq_true rfl) ?_
  refine v_aload_n dX3_init_4 rfl ?_
  refine v_bipush (6) dX3_init_5 (by decide) ?_
  refine v_newa 18 1 6 dX3_init_7 rfl ac_0 (by decide) rfl (by decide) (by decide) (by decide) (Nat.le_of_ble_eq_true rfl) (Nat.le_of_ble_eq_true rfl) ?_
  rw [show (6 : Int32).toNatClampNeg = 6 by decide]
  refine v_putR fl_X3_9 (fun _ => ⟨rfl, rfl, _, rfl, rfl⟩) dX3_init_9 rfl rfl (Nat.le_of_ble_eq_true rfl) rfl (lt_nw hi) ?_
  change V g _ _ _ _ _ _ _ (pe0 h i) _ _
  refine v_aload_n dX3_init_12 rfl ?_
  refine v_bipush (6) dX3_init_13 (by decide) ?_
  refine v_newa 19 0 0 dX3_init_15 rfl ac_0 (by decide) rfl (by decide) (by decide) (by decide) (Nat.le_of_ble_eq_true rfl) (Nat.le_of_ble_eq_true rfl) ?_
  rw [show (6 : Int32).toNatClampNeg = 6 by decide]
  refine v_putR fl_X3_15 (fun _ => ⟨rfl, rfl, _, rfl, rfl⟩) dX3_init_17 rfl rfl (Nat.le_of_ble_eq_true rfl) rfl (lt_nw h0) ?_
  change V g _ _ _ _ _ _ _ (pe1 h i) _ _
  refine v_aload_n dX3_init_20 rfl ?_
  refine v_ldc (2147483647) dX3_init_21 ctX3_18 ?_
  refine v_putI fl_X3_19 (fun z => by cases z) dX3_init_23 rfl rfl (Nat.le_of_ble_eq_true rfl) rfl rfl h1 ?_
  change V g _ _ _ _ _ _ _ (pe2 h i) _ _
  refine v_aload_n dX3_init_26 rfl ?_
  refine v_iconst (-1) dX3_init_27 (by decide) ?_
  refine v_putI fl_X3_23 (fun z => by cases z) dX3_init_28 rfl rfl (Nat.le_of_ble_eq_true rfl) rfl rfl h2 ?_
  change V g _ _ _ _ _ _ _ (pe3 h i) _ _
  refine v_aload_n dX3_init_31 rfl ?_
  refine v_iload_n dX3_init_32 rfl ?_
  refine v_putI fl_X3_26 (fun _ => ⟨rfl, rfl, _, rfl, rfl⟩) dX3_init_33 rfl rfl (Nat.le_of_ble_eq_true rfl) rfl rfl h3 ?_
  change V g _ _ _ _ _ _ _ (pe4 h i b) _ _
  refine v_aload_n dX3_init_36 rfl ?_
  refine v_iload_n dX3_init_37 rfl ?_
  refine v_putI fl_X3_29 (fun _ => ⟨rfl, rfl, _, rfl, rfl⟩) dX3_init_38 rfl rfl (Nat.le_of_ble_eq_true rfl) rfl rfl h4 ?_
  change V g _ _ _ _ _ _ _ (pe5 h i b c) _ _
  refine v_aload_n dX3_init_41 rfl ?_
  refine v_iload_n dX3_init_42 rfl ?_
  refine v_putI fl_X3_32 (fun _ => ⟨rfl, rfl, _, rfl, rfl⟩) dX3_init_43 rfl rfl (Nat.le_of_ble_eq_true rfl) (nar01 hk).1 (nar01 hk).2 h5 ?_
  change V g _ _ _ _ _ _ _ (pe6 h i b c k) _ _
  refine v_aload_n dX3_init_46 rfl ?_
  refine v_iload dX3_init_47 rfl ?_
  refine v_putI fl_X3_36 (fun _ => ⟨rfl, rfl, _, rfl, rfl⟩) dX3_init_49 rfl rfl (Nat.le_of_ble_eq_true rfl) rfl rfl h6 ?_
  change V g _ _ _ _ _ _ _ (pe7 h i b c k t) _ _
  refine v_return dX3_init_52 rfl ?_
  exact ⟨rfl, rfl⟩
def ro1 (h : Hp) (i : Nat) (w : Int32) : Hp := sI (sI h (10, i) 2 (-2)) (10, i) 0 w
def st3 (h : Hp) (i : Nat) (r p t : Int32) : Hp := sI (sI (sI (sI h (11, i) 3 2147483647) (11, i) 0 r) (11, i) 1 p) (11, i) 2 t
def la3 (h : Hp) (i : Nat) (r e f : Int32) : Hp := sI (sI (sI h (12, i) 0 r) (12, i) 1 e) (12, i) 2 f
set_option maxRecDepth 20000 in
theorem m_Room_init (g : G0) (h : Hp) {i : Nat} (hi : i < cn h 10) {w : Int32} : Mx g yX5_init wX5_init 1 [pR (10, i), pI w] h 0 0 (qE none (ro1 h i w)) noX := by
  refine Mx.by kfX5_init rfl (by decide) (Nat.le_of_ble_eq_true rfl) ?_
  refine v_aload_n dX5_init_0 rfl ?_
  refine v_obj dX5_init_1 moX5_3 obj_i obj_c (by intro z; cases z) (by decide) (Nat.le_of_ble_eq_true rfl) ?_
  refine v_aload_n dX5_init_4 rfl ?_
  refine v_bipush (-2) dX5_init_5 (by decide) ?_
  refine v_putI fl_X5_9 (fun z => by cases z) dX5_init_7 rfl rfl (Nat.le_of_ble_eq_true rfl) rfl rfl hi ?_
  refine v_aload_n dX5_init_10 rfl ?_
  refine v_iload_n dX5_init_11 rfl ?_
  refine v_putI fl_X5_15 (fun _ => ⟨rfl, rfl, _, rfl, rfl⟩) dX5_init_12 rfl rfl (Nat.le_of_ble_eq_true rfl) rfl rfl hi ?_
  refine v_return dX5_init_15 rfl ?_
  exact ⟨rfl, rfl⟩
set_option maxRecDepth 20000 in
theorem m_Stay_init (g : G0) (h : Hp) {i : Nat} (hi : i < cn h 11) {r p t : Int32} : Mx g yX7_init wX7_init 1 [pR (11, i), pI r, pI p, pI t] h 0 0 (qE none (st3 h i r p t)) noX := by
  refine Mx.by kfX7_init rfl (by decide) (Nat.le_of_ble_eq_true rfl) ?_
  refine v_aload_n dX7_init_0 rfl ?_
  refine v_obj dX7_init_1 moX7_3 obj_i obj_c (by intro z; cases z) (by decide) (Nat.le_of_ble_eq_true rfl) ?_
  refine v_aload_n dX7_init_4 rfl ?_
  refine v_ldc (2147483647) dX7_init_5 ctX7_9 ?_
  refine v_putI fl_X7_10 (fun z => by cases z) dX7_init_7 rfl rfl (Nat.le_of_ble_eq_true rfl) rfl rfl hi ?_
  refine v_aload_n dX7_init_10 rfl ?_
  refine v_iload_n dX7_init_11 rfl ?_
  refine v_putI fl_X7_16 (fun _ => ⟨rfl, rfl, _, rfl, rfl⟩) dX7_init_12 rfl rfl (Nat.le_of_ble_eq_true rfl) rfl rfl hi ?_
  refine v_aload_n dX7_init_15 rfl ?_
  refine v_iload_n dX7_init_16 rfl ?_
  refine v_putI fl_X7_19 (fun _ => ⟨rfl, rfl, _, rfl, rfl⟩) dX7_init_17 rfl rfl (Nat.le_of_ble_eq_true rfl) rfl rfl hi ?_
  refine v_aload_n dX7_init_20 rfl ?_
  refine v_iload_n dX7_init_21 rfl ?_
  refine v_putI fl_X7_22 (fun _ => ⟨rfl, rfl, _, rfl, rfl⟩) dX7_init_22 rfl rfl (Nat.le_of_ble_eq_true rfl) rfl rfl hi ?_
  refine v_return dX7_init_25 rfl ?_
  exact ⟨rfl, rfl⟩
set_option maxRecDepth 20000 in
theorem m_Land_init (g : G0) (h : Hp) {i : Nat} (hi : i < cn h 12) {r e f : Int32} : Mx g yX2_init wX2_init 1 [pR (12, i), pI r, pI e, pI f] h 0 0 (qE none (la3 h i r e f)) noX := by
  refine Mx.by kfX2_init rfl (by decide) (Nat.le_of_ble_eq_true rfl) ?_
  refine v_aload_n dX2_init_0 rfl ?_
  refine v_obj dX2_init_1 moX2_1 obj_i obj_c (by intro z; cases z) (by decide) (Nat.le_of_ble_eq_true rfl) ?_
  refine v_aload_n dX2_init_4 rfl ?_
  refine v_iload_n dX2_init_5 rfl ?_
  refine v_putI fl_X2_7 (fun _ => ⟨rfl, rfl, _, rfl, rfl⟩) dX2_init_6 rfl rfl (Nat.le_of_ble_eq_true rfl) rfl rfl hi ?_
  refine v_aload_n dX2_init_9 rfl ?_
  refine v_iload_n dX2_init_10 rfl ?_
  refine v_putI fl_X2_13 (fun _ => ⟨rfl, rfl, _, rfl, rfl⟩) dX2_init_11 rfl rfl (Nat.le_of_ble_eq_true rfl) rfl rfl hi ?_
  refine v_aload_n dX2_init_14 rfl ?_
  refine v_iload_n dX2_init_15 rfl ?_
  refine v_putI fl_X2_16 (fun _ => ⟨rfl, rfl, _, rfl, rfl⟩) dX2_init_16 rfl rfl (Nat.le_of_ble_eq_true rfl) rfl rfl hi ?_
  refine v_return dX2_init_19 rfl ?_
  exact ⟨rfl, rfl⟩
def pOk (h : Hp) (b c : Int32) : Prop := ¬ b < -40000 ∧ ¬ vi h (0, 0) 13 < b ∧ ¬ c < b ∧ c ≤ vi h (0, 0) 13 ∧ vi h (7, 1) 2 < 40
def xPersonN (h : Hp) (b c : Int32) : Int32 × Hp := if b < -40000 then (-1, xT h 2) else if vi h (0, 0) 13 < b then (-1, xT h 2) else if c < b then (-1, xT h 2) else if c ≤ vi h (0, 0) 13 then (-1, xT h 3) else (-1, xT h 2)
def peN (h : Hp) (b c k : Int32) : Hp := pe7 (nw h 9 0) (cn h 9) b c k (vi h (0, 0) 13)
theorem SXpe {h : Hp} (hS : SX h) {b c k : Int32} : SX (peN h b c k) := by
  have s0 : SX (pe0 (nw h 9 0) (cn h 9)) := SXp (SX.nw (SX.nw hS (by decide) (by decide) (by decide)) (by decide) (by decide) (by decide)) (by show ∀ q ∈ xR, q.1.1.1 ≠ 9; decide)
  have s1 : SX (pe1 (nw h 9 0) (cn h 9)) := SXp (SX.nw s0 (by decide) (by decide) (by decide)) (by show ∀ q ∈ xR, q.1.1.1 ≠ 9; decide)
  exact s1
theorem ALpe {h : Hp} {j q n : Nat} (hA : AL h j q n) {b c k : Int32} : AL (peN h b c k) j q n := by
  have n9 : ((9, cn h 9) : Ad).1 ≠ 7 := fun z => by cases z
  have m9 : ((9, cn h 9) : Ad).1 ≠ 16 := fun z => by cases z
  exact AL_sIk (AL_sIk (AL_sIk (AL_sIk (AL_sIk (AL_sIk (AL_aN (AL_aN (AL_nw hA (by decide) (by decide)) n9 m9 (by decide) (by decide)) n9 m9 (by decide) (by decide)) n9) n9) n9) n9) n9) n9
set_option maxRecDepth 20000 in
theorem m_personN (g : G0) (h : Hp) (i : XI h) {b c k : Int32} (hno : ¬ pOk h b c) : Mx g yX11_person wX11_person 8 [pR (0, 0), pI b, pI c, pI k] h 0 0 (qE (some (pI (xPersonN h b c).1)) (xPersonN h b c).2) noX := by
  have hS := i.1
  refine Mx.by kfX11_person rfl (by decide) (Nat.le_of_ble_eq_true rfl) ?_
  refine v_iload_n dX11_person_0 rfl ?_
  refine v_ldc (-40000) dX11_person_1 ctX11_134 ?_
  refine v_icmp_lt 27 dX11_person_3 (by decide) (fun c3 => ?_) (fun c3 => ?_)
  · refine v_aload_n dX11_person_27 rfl ?_
    refine v_iconst (2) dX11_person_28 (by decide) ?_
    refine v_invVE (m_refuse g h hS) dX11_person_29 cwX11_refuse mlX11_74 (ob_0 _) rfl rfl (by decide) (by decide) (Nat.le_of_ble_eq_true rfl) ?_
    refine v_ireturn dX11_person_32 rfl rfl ?_
    exact ⟨by simp only [xPersonN, if_pos c3], by simp only [xPersonN, if_pos c3]⟩
  · refine v_iload_n dX11_person_6 rfl ?_
    refine v_aload_n dX11_person_7 rfl ?_
    refine v_getI fl_X11_135 dX11_person_8 rfl rfl (Nat.le_of_ble_eq_true rfl) (xh_0_0 hS) ?_
    refine v_icmp_gt 27 dX11_person_11 (by decide) (fun c11 => ?_) (fun c11 => ?_)
    · refine v_aload_n dX11_person_27 rfl ?_
      refine v_iconst (2) dX11_person_28 (by decide) ?_
      refine v_invVE (m_refuse g h hS) dX11_person_29 cwX11_refuse mlX11_74 (ob_0 _) rfl rfl (by decide) (by decide) (Nat.le_of_ble_eq_true rfl) ?_
      refine v_ireturn dX11_person_32 rfl rfl ?_
      exact ⟨by simp only [xPersonN, if_neg c3, if_pos c11], by simp only [xPersonN, if_neg c3, if_pos c11]⟩
    · refine v_iload_n dX11_person_14 rfl ?_
      refine v_iload_n dX11_person_15 rfl ?_
      refine v_icmp_lt 27 dX11_person_16 (by decide) (fun c16 => ?_) (fun c16 => ?_)
      · refine v_aload_n dX11_person_27 rfl ?_
        refine v_iconst (2) dX11_person_28 (by decide) ?_
        refine v_invVE (m_refuse g h hS) dX11_person_29 cwX11_refuse mlX11_74 (ob_0 _) rfl rfl (by decide) (by decide) (Nat.le_of_ble_eq_true rfl) ?_
        refine v_ireturn dX11_person_32 rfl rfl ?_
        exact ⟨by simp only [xPersonN, if_neg c3, if_neg c11, if_pos c16], by simp only [xPersonN, if_neg c3, if_neg c11, if_pos c16]⟩
      · refine v_iload_n dX11_person_19 rfl ?_
        refine v_aload_n dX11_person_20 rfl ?_
        refine v_getI fl_X11_135 dX11_person_21 rfl rfl (Nat.le_of_ble_eq_true rfl) (xh_0_0 hS) ?_
        refine v_icmp_le 33 dX11_person_24 (by decide) (fun c24 => ?_) (fun c24 => ?_)
        · refine v_aload_n dX11_person_33 rfl ?_
          refine v_getR (some (7, 1)) fl_X11_41 dX11_person_34 rfl rfl (Nat.le_of_ble_eq_true rfl) (xh_0_0 hS) (xr_0_0_4 hS) ?_
          refine v_invVE (m_size g h (xh_7_1 hS)) dX11_person_37 cwJx4a65c_size_8abf5 mlX11_138 (ob_7 _) rfl rfl (by decide) (by decide) (Nat.le_of_ble_eq_true rfl) ?_
          refine v_bipush (40) dX11_person_40 (by decide) ?_
          refine v_icmp_lt 51 dX11_person_42 (by decide) (fun c42 => ?_) (fun c42 => ?_)
          · exact absurd ⟨c3, c11, c16, c24, c42⟩ hno
          · refine v_aload_n dX11_person_45 rfl ?_
            refine v_iconst (3) dX11_person_46 (by decide) ?_
            refine v_invVE (m_refuse g h hS) dX11_person_47 cwX11_refuse mlX11_74 (ob_0 _) rfl rfl (by decide) (by decide) (Nat.le_of_ble_eq_true rfl) ?_
            refine v_ireturn dX11_person_50 rfl rfl ?_
            exact ⟨by simp only [xPersonN, if_neg c3, if_neg c11, if_neg c16, if_pos c24, if_neg c42], by simp only [xPersonN, if_neg c3, if_neg c11, if_neg c16, if_pos c24, if_neg c42]⟩
        · refine v_aload_n dX11_person_27 rfl ?_
          refine v_iconst (2) dX11_person_28 (by decide) ?_
          refine v_invVE (m_refuse g h hS) dX11_person_29 cwX11_refuse mlX11_74 (ob_0 _) rfl rfl (by decide) (by decide) (Nat.le_of_ble_eq_true rfl) ?_
          refine v_ireturn dX11_person_32 rfl rfl ?_
          exact ⟨by simp only [xPersonN, if_neg c3, if_neg c11, if_neg c16, if_neg c24], by simp only [xPersonN, if_neg c3, if_neg c11, if_neg c16, if_neg c24]⟩
set_option maxRecDepth 20000 in
theorem m_personY (g : G0) (h : Hp) (i : XI h) {b c k : Int32} (hok : pOk h b c) (hk : k = 0 ∨ k = 1) : Mx g yX11_person wX11_person 8 [pR (0, 0), pI b, pI c, pI k] h 4 1523 (fun r h' => r = some (pI (nI (cn h 9))) ∧ ∃ h2, AddF (peN h b c k) h2 1 ∧ AL h2 1 9 (cn h 9 + 1) ∧ h' = xT h2 0) noX := by
  have hS := i.1
  have le := i.le
  have hS0 : SX (nw h 9 0) := SX.nw hS (by decide) (by decide) (by decide)
  have hS1 := SXpe hS (b := b) (c := c) (k := k)
  have hA1 := ALpe i.a1 (b := b) (c := c) (k := k)
  have et : vi (nw h 9 0) (0, 0) 13 = vi h (0, 0) 13 := by rw [vi_nw, if_neg (fun z => by cases z)]
  refine Mx.by kfX11_person rfl (by decide) (Nat.le_of_ble_eq_true rfl) ?_
  refine v_iload_n dX11_person_0 rfl ?_
  refine v_ldc (-40000) dX11_person_1 ctX11_134 ?_
  refine v_icmp_lt 27 dX11_person_3 (by decide) (fun z => absurd z hok.1) (fun _ => ?_)
  refine v_iload_n dX11_person_6 rfl ?_
  refine v_aload_n dX11_person_7 rfl ?_
  refine v_getI fl_X11_135 dX11_person_8 rfl rfl (Nat.le_of_ble_eq_true rfl) (xh_0_0 hS) ?_
  refine v_icmp_gt 27 dX11_person_11 (by decide) (fun z => absurd z hok.2.1) (fun _ => ?_)
  refine v_iload_n dX11_person_14 rfl ?_
  refine v_iload_n dX11_person_15 rfl ?_
  refine v_icmp_lt 27 dX11_person_16 (by decide) (fun z => absurd z hok.2.2.1) (fun _ => ?_)
  refine v_iload_n dX11_person_19 rfl ?_
  refine v_aload_n dX11_person_20 rfl ?_
  refine v_getI fl_X11_135 dX11_person_21 rfl rfl (Nat.le_of_ble_eq_true rfl) (xh_0_0 hS) ?_
  refine v_icmp_le 33 dX11_person_24 (by decide) (fun _ => ?_) (fun z => absurd hok.2.2.2.1 z)
  refine v_aload_n dX11_person_33 rfl ?_
  refine v_getR (some (7, 1)) fl_X11_41 dX11_person_34 rfl rfl (Nat.le_of_ble_eq_true rfl) (xh_0_0 hS) (xr_0_0_4 hS) ?_
  refine v_invVE (m_size g h (xh_7_1 hS)) dX11_person_37 cwJx4a65c_size_8abf5 mlX11_138 (ob_7 _) rfl rfl (by decide) (by decide) (Nat.le_of_ble_eq_true rfl) ?_
  refine v_bipush (40) dX11_person_40 (by decide) ?_
  refine v_icmp_lt 51 dX11_person_42 (by decide) (fun _ => ?_) (fun z => absurd hok.2.2.2.2 z)
  refine v_aload_n dX11_person_51 rfl ?_
  refine v_getR (some (7, 1)) fl_X11_41 dX11_person_52 rfl rfl (Nat.le_of_ble_eq_true rfl) (xh_0_0 hS) (xr_0_0_4 hS) ?_
  refine v_new 9 3 1512 dX11_person_55 rfl clX11_141 rfl (by decide) (Nat.le_of_ble_eq_true rfl) (Nat.le_of_ble_eq_true rfl) ?_
  refine v_dup dX11_person_58 rfl ?_
  refine v_iload_n dX11_person_59 rfl ?_
  refine v_iload_n dX11_person_60 rfl ?_
  refine v_iload_n dX11_person_61 rfl ?_
  refine v_aload_n dX11_person_62 rfl ?_
  refine v_getI fl_X11_135 dX11_person_63 rfl rfl (Nat.le_of_ble_eq_true rfl) (xh_0_0 hS0) ?_
  rw [et]
  refine v_invIE 1 1500 (m_Person_init g (nw h 9 0) lt_new hk) dX11_person_66 cwX3_init rfl mlX11_143 rfl rfl (by decide) (by decide) (Nat.le_of_ble_eq_true rfl) (Nat.le_of_ble_eq_true rfl) (Nat.le_of_ble_eq_true rfl) ?_
  change V g _ _ _ _ _ _ _ (peN h b c k) _ _
  refine v_invV 0 0 (m_add g (peN h b c k) pq_9 (xh_7_1 hS1) hA1 (by omega)) dX11_person_69 cwJx4a65c_add_9ea2d mlX11_146 (ob_7 _) rfl rfl (by decide) (by decide) (Nat.le_of_ble_eq_true rfl) (Nat.le_of_ble_eq_true rfl) (Nat.le_of_ble_eq_true rfl) (fun r h2 q2 => ?_) (fun _ _ q2 => q2.elim)
  obtain ⟨rfl, hA3, hF⟩ := q2
  have hS2 := SX_add hF hS1
  change V g _ _ _ _ _ _ (pI 1 :: _) h2 _ _
  refine v_pop dX11_person_72 rfl ?_
  refine v_aload_n dX11_person_73 rfl ?_
  refine v_aload_n dX11_person_74 rfl ?_
  refine v_getR (some (7, 1)) fl_X11_41 dX11_person_75 rfl rfl (Nat.le_of_ble_eq_true rfl) (xh_0_0 hS2) (xr_0_0_4 hS2) ?_
  refine v_invVE (m_size g h2 (xh_7_1 hS2)) dX11_person_78 cwJx4a65c_size_8abf5 mlX11_138 (ob_7 _) rfl rfl (by decide) (by decide) (Nat.le_of_ble_eq_true rfl) ?_
  rw [hA3.1]
  refine v_iconst (1) dX11_person_81 (by decide) ?_
  refine v_isub dX11_person_82 ?_
  refine v_invVE (m_accept g h2 hS2) dX11_person_83 cwX11_accept mlX11_78 (ob_0 _) rfl rfl (by decide) (by decide) (Nat.le_of_ble_eq_true rfl) ?_
  refine v_ireturn dX11_person_86 rfl rfl ?_
  exact ⟨by rw [nI_pred], h2, hF, hA3, rfl⟩
def xRoomN (h : Hp) (w : Int32) : Int32 × Hp := if xWb h w = 0 then (-1, xT h 1) else (-1, xT h 3)
def roN (h : Hp) (w : Int32) : Hp := ro1 (nw h 10 0) (cn h 10) w
theorem SXro {h : Hp} (hS : SX h) {w : Int32} : SX (roN h w) := SX.nw hS (by decide) (by decide) (by decide)
theorem ALro {h : Hp} {j q n : Nat} (hA : AL h j q n) {w : Int32} : AL (roN h w) j q n := by
  have n9 : ((10, cn h 10) : Ad).1 ≠ 7 := fun z => by cases z
  exact AL_sIk (AL_sIk (AL_nw hA (by decide) (by decide)) n9) n9
set_option maxRecDepth 20000 in
theorem m_roomN (g : G0) (h : Hp) (i : XI h) {w : Int32} (hno : ¬ (¬ xWb h w = 0 ∧ vi h (7, 2) 2 < 20)) : Mx g yX11_room wX11_room 8 [pR (0, 0), pI w] h 0 0 (qE (some (pI (xRoomN h w).1)) (xRoomN h w).2) noX := by
  have hS := i.1
  refine Mx.by kfX11_room rfl (by decide) (Nat.le_of_ble_eq_true rfl) ?_
  refine v_aload_n dX11_room_0 rfl ?_
  refine v_iload_n dX11_room_1 rfl ?_
  refine v_invVE (m_isWill g h hS) dX11_room_2 cwX11_isWill mlX11_88 (ob_0 _) rfl rfl (by decide) (by decide) (Nat.le_of_ble_eq_true rfl) ?_
  refine v_if_ne 14 dX11_room_5 (by decide) (fun c5 => ?_) (fun c5 => ?_)
  · refine v_aload_n dX11_room_14 rfl ?_
    refine v_getR (some (7, 2)) fl_X11_44 dX11_room_15 rfl rfl (Nat.le_of_ble_eq_true rfl) (xh_0_0 hS) (xr_0_0_5 hS) ?_
    refine v_invVE (m_size g h (xh_7_2 hS)) dX11_room_18 cwJx4a65c_size_8abf5 mlX11_138 (ob_7 _) rfl rfl (by decide) (by decide) (Nat.le_of_ble_eq_true rfl) ?_
    refine v_bipush (20) dX11_room_21 (by decide) ?_
    refine v_icmp_lt 32 dX11_room_23 (by decide) (fun c23 => ?_) (fun c23 => ?_)
    · exact absurd ⟨c5, c23⟩ hno
    · refine v_aload_n dX11_room_26 rfl ?_
      refine v_iconst (3) dX11_room_27 (by decide) ?_
      refine v_invVE (m_refuse g h hS) dX11_room_28 cwX11_refuse mlX11_74 (ob_0 _) rfl rfl (by decide) (by decide) (Nat.le_of_ble_eq_true rfl) ?_
      refine v_ireturn dX11_room_31 rfl rfl ?_
      exact ⟨by simp only [xRoomN, if_neg c5, if_neg c23], by simp only [xRoomN, if_neg c5, if_neg c23]⟩
  · refine v_aload_n dX11_room_8 rfl ?_
    refine v_iconst (1) dX11_room_9 (by decide) ?_
    refine v_invVE (m_refuse g h hS) dX11_room_10 cwX11_refuse mlX11_74 (ob_0 _) rfl rfl (by decide) (by decide) (Nat.le_of_ble_eq_true rfl) ?_
    refine v_ireturn dX11_room_13 rfl rfl ?_
    exact ⟨by simp only [xRoomN, if_pos c5], by simp only [xRoomN, if_pos c5]⟩
set_option maxRecDepth 20000 in
theorem m_roomY (g : G0) (h : Hp) (i : XI h) {w : Int32} (hok : ¬ xWb h w = 0 ∧ vi h (7, 2) 2 < 20) : Mx g yX11_room wX11_room 8 [pR (0, 0), pI w] h 2 1503 (fun r h' => r = some (pI (nI (cn h 10))) ∧ ∃ h2, AddF (roN h w) h2 2 ∧ AL h2 2 10 (cn h 10 + 1) ∧ h' = xT h2 0) noX := by
  have hS := i.1
  have le := i.le
  have hS0 : SX (nw h 10 0) := SX.nw hS (by decide) (by decide) (by decide)
  have hS1 := SXro hS (w := w)
  have hA1 := ALro i.a2 (w := w)
  refine Mx.by kfX11_room rfl (by decide) (Nat.le_of_ble_eq_true rfl) ?_
  refine v_aload_n dX11_room_0 rfl ?_
  refine v_iload_n dX11_room_1 rfl ?_
  refine v_invVE (m_isWill g h hS) dX11_room_2 cwX11_isWill mlX11_88 (ob_0 _) rfl rfl (by decide) (by decide) (Nat.le_of_ble_eq_true rfl) ?_
  refine v_if_ne 14 dX11_room_5 (by decide) (fun _ => ?_) (fun z => absurd z hok.1)
  refine v_aload_n dX11_room_14 rfl ?_
  refine v_getR (some (7, 2)) fl_X11_44 dX11_room_15 rfl rfl (Nat.le_of_ble_eq_true rfl) (xh_0_0 hS) (xr_0_0_5 hS) ?_
  refine v_invVE (m_size g h (xh_7_2 hS)) dX11_room_18 cwJx4a65c_size_8abf5 mlX11_138 (ob_7 _) rfl rfl (by decide) (by decide) (Nat.le_of_ble_eq_true rfl) ?_
  refine v_bipush (20) dX11_room_21 (by decide) ?_
  refine v_icmp_lt 32 dX11_room_23 (by decide) (fun _ => ?_) (fun z => absurd hok.2 z)
  refine v_aload_n dX11_room_32 rfl ?_
  refine v_getR (some (7, 2)) fl_X11_44 dX11_room_33 rfl rfl (Nat.le_of_ble_eq_true rfl) (xh_0_0 hS) (xr_0_0_5 hS) ?_
  refine v_new 10 1 1500 dX11_room_36 rfl clX11_197 rfl (by decide) (Nat.le_of_ble_eq_true rfl) (Nat.le_of_ble_eq_true rfl) ?_
  refine v_dup dX11_room_39 rfl ?_
  refine v_iload_n dX11_room_40 rfl ?_
  refine v_invIE 1 1500 (m_Room_init g (nw h 10 0) lt_new) dX11_room_41 cwX5_init rfl mlX11_199 rfl rfl (by decide) (by decide) (Nat.le_of_ble_eq_true rfl) (Nat.le_of_ble_eq_true rfl) (Nat.le_of_ble_eq_true rfl) ?_
  change V g _ _ _ _ _ _ _ (roN h w) _ _
  refine v_invV 0 0 (m_add g (roN h w) pq_10 (xh_7_2 hS1) hA1 (by omega)) dX11_room_44 cwJx4a65c_add_9ea2d mlX11_146 (ob_7 _) rfl rfl (by decide) (by decide) (Nat.le_of_ble_eq_true rfl) (Nat.le_of_ble_eq_true rfl) (Nat.le_of_ble_eq_true rfl) (fun r h2 q2 => ?_) (fun _ _ q2 => q2.elim)
  obtain ⟨rfl, hA3, hF⟩ := q2
  have hS2 := SX_add hF hS1
  change V g _ _ _ _ _ _ (pI 1 :: _) h2 _ _
  refine v_pop dX11_room_47 rfl ?_
  refine v_aload_n dX11_room_48 rfl ?_
  refine v_aload_n dX11_room_49 rfl ?_
  refine v_getR (some (7, 2)) fl_X11_44 dX11_room_50 rfl rfl (Nat.le_of_ble_eq_true rfl) (xh_0_0 hS2) (xr_0_0_5 hS2) ?_
  refine v_invVE (m_size g h2 (xh_7_2 hS2)) dX11_room_53 cwJx4a65c_size_8abf5 mlX11_138 (ob_7 _) rfl rfl (by decide) (by decide) (Nat.le_of_ble_eq_true rfl) ?_
  rw [hA3.1]
  refine v_iconst (1) dX11_room_56 (by decide) ?_
  refine v_isub dX11_room_57 ?_
  refine v_invVE (m_accept g h2 hS2) dX11_room_58 cwX11_accept mlX11_78 (ob_0 _) rfl rfl (by decide) (by decide) (Nat.le_of_ble_eq_true rfl) ?_
  refine v_ireturn dX11_room_61 rfl rfl ?_
  exact ⟨by rw [nI_pred], h2, hF, hA3, rfl⟩
