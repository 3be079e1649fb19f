/-! what readAll and readAny come to -/
def PQL_s (k : Nat) (b : Nat → Int32) (e : Nat) (Z : Hp) (ch te dp : Nat) (nu : Int32) (W M N : Nat → Int32) (h : Hp) (q cp : Nat) (rl : List mOp) (cd hd : List Int32) : Option PV → Hp → Prop := fun r h' => r = none ∧ ∃ (c' : Hp) (j' q' cp' : Nat) (nm' sg' : Int32) (Bc : List Int32) (Bm : List mOp) (P : List Int32), RS_s h' k b e q' dp cp' (Bm ++ rl) ∧ CS c' b q' ch cp' te dp 0 nm' sg' nu W M N (Bc ++ cd) (P ++ hd) ∧ Z = rLp e j' 7 c' ∧ e + 1 ≤ q' + j' ∧ q' ≤ e ∧ (P = [] ∨ P = [9]) ∧ Blk (P ++ Bc) Bm ∧ opsOK Bm ∧ nPs Bc + cp = cp' ∧ q + 3 * Bm.length + 2 ≤ q' ∧ Bc.length + cd.length + P.length + hd.length + 3 ≤ q' ∧ cp' ≤ 20 ∧ Eqv (fPs_s k) h h' ∧ ¬ (tok b e q').2.2.1 = 9
def PQA_s (k : Nat) (b : Nat → Int32) (e : Nat) (Z : Hp) (ch te dp : Nat) (nu : Int32) (W M N : Nat → Int32) (h : Hp) (q cp : Nat) (rl : List mOp) (cd hd : List Int32) : Option PV → Hp → Prop := fun r h' => r = none ∧ ∃ (c' : Hp) (j' q' cp' : Nat) (nm' sg' : Int32) (Bc : List Int32) (Bm : List mOp) (P : List Int32) (m : Nat), RS_s h' k b e q' dp cp' (Bm ++ rl) ∧ CS c' b q' ch cp' te dp 0 nm' sg' nu W M N (Bc ++ cd) (P ++ (List.replicate m 8 ++ hd)) ∧ Z = rLp e j' 7 c' ∧ e + 1 ≤ q' + j' ∧ q' ≤ e ∧ (P = [] ∨ P = [9]) ∧ OrB m (P ++ Bc) Bm ∧ opsOK Bm ∧ nPs Bc + cp = cp' ∧ q + 3 * Bm.length + 2 ≤ q' ∧ Bc.length + cd.length + P.length + m + hd.length + 3 ≤ q' ∧ cp' ≤ 20 ∧ Eqv (fPs_s k) h h' ∧ ¬ (tok b e q').2.2.1 = 9 ∧ ¬ (tok b e q').2.2.1 = 8
def AnyC_s (g : G0) (dp D : Nat) : Prop := ∀ (k : Nat) (b : Nat → Int32) (e : Nat) (Z : Hp) (ch te : Nat) (nu : Int32) (W M N : Nat → Int32) (h : Hp) (q cp : Nat) (rl : List mOp) (cd hd : List Int32) (c : Hp) (j : Nat) (nm sg : Int32), e ≤ 300 → RS_s h k b e q dp cp rl → CS c b q ch cp te dp 0 nm sg nu W M N cd hd → Z = rLp e j 4 c → e + 1 ≤ q + j → q ≤ e → cd.length + hd.length + 3 ≤ q → cp ≤ 20 → 3 * rl.length ≤ q → hd.head? ≠ some 10 → hd.head? ≠ some 9 → Mx g yX14_readAny wX14_readAny D [pR (32, 0), pR (34, 0)] h 0 0 (PQA_s k b e Z ch te dp nu W M N h q cp rl cd hd) (PX_s k Z h)
theorem PX_pre_s {k : Nat} {Z h0 h : Hp} {a : Ad} {h' : Hp} (E0 : Eqv (fPs_s k) h0 h) (x : PX_s k Z h a h') : PX_s k Z h0 a h' := ⟨x.1, E0.tr x.2.1, x.2.2⟩
set_option maxRecDepth 20000 in
theorem one_br_s (g : G0) {k : Nat} {b : Nat → Int32} {e : Nat} {Z : Hp} {ch te dp : Nat} {nu : Int32} {W M N : Nat → Int32} {h0 : Hp} {q0 cp : Nat} {rl : List mOp} {cd hd : List Int32} {d D i : Nat} {h c : Hp} {j q : Nat} {nm sg : Int32} (hdp : dp ≤ 8) (A : dp + 1 ≤ 8 → AnyC_s g (dp + 1) D) (hD : D + 1 ≤ d) (he : e ≤ 300) (hi : i ≤ 8) (r : RS_s h k b e q dp cp rl) (cs : CS c b q ch cp te dp i nm sg nu W M N cd (List.replicate i 10 ++ hd)) (hh : hd.head? ≠ some 10) (hZ : Z = rLp e j 4 c) (hj : e + 1 ≤ q + j) (hq : q ≤ e) (hq0 : q0 + 3 * i ≤ q) (hl : cd.length + hd.length + 3 ≤ q0) (hc : cp ≤ 20) (hr : 3 * rl.length ≤ q0) (E0 : Eqv (fPs_s k) h0 h) (k40 : (tok b e q).2.2.1 = 40) : V g kfX14_readOne (d + 2) 0 0 42 [(2, pI (nI i)), (0, pR (32, 0)), (1, pR (34, 0))] [] h (PQ1_s k b e Z ch te dp nu W M N h0 q0 cp rl cd hd) (fun _ _ a h' => PX_s k Z h0 a h') := by
  have hM := r.1
  have t := r.2.2.2.2.1
  have e17 := r.2.2.2.2.2.1
  have e18 := r.2.2.2.2.2.2.1
  obtain ⟨j, rfl⟩ : ∃ j2, j = j2 + 2 := ⟨j - 2, by have ad := tok_adv he hq (by rw [k40]; decide); have q1 := tok_end (b := b) he hq; omega⟩
  have lr : (List.replicate i (10 : Int32)).length = i := List.length_replicate
  refine v_aload_n dX14_readOne_42 rfl ?_
  refine v_getI fl_X14_214 dX14_readOne_43 rfl rfl (Nat.le_of_ble_eq_true rfl) (mh_32_0 hM) ?_
  refine v_bipush (8) dX14_readOne_46 (by decide) ?_
  refine v_icmp_ne 57 dX14_readOne_48 (by decide) (fun c48 => ?_) (fun c48 => ?_)
  · refine v_aload_n dX14_readOne_57 rfl ?_
    refine v_dup dX14_readOne_58 rfl ?_
    refine v_getI fl_X14_214 dX14_readOne_59 rfl rfl (Nat.le_of_ble_eq_true rfl) (mh_32_0 hM) ?_
    refine v_iconst (1) dX14_readOne_62 (by decide) ?_
    refine v_iadd dX14_readOne_63 ?_
    refine v_putI fl_X14_214 (fun z => by cases z) dX14_readOne_64 rfl rfl (Nat.le_of_ble_eq_true rfl) rfl rfl (mh_32_0 hM) ?_
    refine v_aload_n dX14_readOne_67 rfl ?_
    refine v_invV 0 0 (M_nextR_s g _ (RS_f_s r (Or.inl rfl) (dp' := dp + 1) (cp' := cp) (by rw [vi_sI_eq, e17]; exact nI_s dp) ((vi_sI_nk _ _ _ (by decide)).trans e18)) he hq (by rw [k40]; decide)) dX14_readOne_68 cwX14_next mlX14_220 (ob_32 _) rfl rfl (by omega) (by decide) (Nat.le_of_ble_eq_true rfl) (Nat.le_of_ble_eq_true rfl) (Nat.le_of_ble_eq_true rfl) (fun rv h2 q2 => ?_) (fun a1 h2 q2 => q2.elim)
    obtain ⟨rfl, r2, e2⟩ := q2
    have d8 : ¬ dp = 8 := fun z => c48 (by rw [e17, z]; rfl)
    have ad := tok_adv he hq (by rw [k40]; decide)
    have q1 := tok_end (b := b) he hq
    obtain ⟨c1, z1, s1⟩ := st_br (j := j + 1) cs (by omega) k40 (by omega)
    rw [aw_lt (by rw [List.length_append, lr]; omega)] at s1
    have E2 := E0.tr ((f17_E_s _ _ _).tr e2)
    refine v_aload_n dX14_readOne_71 rfl ?_
    refine v_aload_n dX14_readOne_72 rfl ?_
    refine v_invV 0 0 (A (by omega) k b e Z ch te nu W M N h2 (tok b e q).1 cp rl cd _ c1 (j + 1) nm sg he r2 s1 (hZ.trans z1) (by omega) q1 (by rw [List.length_cons, List.length_append, lr]; omega) hc (by omega) (fun z => absurd (Option.some.inj z) (by decide)) (fun z => absurd (Option.some.inj z) (by decide))) dX14_readOne_73 cwX14_readAny mlX14_238 (ob_32 _) rfl rfl (by omega) (by decide) (Nat.le_of_ble_eq_true rfl) (Nat.le_of_ble_eq_true rfl) (Nat.le_of_ble_eq_true rfl) (fun rv h3 q2 => ?_) (fun a1 h3 q2 => PX_pre_s E2 q2)
    obtain ⟨rfl, c3, j3, q3, cp3, nm3, sg3, Bc, Bm, P, m, r3, s3, z3, hj3, hq3, hP, bl, ok, hp3, b1, b2, hc3, e3, n9, n8⟩ := q2
    have hM3 := r3.1
    have t3 := r3.2.2.2.2.1
    rw [List.length_cons, List.length_append, lr] at b2
    refine v_aload_n dX14_readOne_76 rfl ?_
    refine v_bipush (41) dX14_readOne_77 (by decide) ?_
    refine v_invVE (M_is g h3 hM3) dX14_readOne_79 cwX14_is mlX14_249 (ob_32 _) rfl rfl (by omega) (by decide) (Nat.le_of_ble_eq_true rfl) ?_
    refine v_if_ne 91 dX14_readOne_82 (by decide) (fun c82 => ?_) (fun c82 => ?_)
    · have k41 := (t3.mi (c := 41) rfl).mp c82
      refine v_aload_n dX14_readOne_91 rfl ?_
      refine v_invV 0 0 (M_nextR_s g _ r3 he hq3 (by rw [k41]; decide)) dX14_readOne_92 cwX14_next mlX14_220 (ob_32 _) rfl rfl (by omega) (by decide) (Nat.le_of_ble_eq_true rfl) (Nat.le_of_ble_eq_true rfl) (Nat.le_of_ble_eq_true rfl) (fun rv h4 q2 => ?_) (fun a1 h4 q2 => q2.elim)
      obtain ⟨rfl, r4, e4⟩ := q2
      refine v_aload_n dX14_readOne_95 rfl ?_
      refine v_dup dX14_readOne_96 rfl ?_
      refine v_getI fl_X14_214 dX14_readOne_97 rfl rfl (Nat.le_of_ble_eq_true rfl) (mh_32_0 r4.1) ?_
      refine v_iconst (1) dX14_readOne_100 (by decide) ?_
      refine v_isub dX14_readOne_101 ?_
      refine v_putI fl_X14_214 (fun z => by cases z) dX14_readOne_102 rfl rfl (Nat.le_of_ble_eq_true rfl) rfl rfl (mh_32_0 r4.1) ?_
      refine v_goto 229 dX14_readOne_105 (by decide) ?_
      have ad3 := tok_adv he hq3 (by rw [k41]; decide)
      have q4 := tok_end (b := b) he hq3
      obtain ⟨j4, rfl⟩ : ∃ j5, j3 = j5 + 1 := ⟨j3 - 1, by omega⟩
      obtain ⟨c5, z5, s5⟩ := st_close (j := j4) s3 (by omega) k41 (by omega) (by omega)
      rw [aCb_eq hP hh (by rw [List.length_append]; omega)] at s5
      exact one_par_s g (Bc := List.replicate m 8 ++ (P ++ Bc)) (Bm := Bm) rfl rfl he hi (RS_f_s r4 (Or.inl rfl) (dp' := dp) (cp' := cp3) (by rw [vi_sI_eq, r4.2.2.2.2.2.1]; exact nI_dec dp) ((vi_sI_nk _ _ _ (by decide)).trans r4.2.2.2.2.2.2.1)) (by rw [List.append_assoc, List.append_assoc]; exact s5) (z3.trans z5) (by omega) q4 bl.fin ok (by rw [nPs_rep8, nPs_P hP]; exact hp3) (by omega) (by rw [List.length_append, List.length_append, List.length_replicate]; omega) hc3 hr ((E2.tr e3).tr (e4.tr (f17_E_s _ _ _)))
    · refine v_aload_n dX14_readOne_85 rfl ?_
      refine v_iconst (1) dX14_readOne_86 (by decide) ?_
      refine v_invVE (M_stop g h3 hM3) dX14_readOne_87 cwX14_stop mlX14_196 (ob_32 _) rfl rfl (by omega) (by decide) (Nat.le_of_ble_eq_true rfl) ?_
      refine v_athrow dX14_readOne_90 ?_
      obtain ⟨j4, rfl⟩ : ∃ j5, j3 = j5 + 1 := ⟨j3 - 1, by omega⟩
      exact PX_st_s (E2.tr e3) t3 (by rw [z3]; exact ft_close s3 (by omega) n9 n8 (fun y => (t3.mi (c := 41) rfl).mpr y c82) (by omega) (by omega))
  · refine v_aload_n dX14_readOne_51 rfl ?_
    refine v_iconst (4) dX14_readOne_52 (by decide) ?_
    refine v_invVE (M_stop g h hM) dX14_readOne_53 cwX14_stop mlX14_196 (ob_32 _) rfl rfl (by omega) (by decide) (Nat.le_of_ble_eq_true rfl) ?_
    refine v_athrow dX14_readOne_56 ?_
    exact PX_st_s E0 t (by rw [hZ]; exact ft_br cs (by omega) k40 ((nI_eq (b := 8) (by omega) (by decide)).mp (e17.symm.trans c48)))
