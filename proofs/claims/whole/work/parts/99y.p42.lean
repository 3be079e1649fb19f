def mSchN (h : Hp) (w : Int32) : Int32 × Hp := if mWb (mZ h) w = 0 then (-1, mT (mZ h) 1) else (-1, mT (mZ h) 2)
def scA (h : Hp) (e : Nat) : Hp := sI (sI (sI (sI (mZ h) (32, 0) 11 (nI e)) (32, 0) 10 0) (32, 0) 12 0) (32, 0) 3 0
def scB (h : Hp) (e n : Nat) : Hp := sR (scA h e) (36, 0) n (some (33, n))
theorem scA_o (h : Hp) (e : Nat) {f : Nat} (h0 : f ≠ 0) (h3 : f ≠ 3) (h10 : f ≠ 10) (h11 : f ≠ 11) (h12 : f ≠ 12) (a : Ad) : vi (scA h e) a f = vi h a f := (vi_sI_nk _ _ _ h3).trans ((vi_sI_nk _ _ _ h12).trans ((vi_sI_nk _ _ _ h10).trans ((vi_sI_nk _ _ _ h11).trans (vi_sI_nk _ _ _ h0))))
theorem scA_p (h : Hp) (e : Nat) {p : Nat} (hp : p ≠ 32) (i f : Nat) : vi (scA h e) (p, i) f = vi h (p, i) f :=
  have n : ((p, i) : Ad) ≠ (32, 0) := fun z => hp (congrArg Prod.fst z)
  (vi_sI_ne _ _ _ _ n).trans ((vi_sI_ne _ _ _ _ n).trans ((vi_sI_ne _ _ _ _ n).trans ((vi_sI_ne _ _ _ _ n).trans (vi_sI_ne _ _ _ _ n))))
theorem scA_11 (h : Hp) (e : Nat) : vi (scA h e) (32, 0) 11 = nI e := (vi_sI_nk _ _ _ (by decide)).trans ((vi_sI_nk _ _ _ (by decide)).trans ((vi_sI_nk _ _ _ (by decide)).trans (vi_sI_eq _ _ _ _)))
theorem scA_12 (h : Hp) (e : Nat) : vi (scA h e) (32, 0) 12 = nI 0 := (vi_sI_nk _ _ _ (by decide)).trans (vi_sI_eq _ _ _ _)
theorem scA_5 (h : Hp) (e : Nat) : vi (scA h e) (32, 0) 5 = vi h (32, 0) 5 := scA_o h e (by decide) (by decide) (by decide) (by decide) (by decide) _
theorem scA_mb (h : Hp) (e i : Nat) : mb (scA h e) i = mb h i := by unfold mb; rw [scA_p h e (by decide)]
theorem scB_SK {h : Hp} {e n : Nat} (k : SK h n) : SK (scB h e n) n := by
  obtain ⟨a1, a2, a3, a4, a5, c, hc, a6⟩ := k
  refine ⟨a1, by show vr (sR _ _ _ _) _ _ = _; rw [vr_sR, if_pos ⟨rfl, rfl⟩], a3, ?_, a5, c, hc, ?_⟩
  · have er : ∀ f, vr (scB h e n) (33, n) f = vr h (33, n) f := fun f => by unfold scB; rw [vr_sR, if_neg (fun z => (by cases z.1))]; rfl
    simp only [er]; exact a4
  · unfold scB; rw [vi_sR, scA_p h e (by decide)]; exact a6
theorem scB_SM {h : Hp} {e n : Nat} (m : SM h) : SM (scB h e n) := SM.sR (show SM (scA h e) from m) (fun q hq z => by have := congrArg (fun x => x.1.1) z; revert this; exact (by decide : ∀ q ∈ mR, q.1.1.1 = 36 → False) q hq)
set_option maxRecDepth 20000 in
theorem M_schemeN (g : G0) (h : Hp) (hM : SM h) {w d n : Int32} (hno : ¬ (¬ mWb (mZ h) w = 0 ∧ ¬ mDy d = 0 ∧ ¬ n < 0 ∧ n ≤ vi h (32, 0) 10)) : Mx g yX14_scheme wX14_scheme 54 [pR (32, 0), pI w, pI d, pI n] h 0 0 (qE (some (pI (mSchN h w).1)) (mSchN h w).2) noX := by
  refine Mx.byH kfX14_scheme rfl (by decide) (Nat.le_of_ble_eq_true rfl) (by decide) clX14_24 ?_
  refine v_aload_n dX14_scheme_0 rfl ?_
  refine v_iconst (0) dX14_scheme_1 (by decide) ?_
  refine v_putI fl_X14_112 (fun z => by cases z) dX14_scheme_2 rfl rfl (Nat.le_of_ble_eq_true rfl) rfl rfl (mh_32_0 hM) ?_
  change V g _ _ _ _ _ _ _ (mZ h) _ _
  refine v_aload_n dX14_scheme_5 rfl ?_
  refine v_iload_n dX14_scheme_6 rfl ?_
  refine v_invVE (M_isWill g (mZ h) hM) dX14_scheme_7 cwX14_isWill mlX14_274 (ob_32 _) rfl rfl (by decide) (by decide) (Nat.le_of_ble_eq_true rfl) ?_
  refine v_if_ne 19 dX14_scheme_10 (by decide) (fun c10 => ?_) (fun c10 => ?_)
  · refine v_iload_n dX14_scheme_19 rfl ?_
    refine v_invSE (M_isDay g (mZ h)) dX14_scheme_20 cwX14_isDay mlX14_277 rfl rfl (by decide) (by decide) (Nat.le_of_ble_eq_true rfl) ?_
    refine v_if_eq 38 dX14_scheme_23 (by decide) (fun c23 => ?_) (fun c23 => ?_)
    · refine v_aload_n dX14_scheme_38 rfl ?_
      refine v_iconst (2) dX14_scheme_39 (by decide) ?_
      refine v_invVE (M_refused g (mZ h) hM) dX14_scheme_40 cwX14_refused mlX14_121 (ob_32 _) rfl rfl (by decide) (by decide) (Nat.le_of_ble_eq_true rfl) ?_
      refine v_ireturn dX14_scheme_43 rfl rfl ?_
      exact ⟨by rw [mSchN, if_neg c10], by rw [mSchN, if_neg c10]⟩
    · refine v_iload_n dX14_scheme_26 rfl ?_
      refine v_if_lt 38 dX14_scheme_27 (by decide) (fun c27 => ?_) (fun c27 => ?_)
      · refine v_aload_n dX14_scheme_38 rfl ?_
        refine v_iconst (2) dX14_scheme_39 (by decide) ?_
        refine v_invVE (M_refused g (mZ h) hM) dX14_scheme_40 cwX14_refused mlX14_121 (ob_32 _) rfl rfl (by decide) (by decide) (Nat.le_of_ble_eq_true rfl) ?_
        refine v_ireturn dX14_scheme_43 rfl rfl ?_
        exact ⟨by rw [mSchN, if_neg c10], by rw [mSchN, if_neg c10]⟩
      · refine v_iload_n dX14_scheme_30 rfl ?_
        refine v_aload_n dX14_scheme_31 rfl ?_
        refine v_getI fl_X14_270 dX14_scheme_32 rfl rfl (Nat.le_of_ble_eq_true rfl) (mh_32_0 hM) ?_
        rw [mZ_v _ _ (by decide)]
        refine v_icmp_le 44 dX14_scheme_35 (by decide) (fun c35 => ?_) (fun c35 => ?_)
        · exact absurd ⟨c10, c23, c27, c35⟩ hno
        · refine v_aload_n dX14_scheme_38 rfl ?_
          refine v_iconst (2) dX14_scheme_39 (by decide) ?_
          refine v_invVE (M_refused g (mZ h) hM) dX14_scheme_40 cwX14_refused mlX14_121 (ob_32 _) rfl rfl (by decide) (by decide) (Nat.le_of_ble_eq_true rfl) ?_
          refine v_ireturn dX14_scheme_43 rfl rfl ?_
          exact ⟨by rw [mSchN, if_neg c10], by rw [mSchN, if_neg c10]⟩
  · refine v_aload_n dX14_scheme_13 rfl ?_
    refine v_iconst (1) dX14_scheme_14 (by decide) ?_
    refine v_invVE (M_refused g (mZ h) hM) dX14_scheme_15 cwX14_refused mlX14_121 (ob_32 _) rfl rfl (by decide) (by decide) (Nat.le_of_ble_eq_true rfl) ?_
    refine v_ireturn dX14_scheme_18 rfl rfl ?_
    exact ⟨by rw [mSchN, if_pos c10], by rw [mSchN, if_pos c10]⟩
set_option maxRecDepth 20000 in
theorem sch_111 (g : G0) {b : Nat → Int32} {e : Nat} {Z : Hp} {n : Nat} {h c : Hp} {te : Nat} {nm sg nu : Int32} {W M N : Nat → Int32} {w d : Int32} (he : e ≤ 300) (hM : SM h) (r4 : ∀ i, i < e → mb h i = b i) (cs : CS c b 0 0 0 te 0 0 nm sg nu W M N [] []) (hZ : Z = rLp e 301 0 c) (e5 : vi h (32, 0) 5 = nI n) (hn : n < 40) (hK : SK h n) : V g kfX14_scheme 54 0 0 111 [(0, pR (32, 0)), (1, pI w), (2, pI d), (3, pI (nI e))] [pR (33, n)] (scA h e) (QS b e Z n (scB h e n) w d n) (ES g (QS b e Z n (scB h e n) w d n)) := by
  have ncc : (nI n).toNatClampNeg = n := nI_clamp (by omega)
  have e5A : vi (scA h e) (32, 0) 5 = nI n := (scA_5 h e).trans e5
  have n40 : ¬ nI n = 40 := fun z => absurd ((nI_eq (b := 40) (by omega) (by decide)).mp z) (by omega)
  have r3 : vi (scB h e n) (32, 0) 11 = nI e := by unfold scB; rw [vi_sR]; exact scA_11 h e
  have r12 : vi (scB h e n) (32, 0) 12 = nI 0 := by unfold scB; rw [vi_sR]; exact scA_12 h e
  have r5 : vi (scB h e n) (32, 0) 5 = nI n := by unfold scB; rw [vi_sR]; exact e5A
  have rb : ∀ i, i < e → mb (scB h e n) i = b i := fun i hi => by rw [← r4 i hi, ← scA_mb h e i]; unfold mb scB; rw [vi_sR]
  refine v_astore dX14_scheme_111 (by decide) ?_
  refine v_aload_n dX14_scheme_113 rfl ?_
  refine v_getI fl_X14_283 dX14_scheme_114 rfl rfl (Nat.le_of_ble_eq_true rfl) (mh_32_0 hM) ?_
  rw [e5A]
  refine v_bipush (40) dX14_scheme_117 (by decide) ?_
  refine v_icmp_ge 133 dX14_scheme_119 (by decide) (fun z => absurd z (fun z => absurd (nI_lt (b := 40) hn (by decide)) (Int32.not_lt.mpr z))) (fun _ => ?_)
  refine v_aload_n dX14_scheme_122 rfl ?_
  refine v_getR (some (36, 0)) fl_X14_15 dX14_scheme_123 rfl rfl (Nat.le_of_ble_eq_true rfl) (mh_32_0 hM) (mr_32_0_6 hM) ?_
  refine v_aload_n dX14_scheme_126 rfl ?_
  refine v_getI fl_X14_283 dX14_scheme_127 rfl rfl (Nat.le_of_ble_eq_true rfl) (mh_32_0 hM) ?_
  rw [e5A]
  refine v_aload dX14_scheme_130 rfl ?_
  refine v_aast dX14_scheme_132 rfl (by decide) (by decide) rfl (Nat.le_of_ble_eq_true rfl) (fun b z => by cases z; exact ⟨(show (33 : Nat) < 64 by decide), _, _, rfl, rfl, Or.inr rfl⟩) (mh_36_0 hM) (by show vp_in (nI n) (ln h (36, 0)); rw [ml_36_0 hM]; exact vp_in_nI hn (by decide)) ?_
  rw [ncc]
  change V g _ _ _ _ _ _ _ (scB h e n) _ _
  exact sch_133 g he (scB_SM hM) (scB_SK hK) r3 r12 rb cs hZ r5 hn
set_option maxRecDepth 20000 in
theorem sch_64 (g : G0) {b : Nat → Int32} {e : Nat} {Z : Hp} {n : Nat} {h c : Hp} {te : Nat} {nm sg nu : Int32} {W M N : Nat → Int32} {w d : Int32} (he : e ≤ 300) (hM : SM h) (r4 : ∀ i, i < e → mb h i = b i) (cs : CS c b 0 0 0 te 0 0 nm sg nu W M N [] []) (hZ : Z = rLp e 301 0 c) (e5 : vi h (32, 0) 5 = nI n) (hn : n < 40) (hK : SK h n) : V g kfX14_scheme 54 0 0 64 [(0, pR (32, 0)), (1, pI w), (2, pI d), (3, pI (nI e))] [] (scA h e) (QS b e Z n (scB h e n) w d n) (ES g (QS b e Z n (scB h e n) w d n)) := by
  have ncc : (nI n).toNatClampNeg = n := nI_clamp (by omega)
  have e5A : vi (scA h e) (32, 0) 5 = nI n := (scA_5 h e).trans e5
  have n40 : ¬ nI n = 40 := fun z => absurd ((nI_eq (b := 40) (by omega) (by decide)).mp z) (by omega)
  refine v_aload_n dX14_scheme_64 rfl ?_
  refine v_getI fl_X14_283 dX14_scheme_65 rfl rfl (Nat.le_of_ble_eq_true rfl) (mh_32_0 hM) ?_
  rw [e5A]
  refine v_bipush (40) dX14_scheme_68 (by decide) ?_
  refine v_icmp_ne 80 dX14_scheme_70 (by decide) (fun _ => ?_) (fun z => absurd z n40)
  refine v_aload_n dX14_scheme_80 rfl ?_
  refine v_getR (some (36, 0)) fl_X14_15 dX14_scheme_81 rfl rfl (Nat.le_of_ble_eq_true rfl) (mh_32_0 hM) (mr_32_0_6 hM) ?_
  refine v_aload_n dX14_scheme_84 rfl ?_
  refine v_getI fl_X14_283 dX14_scheme_85 rfl rfl (Nat.le_of_ble_eq_true rfl) (mh_32_0 hM) ?_
  rw [e5A]
  refine v_aald (some (33, n)) dX14_scheme_88 rfl (by decide) (by decide) (Nat.le_of_ble_eq_true rfl) (mh_36_0 hM) (by show vp_in (nI n) (ln h (36, 0)); rw [ml_36_0 hM]; exact vp_in_nI hn (by decide)) (by rw [ncc]; exact hK.2.1) ?_
  refine v_ifnonnull 102 dX14_scheme_89 (by decide) (fun z => by cases z) (fun _ _ => ?_)
  refine v_aload_n dX14_scheme_102 rfl ?_
  refine v_getR (some (36, 0)) fl_X14_15 dX14_scheme_103 rfl rfl (Nat.le_of_ble_eq_true rfl) (mh_32_0 hM) (mr_32_0_6 hM) ?_
  refine v_aload_n dX14_scheme_106 rfl ?_
  refine v_getI fl_X14_283 dX14_scheme_107 rfl rfl (Nat.le_of_ble_eq_true rfl) (mh_32_0 hM) ?_
  rw [e5A]
  refine v_aald (some (33, n)) dX14_scheme_110 rfl (by decide) (by decide) (Nat.le_of_ble_eq_true rfl) (mh_36_0 hM) (by show vp_in (nI n) (ln h (36, 0)); rw [ml_36_0 hM]; exact vp_in_nI hn (by decide)) (by rw [ncc]; exact hK.2.1) ?_
  exact sch_111 g he hM r4 cs hZ e5 hn hK
