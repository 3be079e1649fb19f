theorem byS24 (x : Int32) : byt x 24 = (vp_nar .byte ((x >>> ((24 : Int32) &&& 31)).toInt8.toInt32)) &&& 255 := by
  refine Int32.toBitVec_inj.mp (BitVec.eq_of_getLsbD_eq_iff.mpr fun i hi => ?_)
  show ((x.toBitVec >>> 24) &&& 255#32).getLsbD i = ((((((x.toBitVec.sshiftRight 24).signExtend 8).signExtend 32).signExtend 8).signExtend 32) &&& 255#32).getLsbD i
  have key : ∀ j : Fin 32, (255#32).getLsbD j.val = decide (j.val < 8) := by decide
  rw [BitVec.getLsbD_and, BitVec.getLsbD_and, key ⟨i, hi⟩]
  by_cases c : i < 8
  · rw [BitVec.getLsbD_signExtend, BitVec.getLsbD_signExtend, BitVec.getLsbD_signExtend, BitVec.getLsbD_signExtend, BitVec.getLsbD_sshiftRight, BitVec.getLsbD_ushiftRight, if_pos c, if_pos (show i < 32 by omega), if_pos c, if_pos (show i < 32 by omega), if_pos (show 24 + i < 32 by omega)]
    have n : ¬ 32 ≤ i := by omega
    simp [c, n, hi]
  · simp [c]
theorem byS16 (x : Int32) : byt x 16 = (vp_nar .byte ((x >>> ((16 : Int32) &&& 31)).toInt8.toInt32)) &&& 255 := by
  refine Int32.toBitVec_inj.mp (BitVec.eq_of_getLsbD_eq_iff.mpr fun i hi => ?_)
  show ((x.toBitVec >>> 16) &&& 255#32).getLsbD i = ((((((x.toBitVec.sshiftRight 16).signExtend 8).signExtend 32).signExtend 8).signExtend 32) &&& 255#32).getLsbD i
  have key : ∀ j : Fin 32, (255#32).getLsbD j.val = decide (j.val < 8) := by decide
  rw [BitVec.getLsbD_and, BitVec.getLsbD_and, key ⟨i, hi⟩]
  by_cases c : i < 8
  · rw [BitVec.getLsbD_signExtend, BitVec.getLsbD_signExtend, BitVec.getLsbD_signExtend, BitVec.getLsbD_signExtend, BitVec.getLsbD_sshiftRight, BitVec.getLsbD_ushiftRight, if_pos c, if_pos (show i < 32 by omega), if_pos c, if_pos (show i < 32 by omega), if_pos (show 16 + i < 32 by omega)]
    have n : ¬ 32 ≤ i := by omega
    simp [c, n, hi]
  · simp [c]
theorem byS8 (x : Int32) : byt x 8 = (vp_nar .byte ((x >>> ((8 : Int32) &&& 31)).toInt8.toInt32)) &&& 255 := by
  refine Int32.toBitVec_inj.mp (BitVec.eq_of_getLsbD_eq_iff.mpr fun i hi => ?_)
  show ((x.toBitVec >>> 8) &&& 255#32).getLsbD i = ((((((x.toBitVec.sshiftRight 8).signExtend 8).signExtend 32).signExtend 8).signExtend 32) &&& 255#32).getLsbD i
  have key : ∀ j : Fin 32, (255#32).getLsbD j.val = decide (j.val < 8) := by decide
  rw [BitVec.getLsbD_and, BitVec.getLsbD_and, key ⟨i, hi⟩]
  by_cases c : i < 8
  · rw [BitVec.getLsbD_signExtend, BitVec.getLsbD_signExtend, BitVec.getLsbD_signExtend, BitVec.getLsbD_signExtend, BitVec.getLsbD_sshiftRight, BitVec.getLsbD_ushiftRight, if_pos c, if_pos (show i < 32 by omega), if_pos c, if_pos (show i < 32 by omega), if_pos (show 8 + i < 32 by omega)]
    have n : ¬ 32 ≤ i := by omega
    simp [c, n, hi]
  · simp [c]
theorem byS0 (x : Int32) : byt x 0 = (vp_nar .byte ((x >>> ((0 : Int32) &&& 31)).toInt8.toInt32)) &&& 255 := by
  refine Int32.toBitVec_inj.mp (BitVec.eq_of_getLsbD_eq_iff.mpr fun i hi => ?_)
  show ((x.toBitVec >>> 0) &&& 255#32).getLsbD i = ((((((x.toBitVec.sshiftRight 0).signExtend 8).signExtend 32).signExtend 8).signExtend 32) &&& 255#32).getLsbD i
  have key : ∀ j : Fin 32, (255#32).getLsbD j.val = decide (j.val < 8) := by decide
  rw [BitVec.getLsbD_and, BitVec.getLsbD_and, key ⟨i, hi⟩]
  by_cases c : i < 8
  · rw [BitVec.getLsbD_signExtend, BitVec.getLsbD_signExtend, BitVec.getLsbD_signExtend, BitVec.getLsbD_signExtend, BitVec.getLsbD_sshiftRight, BitVec.getLsbD_ushiftRight, if_pos c, if_pos (show i < 32 by omega), if_pos c, if_pos (show i < 32 by omega), if_pos (show 0 + i < 32 by omega)]
    have n : ¬ 32 ≤ i := by omega
    simp [c, n, hi]
  · simp [c]
def mBy (a b c d e : Int32) (m : Nat) : Int32 := vp_nar .byte ((fvK a b c d e (nI m) >>> ((24 - 8 * (nI m - nI m / 4 * 4)) &&& 31)).toInt8.toInt32)
theorem mFe_v {a b c d e : Int32} : ∀ (j k L : Nat) (h : Hp), L + j ≤ 300 → vi h (32, 0) 10 = nI L → ∀ i, vi (mFe a b c d e j k h) (37, 0) i = if i < L ∨ L + j ≤ i then vi h (37, 0) i else mBy a b c d e (k + (i - L))
  | 0, k, L, h, _, _, i => by rw [mFe, if_pos (by omega)]
  | j + 1, k, L, h, hL, eL, i => by
    have e1 : ∀ i, vi (mF1 h (nI k) (fvK a b c d e (nI k))) (37, 0) i = if i = L then mBy a b c d e k else vi h (37, 0) i := by
      intro i
      unfold mF1 mBy
      rw [vi_sI_ne _ _ _ _ (by decide), vi_sI, eL, nI_clamp (by omega)]
      by_cases z : i = L
      · rw [if_pos ⟨rfl, z⟩, if_pos z]
      · rw [if_neg (fun y => z y.2), if_neg z]
    rw [mFe, mFe_v j (k + 1) (L + 1) _ (by omega) (mF1_10 _ _ _ eL) i, e1]
    by_cases c1 : i < L
    · rw [if_pos (by omega), if_neg (by omega), if_pos (by omega)]
    · by_cases c2 : i = L
      · rw [if_pos (by omega), if_pos c2, if_neg (by omega), show k + (i - L) = k by omega]
      · by_cases c3 : L + (j + 1) ≤ i
        · rw [if_pos (by omega), if_neg c2, if_pos (by omega)]
        · rw [if_neg (by omega), if_neg (by omega), show k + 1 + (i - (L + 1)) = k + (i - L) by omega]
theorem mFe_10 {a b c d e : Int32} : ∀ (j k L : Nat) (h : Hp), vi h (32, 0) 10 = nI L → vi (mFe a b c d e j k h) (32, 0) 10 = nI (L + j)
  | 0, _, _, _, e => e
  | j + 1, k, L, h, eL => by rw [mFe, mFe_10 j (k + 1) (L + 1) _ (mF1_10 _ _ _ eL)]; congr 1; omega
theorem ap1_v (h : Hp) (L : Nat) (x s : Int32) (i : Nat) : vi (ap1 h L x s) (13, 0) i = if i = L then byt x s else vi h (13, 0) i := by
  unfold ap1
  rw [vi_sI_ne _ _ _ _ (by decide), vi_sI]
  by_cases z : i = L
  · rw [if_pos ⟨rfl, z⟩, if_pos z]
  · rw [if_neg (fun y => z y.2), if_neg z]
def byK (x : Int32) (m : Nat) : Int32 := if m = 0 then byt x 24 else if m = 1 then byt x 16 else if m = 2 then byt x 8 else byt x 0
theorem apH_v (h : Hp) (L : Nat) (x : Int32) (i : Nat) : vi (apH h L x) (13, 0) i = if i < L ∨ L + 4 ≤ i then vi h (13, 0) i else byK x (i - L) := by
  unfold apH
  rw [ap1_v, ap1_v, ap1_v, ap1_v]
  by_cases c : i < L ∨ L + 4 ≤ i
  · rw [if_pos c, if_neg (by omega), if_neg (by omega), if_neg (by omega), if_neg (by omega)]
  · rw [if_neg c]
    unfold byK
    by_cases c0 : i = L
    · rw [if_neg (by omega), if_neg (by omega), if_neg (by omega), if_pos c0, if_pos (by omega)]
    · by_cases c1 : i = L + 1
      · rw [if_neg (by omega), if_neg (by omega), if_pos c1, if_neg (by omega), if_pos (by omega)]
      · by_cases c2 : i = L + 2
        · rw [if_neg (by omega), if_pos c2, if_neg (by omega), if_neg (by omega), if_pos (by omega)]
        · rw [if_pos (by omega), if_neg (by omega), if_neg (by omega), if_neg (by omega)]
theorem byK_eq (x : Int32) (m k : Nat) (hm : k % 4 = m) (hk : k < 20) : byK x m = (vp_nar .byte ((x >>> ((24 - 8 * (nI k - nI k / 4 * 4)) &&& 31)).toInt8.toInt32)) &&& 255 := by
  have e : nI k - nI k / 4 * 4 = nI (k % 4) := nI_rem (b := 4) (by omega) (by decide)
  rw [e, hm]
  have h4 : m < 4 := by omega
  match m, h4 with
  | 0, _ => exact byS24 x
  | 1, _ => exact byS16 x
  | 2, _ => exact byS8 x
  | 3, _ => exact byS0 x
theorem fe_byte (h : Hp) {L k : Nat} (a b c d e : Int32) (hk : k < 20) : vi (feH h L a b c d e) (13, 0) (L + k) = mBy a b c d e k &&& 255 := by
  have c4 : (4 : Int32) ≤ nI k ↔ 4 ≤ k := nI_leI (a := 4) (by decide) (by omega)
  have c8 : (8 : Int32) ≤ nI k ↔ 8 ≤ k := nI_leI (a := 8) (by decide) (by omega)
  have c12 : (12 : Int32) ≤ nI k ↔ 12 ≤ k := nI_leI (a := 12) (by decide) (by omega)
  have c16 : (16 : Int32) ≤ nI k ↔ 16 ≤ k := nI_leI (a := 16) (by decide) (by omega)
  unfold feH mBy fvK
  rw [apH_v, apH_v, apH_v, apH_v, apH_v]
  by_cases z4 : k < 4
  · rw [if_pos (by omega), if_pos (by omega), if_pos (by omega), if_pos (by omega), if_neg (by omega), if_neg (by rw [c4]; omega)]
    exact byK_eq a _ k (by omega) hk
  · by_cases z8 : k < 8
    · rw [if_pos (by omega), if_pos (by omega), if_pos (by omega), if_neg (by omega), if_pos (by rw [c4]; omega), if_neg (by rw [c8]; omega)]
      exact byK_eq b _ k (by omega) hk
    · by_cases z12 : k < 12
      · rw [if_pos (by omega), if_pos (by omega), if_neg (by omega), if_pos (by rw [c4]; omega), if_pos (by rw [c8]; omega), if_neg (by rw [c12]; omega)]
        exact byK_eq c _ k (by omega) hk
      · by_cases z16 : k < 16
        · rw [if_pos (by omega), if_neg (by omega), if_pos (by rw [c4]; omega), if_pos (by rw [c8]; omega), if_pos (by rw [c12]; omega), if_neg (by rw [c16]; omega)]
          exact byK_eq d _ k (by omega) hk
        · rw [if_neg (by omega), if_pos (by rw [c4]; omega), if_pos (by rw [c8]; omega), if_pos (by rw [c12]; omega), if_pos (by rw [c16]; omega)]
          exact byK_eq e _ k (by omega) hk
theorem fe_old (h : Hp) {L i : Nat} (a b c d e : Int32) (hi : i < L) : vi (feH h L a b c d e) (13, 0) i = vi h (13, 0) i := by
  unfold feH
  rw [apH_v, apH_v, apH_v, apH_v, apH_v, if_pos (by omega), if_pos (by omega), if_pos (by omega), if_pos (by omega), if_pos (by omega)]
theorem Eqv_mFe {P : Fpt} {a b c d e : Int32} (n1 : ¬ P.2.2.2.2 32 0 10 = true) (n2 : ∀ k, ¬ P.2.2.2.2 37 0 k = true) {h : Hp} : ∀ (j k : Nat) (h' : Hp), Eqv P h h' → Eqv P h (mFe a b c d e j k h')
  | 0, _, _, q => q
  | j + 1, k, h', q => Eqv_mFe n1 n2 j (k + 1) _ (Eqv.sI (Eqv.sI q (n2 _)) n1)
theorem Eqv_ap {P : Fpt} {h h' : Hp} (n1 : ¬ P.2.2.2.2 1 0 1 = true) (n2 : ∀ k, ¬ P.2.2.2.2 13 0 k = true) (q : Eqv P h h') (L : Nat) (x : Int32) : Eqv P h (apH h' L x) :=
  Eqv.sI (Eqv.sI (Eqv.sI (Eqv.sI (Eqv.sI (Eqv.sI (Eqv.sI (Eqv.sI q (n2 _)) n1) (n2 _)) n1) (n2 _)) n1) (n2 _)) n1
theorem Eqv_fe {P : Fpt} {h : Hp} (n1 : ¬ P.2.2.2.2 1 0 1 = true) (n2 : ∀ k, ¬ P.2.2.2.2 13 0 k = true) (L : Nat) (a b c d e : Int32) : Eqv P h (feH h L a b c d e) :=
  Eqv_ap n1 n2 (Eqv_ap n1 n2 (Eqv_ap n1 n2 (Eqv_ap n1 n2 (Eqv_ap n1 n2 (Eqv.rf h) _ _) _ _) _ _) _ _) _ _
set_option maxRecDepth 20000 in
theorem op_feed (g : G0) (h : Hp) (r : RR h) {a b c d e : Int32} : Op g h yX11_feed wX11_feed (pR (0, 0) :: [pI a, pI b, pI c, pI d, pI e]) yX14_feed wX14_feed (pR (32, 0) :: [pI a, pI b, pI c, pI d, pI e]) 8 12 0 0 0 0 := by
  obtain ⟨L, hL, l1, l2, l3⟩ := r.2.2.2.2.1
  have nL : (nI L).toNatClampNeg = L := nI_clamp (by omega)
  have hc : vi h (1, 0) 1 + 20 ≤ 300 ↔ L + 20 ≤ 300 := by rw [l1, show nI L + 20 = nI (L + 20) from nI_add L 20]; exact nI_leI (b := 300) (by omega) (by decide)
  by_cases c1 : L + 20 ≤ 300
  · have eX : xFeed h a b c d e = (nI (L + 20), feH h L a b c d e) := by unfold xFeed; rw [if_pos (hc.mpr c1), l1, nL]
    have q10 : Eqv fMJ h (feH h L a b c d e) := Eqv_fe Bool.false_ne_true (fun _ => Bool.false_ne_true) _ _ _ _ _ _
    have l4 : vi (feH h L a b c d e) (32, 0) 10 = nI L := (Eqv_fe (P := (fun _ => false, fun _ => false, fun _ => false, fun _ => false, fun p _ _ => p == 32)) (h := h) Bool.false_ne_true (fun _ => Bool.false_ne_true) L a b c d e).2.2.2.2 32 0 10 rfl |>.trans l2
    have eY : mFeed (feH h L a b c d e) a b c d e = (nI (L + 20), mFe a b c d e 20 0 (mZ (feH h L a b c d e))) := by unfold mFeed; rw [l4, ← l1, if_pos (hc.mpr c1), l1, nL]
    have mj := mj_of r q10
    have l4z : vi (mZ (feH h L a b c d e)) (32, 0) 10 = nI L := by rw [mZ_v _ _ (by decide)]; exact l4
    refine Op.of2 _ _ _ eX eY (m_feed g h r.1.1 l1 (by omega)) (M_feed g _ mj.1.1 l4 (by omega)) ?_ ?_
    · refine ⟨XI_congr (Eqv_mFe Bool.false_ne_true (fun _ => Bool.false_ne_true) 20 0 _ (Eqv.sI (Eqv_fe Bool.false_ne_true (fun _ => Bool.false_ne_true) _ _ _ _ _ _) Bool.false_ne_true)) r.1, LD_congr (Eqv_mFe Bool.false_ne_true (fun _ => Bool.false_ne_true) 20 0 _ (Eqv.sI (Eqv_fe Bool.false_ne_true (fun _ => Bool.false_ne_true) _ _ _ _ _ _) Bool.false_ne_true)) r.2.1, MJ_congr (Eqv_mFe Bool.false_ne_true (fun _ => Bool.false_ne_true) 20 0 _ (Eqv.sI (Eqv_fe Bool.false_ne_true (fun _ => Bool.false_ne_true) _ _ _ _ _ _) Bool.false_ne_true)) r.2.2.1, ScA_congr (Eqv_mFe Bool.false_ne_true (fun _ => Bool.false_ne_true) 20 0 _ (Eqv.sI (Eqv_fe Bool.false_ne_true (fun _ => Bool.false_ne_true) _ _ _ _ _ _) Bool.false_ne_true)) r.2.2.2.1, ⟨L + 20, c1, ?_, mFe_10 20 0 L _ l4z, fun i hi => ?_⟩, PeR_congr (Eqv_mFe Bool.false_ne_true (fun _ => Bool.false_ne_true) 20 0 _ (Eqv.sI (Eqv_fe Bool.false_ne_true (fun _ => Bool.false_ne_true) _ _ _ _ _ _) Bool.false_ne_true)) r.2.2.2.2.2.1, PaR_congr (Eqv_mFe Bool.false_ne_true (fun _ => Bool.false_ne_true) 20 0 _ (Eqv.sI (Eqv_fe Bool.false_ne_true (fun _ => Bool.false_ne_true) _ _ _ _ _ _) Bool.false_ne_true)) r.2.2.2.2.2.2.1, RoR_congr (Eqv_mFe Bool.false_ne_true (fun _ => Bool.false_ne_true) 20 0 _ (Eqv.sI (Eqv_fe Bool.false_ne_true (fun _ => Bool.false_ne_true) _ _ _ _ _ _) Bool.false_ne_true)) r.2.2.2.2.2.2.2.1, TrR_congr (Eqv_mFe Bool.false_ne_true (fun _ => Bool.false_ne_true) 20 0 _ (Eqv.sI (Eqv_fe Bool.false_ne_true (fun _ => Bool.false_ne_true) _ _ _ _ _ _) Bool.false_ne_true)) r.2.2.2.2.2.2.2.2.1, LaR_congr (Eqv_mFe Bool.false_ne_true (fun _ => Bool.false_ne_true) 20 0 _ (Eqv.sI (Eqv_fe Bool.false_ne_true (fun _ => Bool.false_ne_true) _ _ _ _ _ _) Bool.false_ne_true)) r.2.2.2.2.2.2.2.2.2.1, CsR_congr (Eqv_mFe Bool.false_ne_true (fun _ => Bool.false_ne_true) 20 0 _ (Eqv.sI (Eqv_fe Bool.false_ne_true (fun _ => Bool.false_ne_true) _ _ _ _ _ _) Bool.false_ne_true)) r.2.2.2.2.2.2.2.2.2.2.1, SR_congr (Eqv_mFe Bool.false_ne_true (fun _ => Bool.false_ne_true) 20 0 _ (Eqv.sI (Eqv_fe Bool.false_ne_true (fun _ => Bool.false_ne_true) _ _ _ _ _ _) Bool.false_ne_true)) r.2.2.2.2.2.2.2.2.2.2.2⟩
      · rw [(Eqv_mFe (P := (fun _ => false, fun _ => false, fun _ => false, fun _ => false, fun p _ _ => p == 1)) Bool.false_ne_true (fun _ => Bool.false_ne_true) 20 0 _ (Eqv.rf (mZ (feH h L a b c d e)))).2.2.2.2 1 0 1 rfl]
        rw [mZ_o _ _ (by decide), show L + 20 = L + 16 + 4 by omega]
        exact apH_l _ (L + 16) e
      · rw [(Eqv_mFe (P := (fun _ => false, fun _ => false, fun _ => false, fun _ => false, fun p _ _ => p == 13)) Bool.false_ne_true (fun _ => Bool.false_ne_true) 20 0 _ (Eqv.rf (mZ (feH h L a b c d e)))).2.2.2.2 13 0 i rfl, mFe_v 20 0 L _ c1 l4z]
        by_cases z : i < L
        · rw [if_pos (Or.inl z), mZ_o _ _ (by decide), mZ_o _ _ (by decide), fe_old _ _ _ _ _ _ z]
          refine (l3 i z).trans ?_
          rw [(Eqv_fe (P := (fun _ => false, fun _ => false, fun _ => false, fun _ => false, fun p _ _ => p == 37)) (h := h) Bool.false_ne_true (fun _ => Bool.false_ne_true) L a b c d e).2.2.2.2 37 0 i rfl]
        · rw [if_neg (by omega), mZ_o _ _ (by decide), Nat.zero_add]
          have := fe_byte h (L := L) (k := i - L) a b c d e (by omega)
          rw [show L + (i - L) = i by omega] at this
          exact this
    · have q1 : cn (mFe a b c d e 20 0 (mZ (feH h L a b c d e))) = cn (mZ (feH h L a b c d e)) := by funext p; exact (Eqv_mFe (P := (fun _ => true, fun _ => false, fun _ => false, fun _ => false, fun _ _ _ => false)) Bool.false_ne_true (fun _ => Bool.false_ne_true) 20 0 _ (Eqv.rf (mZ (feH h L a b c d e)))).1 p rfl
      have q2 : cn (mZ (feH h L a b c d e)) = cn h := by funext p; exact (Eqv.sI (P := (fun _ => true, fun _ => false, fun _ => false, fun _ => false, fun _ _ _ => false)) (Eqv_fe Bool.false_ne_true (fun _ => Bool.false_ne_true) _ _ _ _ _ _) Bool.false_ne_true).1 p rfl
      exact q1.trans q2
  · have eX : xFeed h a b c d e = (-1, h) := by unfold xFeed; rw [if_neg (fun z => c1 (hc.mp z))]
    have eY : mFeed h a b c d e = (-1, mZ h) := by unfold mFeed; rw [l2, ← l1, if_neg (fun z => c1 (hc.mp z))]
    exact Op.of2 _ _ _ eX eY (m_feed g h r.1.1 l1 (by omega)) (M_feed g _ r.2.2.1.1.1 l2 (by omega)) (RR_z r) rfl
