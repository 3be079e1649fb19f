theorem sR_sRs (h : Hp) (a : Ad) (f : Nat → Option Ad) (k : Nat) (v : Option Ad) : sR (sRs h a f) a k v = sRs h a (fun j => if j = k then v else f j) := by
  refine Prod.ext rfl (Prod.ext rfl (Prod.ext rfl (Prod.ext rfl ?_)))
  funext b j
  show (if b = a ∧ j = k then v else if b = a then f j else vr h b j) = if b = a then (if j = k then v else f j) else vr h b j
  by_cases hb : b = a
  · by_cases hj : j = k
    · rw [if_pos ⟨hb, hj⟩, if_pos hb, if_pos hj]
    · rw [if_neg (fun z => hj z.2), if_pos hb, if_pos hb, if_neg hj]
  · rw [if_neg (fun z => hb z.1), if_neg hb, if_neg hb]
theorem sRs_id (h : Hp) (a : Ad) (f : Nat → Option Ad) (hf : ∀ j, f j = vr h a j) : sRs h a f = h := by
  refine Prod.ext rfl (Prod.ext rfl (Prod.ext rfl (Prod.ext rfl ?_)))
  funext b j
  show (if b = a then f j else vr h b j) = vr h b j
  by_cases hb : b = a
  · rw [if_pos hb, hf, hb]
  · rw [if_neg hb]
theorem vr_sRs_ne (h : Hp) {a b : Ad} (f : Nat → Option Ad) (j : Nat) (hn : b ≠ a) : vr (sRs h a f) b j = vr h b j := by rw [vr_sRs, if_neg hn]
theorem vr_sRs_eq (h : Hp) (a : Ad) (f : Nat → Option Ad) (j : Nat) : vr (sRs h a f) a j = f j := by rw [vr_sRs, if_pos rfl]
theorem AL.sRs {h : Hp} {j q n : Nat} (hA : AL h j q n) {a : Ad} (ha : a.1 = 15) (f : Nat → Option Ad) : AL (sRs h a f) j q n := by
  have n1 : ∀ p i : Nat, p ≠ 15 → ((p, i) : Ad) ≠ a := fun p i hp e => hp (by rw [← ha, ← e])
  refine ⟨hA.1, hA.2.1, ?_⟩
  rcases hA.2.2 with ⟨z, e⟩ | ⟨e, z1, z2, z3, z4, z5, z6⟩
  · exact Or.inl ⟨z, by rw [vr_sRs_ne _ _ _ (n1 _ _ (by decide))]; exact e⟩
  · exact Or.inr ⟨e, by rw [vr_sRs_ne _ _ _ (n1 _ _ (by decide))]; exact z1, z2, z3, z4, z5, fun i hi => by rw [vr_sRs_ne _ _ _ (n1 _ _ (by decide))]; exact z6 i hi⟩
theorem s15 {h : Hp} (s : SX h) (f : Nat → Option Ad) : SX (sRs h (15, 0) f) := SX.sRs s (by decide)
theorem CSh.s15 {h : Hp} (s : CSh h) (f : Nat → Option Ad) : CSh (sRs h (15, 0) f) := fun c hc => by
  obtain ⟨z1, z2, z3, z4⟩ := s c hc
  exact ⟨z1, by rw [vr_sRs_ne _ _ _ (by intro z; cases z)]; exact z2, z3, z4⟩
theorem PSh.s15 {h : Hp} (s : PSh h) (f : Nat → Option Ad) : PSh (sRs h (15, 0) f) := fun c hc => by
  obtain ⟨z1, z2, z3, z4⟩ := s c hc
  exact ⟨z1, z2, ⟨by rw [vr_sRs_ne _ _ _ (by intro z; cases z)]; exact z3.1, by rw [vr_sRs_ne _ _ _ (by intro z; cases z)]; exact z3.2⟩, z4⟩
def LaO (h : Hp) (f : Nat → Option Ad) : Prop := ∀ m, m < 13 → ∀ a, f m = some a → a.1 = 8 ∧ a.2 < cn h 8
def xCon (h : Hp) (f : Nat → Option Ad) (c : Nat) : Nat → Option Ad :=
  match f (vi h (8, c) 4).toNatClampNeg with
  | none => fun j => if j = (vi h (8, c) 4).toNatClampNeg then some (8, c) else f j
  | some a => if vi h (8, c) 2 < vi h a 2 then f else fun j => if j = (vi h (8, c) 4).toNatClampNeg then some (8, c) else f j
def xLat (h : Hp) (w day : Int32) : Nat → Nat → Option Ad
  | 0 => fun j => if j < 13 then none else vr h (15, 0) j
  | n + 1 => if vi h (8, n) 1 = w ∧ ¬ day < vi h (8, n) 2 then xCon h (xLat h w day n) n else xLat h w day n
theorem LaO.con {h : Hp} {f : Nat → Option Ad} (hf : LaO h f) {c : Nat} (hc : c < cn h 8) : LaO h (xCon h f c) := by
  have s : LaO h (fun j => if j = (vi h (8, c) 4).toNatClampNeg then some (8, c) else f j) := by
    intro m hm a ha
    replace ha : (if m = (vi h (8, c) 4).toNatClampNeg then some (8, c) else f m) = some a := ha
    by_cases e : m = (vi h (8, c) 4).toNatClampNeg
    · rw [if_pos e] at ha; cases ha; exact ⟨rfl, hc⟩
    · rw [if_neg e] at ha; exact hf m hm a ha
  unfold xCon
  split
  · exact s
  · split
    · exact hf
    · exact s
theorem LaO.lat {h : Hp} (w day : Int32) : ∀ n, n ≤ cn h 8 → LaO h (xLat h w day n)
  | 0, _ => fun m hm a ha => by
    have : xLat h w day 0 m = none := if_pos hm
    rw [this] at ha; cases ha
  | n + 1, hn => by
    rw [xLat]
    split
    · exact (LaO.lat w day n (by omega)).con (by omega)
    · exact LaO.lat w day n (by omega)
set_option maxRecDepth 20000 in
theorem m_consider (g : G0) (h : Hp) (hS : SX h) (hC : CSh h) {f : Nat → Option Ad} (hf : LaO h f) {c : Nat} (hc : c < cn h 8) : Mx g yX6_consider wX6_consider 0 [pR (4, 0), pR (8, c)] (sRs h (15, 0) f) 0 0 (qE none (sRs h (15, 0) (xCon h f c))) noX := by
  have hS2 := s15 hS f
  obtain ⟨-, -, -, m, hm, hmv⟩ := hC c hc
  have ncl : (nI m).toNatClampNeg = m := nI_clamp (by omega)
  have ncv : (vi h (8, c) 4).toNatClampNeg = m := by rw [hmv, ncl]
  obtain ⟨o, ho⟩ : ∃ o, f m = o := ⟨_, rfl⟩
  have ho2 : vr (sRs h (15, 0) f) (15, 0) m = o := by rw [vr_sRs_eq]; exact ho
  refine Mx.by kfX6_consider rfl (by decide) (Nat.le_of_ble_eq_true rfl) ?_
  refine v_aload_n dX6_consider_0 rfl ?_
  refine v_getI fl_X6_67 dX6_consider_1 rfl rfl (Nat.le_of_ble_eq_true rfl) hc ?_
  rw [vi_sRs, hmv]
  refine v_istore_n dX6_consider_4 (by decide) ?_
  refine v_iload_n dX6_consider_5 rfl ?_
  refine v_if_lt 18 dX6_consider_6 (by decide) (fun z => absurd z (nI_pos (by omega))) (fun _ => ?_)
  refine v_iload_n dX6_consider_9 rfl ?_
  refine v_aload_n dX6_consider_10 rfl ?_
  refine v_getR (some (15, 0)) fl_X6_11 dX6_consider_11 rfl rfl (Nat.le_of_ble_eq_true rfl) (xh_4_0 hS2) (xr_4_0_0 hS2) ?_
  refine v_alen dX6_consider_14 rfl (by decide) (Nat.le_of_ble_eq_true rfl) (xh_15_0 hS2) ?_
  rw [xl_15_0 hS2]
  refine v_icmp_lt 19 dX6_consider_15 (by decide) (fun _ => ?_) (fun z => absurd (nI_lt (by omega) (by decide)) z)
  refine v_aload_n dX6_consider_19 rfl ?_
  refine v_getR (some (15, 0)) fl_X6_11 dX6_consider_20 rfl rfl (Nat.le_of_ble_eq_true rfl) (xh_4_0 hS2) (xr_4_0_0 hS2) ?_
  refine v_iload_n dX6_consider_23 rfl ?_
  refine v_aald (o) dX6_consider_24 rfl (by decide) (by decide) (Nat.le_of_ble_eq_true rfl) (xh_15_0 hS2) (by rw [xl_15_0 hS2]; exact vp_in_nI (by omega) (by decide)) (by rw [ncl]; exact ho2) ?_
  refine v_astore_n dX6_consider_25 (by decide) ?_
  refine v_aload_n dX6_consider_26 rfl ?_
  refine v_ifnull 41 dX6_consider_27 (by decide) (fun c27 => ?_) (fun a27 c27 => ?_)
  · refine v_aload_n dX6_consider_41 rfl ?_
    refine v_getR (some (15, 0)) fl_X6_11 dX6_consider_42 rfl rfl (Nat.le_of_ble_eq_true rfl) (xh_4_0 hS2) (xr_4_0_0 hS2) ?_
    refine v_iload_n dX6_consider_45 rfl ?_
    refine v_aload_n dX6_consider_46 rfl ?_
    refine v_aast dX6_consider_47 rfl (by decide) (by decide) rfl (Nat.le_of_ble_eq_true rfl) (fun b z => by cases z; exact ⟨Nat.le_of_ble_eq_true rfl, _, _, rfl, rfl, Or.inr rfl⟩) (xh_15_0 hS2) (by rw [xl_15_0 hS2]; exact vp_in_nI (by omega) (by decide)) ?_
    rw [ncl, sR_sRs]
    refine v_return dX6_consider_48 rfl ?_
    first
    | (subst c27; refine ⟨rfl, ?_⟩; rw [xCon, ncv, ho])
    | (refine ⟨rfl, ?_⟩; rw [xCon, ncv, ho]; first | (show _ = sRs h (15, 0) (if vi h (8, c) 2 < vi h (8, a2) 2 then _ else _); rw [if_pos (show vi h (8, c) 2 < vi h (8, a2) 2 from c38)]) | (show _ = sRs h (15, 0) (if vi h (8, c) 2 < vi h (8, a2) 2 then _ else _); rw [if_neg (show ¬ vi h (8, c) 2 < vi h (8, a2) 2 from c38)]))
  · subst c27
    obtain ⟨a1, a2⟩ := a27
    obtain ⟨e1, a2lt⟩ := hf m (by omega) _ ho
    obtain rfl : a1 = 8 := e1
    refine v_aload_n dX6_consider_30 rfl ?_
    refine v_getI fl_X6_31 dX6_consider_31 rfl rfl (Nat.le_of_ble_eq_true rfl) hc ?_
    refine v_aload_n dX6_consider_34 rfl ?_
    refine v_getI fl_X6_31 dX6_consider_35 rfl rfl (Nat.le_of_ble_eq_true rfl) a2lt ?_
    refine v_icmp_lt 48 dX6_consider_38 (by decide) (fun c38 => ?_) (fun c38 => ?_)
    · refine v_return dX6_consider_48 rfl ?_
      first
      | (subst c27; refine ⟨rfl, ?_⟩; rw [xCon, ncv, ho])
      | (refine ⟨rfl, ?_⟩; rw [xCon, ncv, ho]; first | (show _ = sRs h (15, 0) (if vi h (8, c) 2 < vi h (8, a2) 2 then _ else _); rw [if_pos (show vi h (8, c) 2 < vi h (8, a2) 2 from c38)]) | (show _ = sRs h (15, 0) (if vi h (8, c) 2 < vi h (8, a2) 2 then _ else _); rw [if_neg (show ¬ vi h (8, c) 2 < vi h (8, a2) 2 from c38)]))
    · refine v_aload_n dX6_consider_41 rfl ?_
      refine v_getR (some (15, 0)) fl_X6_11 dX6_consider_42 rfl rfl (Nat.le_of_ble_eq_true rfl) (xh_4_0 hS2) (xr_4_0_0 hS2) ?_
      refine v_iload_n dX6_consider_45 rfl ?_
      refine v_aload_n dX6_consider_46 rfl ?_
      refine v_aast dX6_consider_47 rfl (by decide) (by decide) rfl (Nat.le_of_ble_eq_true rfl) (fun b z => by cases z; exact ⟨Nat.le_of_ble_eq_true rfl, _, _, rfl, rfl, Or.inr rfl⟩) (xh_15_0 hS2) (by rw [xl_15_0 hS2]; exact vp_in_nI (by omega) (by decide)) ?_
      rw [ncl, sR_sRs]
      refine v_return dX6_consider_48 rfl ?_
      first
      | (subst c27; refine ⟨rfl, ?_⟩; rw [xCon, ncv, ho])
      | (refine ⟨rfl, ?_⟩; rw [xCon, ncv, ho]; first | (show _ = sRs h (15, 0) (if vi h (8, c) 2 < vi h (8, a2) 2 then _ else _); rw [if_pos (show vi h (8, c) 2 < vi h (8, a2) 2 from c38)]) | (show _ = sRs h (15, 0) (if vi h (8, c) 2 < vi h (8, a2) 2 then _ else _); rw [if_neg (show ¬ vi h (8, c) 2 < vi h (8, a2) 2 from c38)]))
def clr (h : Hp) (i : Nat) : Hp := sRs h (15, 0) (fun j => if j < i then none else vr h (15, 0) j)
theorem clr_s (h : Hp) (i : Nat) : sR (clr h i) (15, 0) i none = clr h (i + 1) := by
  rw [clr, sR_sRs, clr]
  congr 1
  funext j
  by_cases e : j = i
  · rw [if_pos e, if_pos (by omega)]
  · rw [if_neg e]
    by_cases l : j < i
    · rw [if_pos l, if_pos (by omega)]
    · rw [if_neg l, if_neg (by omega)]
set_option maxRecDepth 20000 in
theorem settle2 (g : G0) (h : Hp) (hS : SX h) (hC : CSh h) {n : Nat} (hA : AL h 0 8 n) (hn : n ≤ cn h 8) (w day : Int32) : ∀ (j i : Nat) (x : Int32), i + j = n → x = nI i → V g kfX6_settle 3 0 0 30 [(0, pR (4, 0)), (1, pR (7, 0)), (2, pI w), (3, pI day), (4, pI x)] [] (sRs h (15, 0) (xLat h w day i)) (qE none (sRs h (15, 0) (xLat h w day n))) (fun _ _ a h' => noX a h') := by
  have n1000 := hA.2.1
  intro j
  induction j with
  | zero =>
    intro i x hij hx
    subst hx
    obtain rfl : i = n := by omega
    have hS2 := s15 hS (xLat h w day i)
    refine v_iload dX6_settle_30 rfl ?_
    refine v_aload_n dX6_settle_32 rfl ?_
    refine v_invVE (m_size g _ (xh_7_0 hS2)) dX6_settle_33 cwJx4a65c_size_8abf5 mlX6_17 (ob_7 _) rfl rfl (by decide) (by decide) (Nat.le_of_ble_eq_true rfl) ?_
    rw [vi_sRs, hA.1]
    refine v_icmp_ge 80 dX6_settle_36 (by decide) (fun _ => ?_) (fun z => absurd (nI_le (by omega) (by omega)) z)
    refine v_return dX6_settle_80 rfl ?_
    exact ⟨rfl, rfl⟩
  | succ j ih =>
    intro i x hij hx
    subst hx
    have hS2 := s15 hS (xLat h w day i)
    have hA2 := hA.sRs (a := (15, 0)) rfl (xLat h w day i)
    have hc : i < cn (sRs h (15, 0) (xLat h w day i)) 8 := by show i < cn h 8; omega
    refine v_iload dX6_settle_30 rfl ?_
    refine v_aload_n dX6_settle_32 rfl ?_
    refine v_invVE (m_size g _ (xh_7_0 hS2)) dX6_settle_33 cwJx4a65c_size_8abf5 mlX6_17 (ob_7 _) rfl rfl (by decide) (by decide) (Nat.le_of_ble_eq_true rfl) ?_
    rw [vi_sRs, hA.1]
    refine v_icmp_ge 80 dX6_settle_36 (by decide) (fun z => absurd z (nI_ge (by omega) (by omega))) (fun _ => ?_)
    refine v_aload_n dX6_settle_39 rfl ?_
    refine v_iload dX6_settle_40 rfl ?_
    refine v_invVE (m_get g _ (xh_7_0 hS2) hA2 (i := i) (by omega)) dX6_settle_42 cwJx4a65c_get_915e3 mlX6_23 (ob_7 _) rfl rfl (by decide) (by decide) (Nat.le_of_ble_eq_true rfl) ?_
    refine v_cast dX6_settle_45 clX6_9 (fun a z => by cases z; exact ⟨Nat.le_of_ble_eq_true rfl, _, _, rfl, rfl, rfl⟩) ?_
    refine v_astore dX6_settle_48 (by decide) ?_
    refine v_aload dX6_settle_50 rfl ?_
    refine v_getI fl_X6_27 dX6_settle_52 rfl rfl (Nat.le_of_ble_eq_true rfl) hc ?_
    refine v_iload_n dX6_settle_55 rfl ?_
    refine v_icmp_ne 74 dX6_settle_56 (by decide) (fun c56 => ?_) (fun c56 => ?_)
    · refine v_iinc _ dX6_settle_74 rfl rfl (by decide) ?_
      refine v_goto 30 dX6_settle_77 (by decide) ?_
      first
      | (have e : xLat h w day (i + 1) = xLat h w day i := (by rw [xLat, if_neg (fun z => c56 z.1)]); rw [← e]; refine v_loc [(0, pR (4, 0)), (1, pR (7, 0)), (2, pI w), (3, pI day), (4, pI (nI i + 1))] rfl ?_; exact ih (i + 1) _ (by omega) (nI_1 i))
      | (have e : xLat h w day (i + 1) = xLat h w day i := (by rw [xLat, if_neg (fun z => z.2 c65)]); rw [← e]; refine v_loc [(0, pR (4, 0)), (1, pR (7, 0)), (2, pI w), (3, pI day), (4, pI (nI i + 1))] rfl ?_; exact ih (i + 1) _ (by omega) (nI_1 i))
      | (have e : xLat h w day (i + 1) = xCon h (xLat h w day i) i := (by rw [xLat, if_pos ⟨c56, c65⟩]); rw [← e]; refine v_loc [(0, pR (4, 0)), (1, pR (7, 0)), (2, pI w), (3, pI day), (4, pI (nI i + 1))] rfl ?_; exact ih (i + 1) _ (by omega) (nI_1 i))
    · refine v_aload dX6_settle_59 rfl ?_
      refine v_getI fl_X6_31 dX6_settle_61 rfl rfl (Nat.le_of_ble_eq_true rfl) hc ?_
      refine v_iload_n dX6_settle_64 rfl ?_
      refine v_icmp_gt 74 dX6_settle_65 (by decide) (fun c65 => ?_) (fun c65 => ?_)
      · refine v_iinc _ dX6_settle_74 rfl rfl (by decide) ?_
        refine v_goto 30 dX6_settle_77 (by decide) ?_
        first
        | (have e : xLat h w day (i + 1) = xLat h w day i := (by rw [xLat, if_neg (fun z => c56 z.1)]); rw [← e]; refine v_loc [(0, pR (4, 0)), (1, pR (7, 0)), (2, pI w), (3, pI day), (4, pI (nI i + 1))] rfl ?_; exact ih (i + 1) _ (by omega) (nI_1 i))
        | (have e : xLat h w day (i + 1) = xLat h w day i := (by rw [xLat, if_neg (fun z => z.2 c65)]); rw [← e]; refine v_loc [(0, pR (4, 0)), (1, pR (7, 0)), (2, pI w), (3, pI day), (4, pI (nI i + 1))] rfl ?_; exact ih (i + 1) _ (by omega) (nI_1 i))
        | (have e : xLat h w day (i + 1) = xCon h (xLat h w day i) i := (by rw [xLat, if_pos ⟨c56, c65⟩]); rw [← e]; refine v_loc [(0, pR (4, 0)), (1, pR (7, 0)), (2, pI w), (3, pI day), (4, pI (nI i + 1))] rfl ?_; exact ih (i + 1) _ (by omega) (nI_1 i))
      · refine v_aload_n dX6_settle_68 rfl ?_
        refine v_aload dX6_settle_69 rfl ?_
        refine v_invVE (m_consider g h hS hC (LaO.lat w day i (by omega)) hc) dX6_settle_71 cwX6_consider mlX6_34 (ob_4 _) rfl rfl (by decide) (by decide) (Nat.le_of_ble_eq_true rfl) ?_
        refine v_iinc _ dX6_settle_74 rfl rfl (by decide) ?_
        refine v_goto 30 dX6_settle_77 (by decide) ?_
        first
        | (have e : xLat h w day (i + 1) = xLat h w day i := (by rw [xLat, if_neg (fun z => c56 z.1)]); rw [← e]; refine v_loc [(0, pR (4, 0)), (1, pR (7, 0)), (2, pI w), (3, pI day), (4, pI (nI i + 1))] rfl ?_; exact ih (i + 1) _ (by omega) (nI_1 i))
        | (have e : xLat h w day (i + 1) = xLat h w day i := (by rw [xLat, if_neg (fun z => z.2 c65)]); rw [← e]; refine v_loc [(0, pR (4, 0)), (1, pR (7, 0)), (2, pI w), (3, pI day), (4, pI (nI i + 1))] rfl ?_; exact ih (i + 1) _ (by omega) (nI_1 i))
        | (have e : xLat h w day (i + 1) = xCon h (xLat h w day i) i := (by rw [xLat, if_pos ⟨c56, c65⟩]); rw [← e]; refine v_loc [(0, pR (4, 0)), (1, pR (7, 0)), (2, pI w), (3, pI day), (4, pI (nI i + 1))] rfl ?_; exact ih (i + 1) _ (by omega) (nI_1 i))
set_option maxRecDepth 20000 in
theorem settle1 (g : G0) (h : Hp) (hS : SX h) (hC : CSh h) {n : Nat} (hA : AL h 0 8 n) (hn : n ≤ cn h 8) (w day : Int32) : ∀ (j i : Nat) (x : Int32), i + j = 13 → x = nI i → V g kfX6_settle 3 0 0 3 [(0, pR (4, 0)), (1, pR (7, 0)), (2, pI w), (3, pI day), (4, pI x)] [] (clr h i) (qE none (sRs h (15, 0) (xLat h w day n))) (fun _ _ a h' => noX a h') := by
  intro j
  induction j with
  | zero =>
    intro i x hij hx
    subst hx
    obtain rfl : i = 13 := by omega
    have hS2 : SX (clr h 13) := s15 hS _
    refine v_iload dX6_settle_3 rfl ?_
    refine v_aload_n dX6_settle_5 rfl ?_
    refine v_getR (some (15, 0)) fl_X6_11 dX6_settle_6 rfl rfl (Nat.le_of_ble_eq_true rfl) (xh_4_0 hS2) (xr_4_0_0 hS2) ?_
    refine v_alen dX6_settle_9 rfl (by decide) (Nat.le_of_ble_eq_true rfl) (xh_15_0 hS2) ?_
    rw [xl_15_0 hS2]
    refine v_icmp_ge 27 dX6_settle_10 (by decide) (fun _ => ?_) (fun z => absurd (nI_le (by omega) (by omega)) z)
    refine v_iconst (0) dX6_settle_27 (by decide) ?_
    refine v_istore dX6_settle_28 (by decide) ?_
    refine v_loc [(0, pR (4, 0)), (1, pR (7, 0)), (2, pI w), (3, pI day), (4, pI 0)] rfl ?_
    exact settle2 g h hS hC hA hn w day n 0 0 (by omega) rfl
  | succ j ih =>
    intro i x hij hx
    subst hx
    have hS2 : SX (clr h i) := s15 hS _
    have ncl : (nI i).toNatClampNeg = i := nI_clamp (by omega)
    refine v_iload dX6_settle_3 rfl ?_
    refine v_aload_n dX6_settle_5 rfl ?_
    refine v_getR (some (15, 0)) fl_X6_11 dX6_settle_6 rfl rfl (Nat.le_of_ble_eq_true rfl) (xh_4_0 hS2) (xr_4_0_0 hS2) ?_
    refine v_alen dX6_settle_9 rfl (by decide) (Nat.le_of_ble_eq_true rfl) (xh_15_0 hS2) ?_
    rw [xl_15_0 hS2]
    refine v_icmp_ge 27 dX6_settle_10 (by decide) (fun z => absurd z (nI_ge (by omega) (by omega))) (fun _ => ?_)
    refine v_aload_n dX6_settle_13 rfl ?_
    refine v_getR (some (15, 0)) fl_X6_11 dX6_settle_14 rfl rfl (Nat.le_of_ble_eq_true rfl) (xh_4_0 hS2) (xr_4_0_0 hS2) ?_
    refine v_iload dX6_settle_17 rfl ?_
    refine v_null dX6_settle_19 ?_
    refine v_aast dX6_settle_20 rfl (by decide) (by decide) rfl (Nat.le_of_ble_eq_true rfl) (fun b z => by cases z) (xh_15_0 hS2) (by rw [xl_15_0 hS2]; exact vp_in_nI (by omega) (by decide)) ?_
    rw [ncl, clr_s]
    refine v_iinc _ dX6_settle_21 rfl rfl (by decide) ?_
    refine v_goto 3 dX6_settle_24 (by decide) ?_
    refine v_loc [(0, pR (4, 0)), (1, pR (7, 0)), (2, pI w), (3, pI day), (4, pI (nI i + 1))] rfl ?_
    exact ih (i + 1) _ (by omega) (nI_1 i)
set_option maxRecDepth 20000 in
theorem m_settle (g : G0) (h : Hp) (hS : SX h) (hC : CSh h) {n : Nat} (hA : AL h 0 8 n) (hn : n ≤ cn h 8) {w day : Int32} : Mx g yX6_settle wX6_settle 3 [pR (4, 0), pR (7, 0), pI w, pI day] h 0 0 (qE none (sRs h (15, 0) (xLat h w day n))) noX := by
  refine Mx.by kfX6_settle rfl (by decide) (Nat.le_of_ble_eq_true rfl) ?_
  refine v_iconst (0) dX6_settle_0 (by decide) ?_
  refine v_istore dX6_settle_1 (by decide) ?_
  refine v_loc [(0, pR (4, 0)), (1, pR (7, 0)), (2, pI w), (3, pI day), (4, pI 0)] rfl ?_
  have e : clr h 0 = h := sRs_id _ _ _ (fun j => if_neg (by omega))
  have := settle1 g h hS hC hA hn w day 13 0 0 (by omega) rfl
  rw [e] at this
  exact this
def xCl (h : Hp) (m : Nat) : Option Ad := match vr h (15, 0) m with
  | none => none
  | some a => if vi h a 3 = 5 then some a else none
def LaH (h : Hp) : Prop := LaO h (vr h (15, 0))
theorem xCl_ok {h : Hp} (hf : LaH h) {m : Nat} (hm : m < 13) {a : Ad} (ha : xCl h m = some a) : a.1 = 8 ∧ a.2 < cn h 8 := by
  unfold xCl at ha
  split at ha
  · cases ha
  · rename_i b hb
    split at ha
    · cases ha; exact hf m hm _ hb
    · cases ha
set_option maxRecDepth 20000 in
theorem m_clauseAt (g : G0) (h : Hp) (hS : SX h) (hf : LaH h) {m : Nat} (h1 : 1 ≤ m) (hm : m ≤ 12) : Mx g yX6_clauseAt wX6_clauseAt 0 [pR (4, 0), pI (nI m)] h 0 0 (qE (some (pO (xCl h m))) h) noX := by
  have ncl : (nI m).toNatClampNeg = m := nI_clamp (by omega)
  obtain ⟨o, ho⟩ : ∃ o, vr h (15, 0) m = o := ⟨_, rfl⟩
  refine Mx.by kfX6_clauseAt rfl (by decide) (Nat.le_of_ble_eq_true rfl) ?_
  refine v_iload_n dX6_clauseAt_0 rfl ?_
  refine v_iconst (1) dX6_clauseAt_1 (by decide) ?_
  refine v_icmp_lt 14 dX6_clauseAt_2 (by decide) (fun z => absurd z (show ¬ nI m < nI 1 from nI_nlt (by omega) (by omega))) (fun _ => ?_)
  refine v_iload_n dX6_clauseAt_5 rfl ?_
  refine v_aload_n dX6_clauseAt_6 rfl ?_
  refine v_getR (some (15, 0)) fl_X6_11 dX6_clauseAt_7 rfl rfl (Nat.le_of_ble_eq_true rfl) (xh_4_0 hS) (xr_4_0_0 hS) ?_
  refine v_alen dX6_clauseAt_10 rfl (by decide) (Nat.le_of_ble_eq_true rfl) (xh_15_0 hS) ?_
  rw [xl_15_0 hS]
  refine v_icmp_lt 16 dX6_clauseAt_11 (by decide) (fun _ => ?_) (fun z => absurd (nI_lt (by omega) (by decide)) z)
  refine v_aload_n dX6_clauseAt_16 rfl ?_
  refine v_getR (some (15, 0)) fl_X6_11 dX6_clauseAt_17 rfl rfl (Nat.le_of_ble_eq_true rfl) (xh_4_0 hS) (xr_4_0_0 hS) ?_
  refine v_iload_n dX6_clauseAt_20 rfl ?_
  refine v_aald (o) dX6_clauseAt_21 rfl (by decide) (by decide) (Nat.le_of_ble_eq_true rfl) (xh_15_0 hS) (by rw [xl_15_0 hS]; exact vp_in_nI (by omega) (by decide)) (by rw [ncl]; exact ho) ?_
  refine v_astore_n dX6_clauseAt_22 (by decide) ?_
  refine v_aload_n dX6_clauseAt_23 rfl ?_
  refine v_ifnull 39 dX6_clauseAt_24 (by decide) (fun c24 => ?_) (fun a24 c24 => ?_)
  · refine v_null dX6_clauseAt_39 ?_
    refine v_areturn dX6_clauseAt_40 rfl (Or.inl ⟨_, rfl⟩) ?_
    first
    | (subst c24; refine ⟨?_, rfl⟩; rw [xCl, ho])
    | (refine ⟨?_, rfl⟩; rw [xCl, ho]; show some (pO _) = some (pO (if vi h (8, a2) 3 = 5 then _ else _)); first | rw [if_pos c32] | rw [if_neg c32])
  · subst c24
    obtain ⟨a1, a2⟩ := a24
    obtain ⟨e1, a2lt⟩ := hf m (by omega) _ ho
    obtain rfl : a1 = 8 := e1
    refine v_aload_n dX6_clauseAt_27 rfl ?_
    refine v_getI fl_X6_38 dX6_clauseAt_28 rfl rfl (Nat.le_of_ble_eq_true rfl) a2lt ?_
    refine v_iconst (5) dX6_clauseAt_31 (by decide) ?_
    refine v_icmp_ne 39 dX6_clauseAt_32 (by decide) (fun c32 => ?_) (fun c32 => ?_)
    · refine v_null dX6_clauseAt_39 ?_
      refine v_areturn dX6_clauseAt_40 rfl (Or.inl ⟨_, rfl⟩) ?_
      first
      | (subst c24; refine ⟨?_, rfl⟩; rw [xCl, ho])
      | (refine ⟨?_, rfl⟩; rw [xCl, ho]; show some (pO _) = some (pO (if vi h (8, a2) 3 = 5 then _ else _)); first | rw [if_pos c32] | rw [if_neg c32])
    · refine v_aload_n dX6_clauseAt_35 rfl ?_
      refine v_goto 40 dX6_clauseAt_36 (by decide) ?_
      refine v_areturn dX6_clauseAt_40 rfl (Or.inl ⟨_, rfl⟩) ?_
      first
      | (subst c24; refine ⟨?_, rfl⟩; rw [xCl, ho])
      | (refine ⟨?_, rfl⟩; rw [xCl, ho]; show some (pO _) = some (pO (if vi h (8, a2) 3 = 5 then _ else _)); first | rw [if_pos c32] | rw [if_neg c32])
def xHw (h : Hp) : Nat → Nat → Int32 → Int32
  | 0, _, s => s
  | j + 1, m, s => xHw h j (m + 1) (match xCl h m with | none => s | some _ => s + 1)
def xHow (h : Hp) : Int32 := xHw h 12 1 0
def xBr (h : Hp) (p : Nat) (day : Int32) : Nat → Nat → Int32
  | 0, _ => -2
  | j + 1, m => match xCl h m with
    | none => xBr h p day j (m + 1)
    | some a => if xHold h a.2 p day = 0 then nI m else xBr h p day j (m + 1)
def xBar (h : Hp) (p : Nat) (day : Int32) : Int32 := xBr h p day 12 1
def xAdm (h : Hp) (p : Nat) (day : Int32) : Int32 := if day < vi h (9, p) 3 then 0 else if day < vi h (9, p) 7 then (if xHow h ≤ 0 then 0 else if xBar h p day = -2 then 1 else 0) else 0
def xRank (h : Hp) (p : Nat) (day : Int32) : Int32 := match vr h (15, 0) 0 with
  | none => 0
  | some a => xSum h a.2 p day
set_option maxRecDepth 20000 in
theorem howMany_loop (g : G0) (h : Hp) (hS : SX h) (hf : LaH h) : ∀ (j m : Nat) (s x : Int32), m + j = 13 → 1 ≤ m → x = nI m → V g kfX6_howMany 1 0 0 4 [(0, pR (4, 0)), (1, pI s), (2, pI x)] [] h (qE (some (pI (xHw h j m s))) h) (fun _ _ a h' => noX a h') := by
  intro j
  induction j with
  | zero =>
    intro m s x hij h1 hx
    subst hx
    refine v_iload_n dX6_howMany_4 rfl ?_
    refine v_bipush (12) dX6_howMany_5 (by decide) ?_
    refine v_icmp_gt 27 dX6_howMany_7 (by decide) (fun _ => ?_) (fun z => absurd (show nI 12 < nI m from nI_lt (by omega) (by omega)) z)
    refine v_iload_n dX6_howMany_27 rfl ?_
    refine v_ireturn dX6_howMany_28 rfl rfl ?_
    exact ⟨rfl, rfl⟩
  | succ j ih =>
    intro m s x hij h1 hx
    subst hx
    refine v_iload_n dX6_howMany_4 rfl ?_
    refine v_bipush (12) dX6_howMany_5 (by decide) ?_
    refine v_icmp_gt 27 dX6_howMany_7 (by decide) (fun z => absurd z (show ¬ nI 12 < nI m from nI_nlt (by omega) (by omega))) (fun _ => ?_)
    refine v_aload_n dX6_howMany_10 rfl ?_
    refine v_iload_n dX6_howMany_11 rfl ?_
    refine v_invVE (m_clauseAt g h hS hf h1 (by omega)) dX6_howMany_12 cwX6_clauseAt mlX6_41 (ob_4 _) rfl rfl (by decide) (by decide) (Nat.le_of_ble_eq_true rfl) ?_
    refine v_ifnull 21 dX6_howMany_15 (by decide) (fun c15 => ?_) (fun a15 c15 => ?_)
    · refine v_iinc _ dX6_howMany_21 rfl rfl (by decide) ?_
      refine v_goto 4 dX6_howMany_24 (by decide) ?_
      rw [xHw, c15]
      first | (refine v_loc [(0, pR (4, 0)), (1, pI s), (2, pI (nI m + 1))] rfl ?_; exact ih (m + 1) _ _ (by omega) (by omega) (nI_1 m)) | (refine v_loc [(0, pR (4, 0)), (1, pI (s + 1)), (2, pI (nI m + 1))] rfl ?_; exact ih (m + 1) _ _ (by omega) (by omega) (nI_1 m))
    · refine v_iinc _ dX6_howMany_18 rfl rfl (by decide) ?_
      refine v_iinc _ dX6_howMany_21 rfl rfl (by decide) ?_
      refine v_goto 4 dX6_howMany_24 (by decide) ?_
      rw [xHw, c15]
      first | (refine v_loc [(0, pR (4, 0)), (1, pI s), (2, pI (nI m + 1))] rfl ?_; exact ih (m + 1) _ _ (by omega) (by omega) (nI_1 m)) | (refine v_loc [(0, pR (4, 0)), (1, pI (s + 1)), (2, pI (nI m + 1))] rfl ?_; exact ih (m + 1) _ _ (by omega) (by omega) (nI_1 m))
set_option maxRecDepth 20000 in
theorem m_howMany (g : G0) (h : Hp) (hS : SX h) (hf : LaH h) : Mx g yX6_howMany wX6_howMany 1 [pR (4, 0)] h 0 0 (qE (some (pI (xHow h))) h) noX := by
  refine Mx.by kfX6_howMany rfl (by decide) (Nat.le_of_ble_eq_true rfl) ?_
  refine v_iconst (0) dX6_howMany_0 (by decide) ?_
  refine v_istore_n dX6_howMany_1 (by decide) ?_
  refine v_iconst (1) dX6_howMany_2 (by decide) ?_
  refine v_istore_n dX6_howMany_3 (by decide) ?_
  refine v_loc [(0, pR (4, 0)), (1, pI 0), (2, pI 1)] rfl ?_
  exact howMany_loop g h hS hf 12 1 0 1 (by omega) (by omega) rfl
set_option maxRecDepth 20000 in
theorem firstBar_loop (g : G0) (h : Hp) (hS : SX h) (hf : LaH h) (hP : PSh h) (hC : CSh h) {p : Nat} (hp : p < cn h 9) (day : Int32) : ∀ (j m : Nat) (x : Int32), m + j = 13 → 1 ≤ m → x = nI m → V g kfX6_firstBar 3 0 0 2 [(0, pR (4, 0)), (1, pR (9, p)), (2, pI day), (3, pI x)] [] h (qE (some (pI (xBr h p day j m))) h) (fun _ _ a h' => noX a h') := by
  intro j
  induction j with
  | zero =>
    intro m x hij h1 hx
    subst hx
    refine v_iload_n dX6_firstBar_2 rfl ?_
    refine v_bipush (12) dX6_firstBar_3 (by decide) ?_
    refine v_icmp_gt 38 dX6_firstBar_5 (by decide) (fun _ => ?_) (fun z => absurd (show nI 12 < nI m from nI_lt (by omega) (by omega)) z)
    refine v_bipush (-2) dX6_firstBar_38 (by decide) ?_
    refine v_ireturn dX6_firstBar_40 rfl rfl ?_
    exact ⟨rfl, rfl⟩
  | succ j ih =>
    intro m x hij h1 hx
    subst hx
    obtain ⟨o, ho⟩ : ∃ o, xCl h m = o := ⟨_, rfl⟩
    have hcl := m_clauseAt g h hS hf h1 (show m ≤ 12 by omega)
    rw [ho] at hcl
    refine v_iload_n dX6_firstBar_2 rfl ?_
    refine v_bipush (12) dX6_firstBar_3 (by decide) ?_
    refine v_icmp_gt 38 dX6_firstBar_5 (by decide) (fun z => absurd z (show ¬ nI 12 < nI m from nI_nlt (by omega) (by omega))) (fun _ => ?_)
    refine v_aload_n dX6_firstBar_8 rfl ?_
    refine v_iload_n dX6_firstBar_9 rfl ?_
    refine v_invVE (hcl) dX6_firstBar_10 cwX6_clauseAt mlX6_41 (ob_4 _) rfl rfl (by decide) (by decide) (Nat.le_of_ble_eq_true rfl) ?_
    refine v_astore dX6_firstBar_13 (by decide) ?_
    refine v_aload dX6_firstBar_15 rfl ?_
    refine v_ifnull 32 dX6_firstBar_17 (by decide) (fun c17 => ?_) (fun a17 c17 => ?_)
    · refine v_iinc _ dX6_firstBar_32 rfl rfl (by decide) ?_
      refine v_goto 2 dX6_firstBar_35 (by decide) ?_
      first
      | (subst c17; have e : xBr h p day (j + 1) m = xBr h p day j (m + 1) := (by rw [xBr, ho]); rw [e]; refine v_loc [(0, pR (4, 0)), (1, pR (9, p)), (2, pI day), (3, pI (nI m + 1))] rfl ?_; exact ih (m + 1) _ (by omega) (by omega) (nI_1 m))
      | (have e : xBr h p day (j + 1) m = xBr h p day j (m + 1) := (by rw [xBr, ho]; exact if_neg c27); rw [e]; refine v_loc [(0, pR (4, 0)), (1, pR (9, p)), (2, pI day), (3, pI (nI m + 1))] rfl ?_; exact ih (m + 1) _ (by omega) (by omega) (nI_1 m))
    · subst c17
      obtain ⟨a1, a2⟩ := a17
      obtain ⟨e1, a2lt⟩ := xCl_ok hf (by omega) ho
      obtain rfl : a1 = 8 := e1
      refine v_aload dX6_firstBar_20 rfl ?_
      refine v_aload_n dX6_firstBar_22 rfl ?_
      refine v_iload_n dX6_firstBar_23 rfl ?_
      refine v_invVE (m_holdsFor g h hP hC a2lt hp) dX6_firstBar_24 cwX0_holdsFor mlX6_45 (ob_8 _) rfl rfl (by decide) (by decide) (Nat.le_of_ble_eq_true rfl) ?_
      refine v_if_ne 32 dX6_firstBar_27 (by decide) (fun c27 => ?_) (fun c27 => ?_)
      · refine v_iinc _ dX6_firstBar_32 rfl rfl (by decide) ?_
        refine v_goto 2 dX6_firstBar_35 (by decide) ?_
        first
        | (subst c17; have e : xBr h p day (j + 1) m = xBr h p day j (m + 1) := (by rw [xBr, ho]); rw [e]; refine v_loc [(0, pR (4, 0)), (1, pR (9, p)), (2, pI day), (3, pI (nI m + 1))] rfl ?_; exact ih (m + 1) _ (by omega) (by omega) (nI_1 m))
        | (have e : xBr h p day (j + 1) m = xBr h p day j (m + 1) := (by rw [xBr, ho]; exact if_neg c27); rw [e]; refine v_loc [(0, pR (4, 0)), (1, pR (9, p)), (2, pI day), (3, pI (nI m + 1))] rfl ?_; exact ih (m + 1) _ (by omega) (by omega) (nI_1 m))
      · refine v_iload_n dX6_firstBar_30 rfl ?_
        refine v_ireturn dX6_firstBar_31 rfl rfl ?_
        refine ⟨?_, rfl⟩
        rw [xBr, ho]
        show _ = some (pI (if xHold h a2 p day = 0 then _ else _))
        rw [if_pos c27]
set_option maxRecDepth 20000 in
theorem m_firstBar (g : G0) (h : Hp) (hS : SX h) (hf : LaH h) (hP : PSh h) (hC : CSh h) {p : Nat} (hp : p < cn h 9) {day : Int32} : Mx g yX6_firstBar wX6_firstBar 3 [pR (4, 0), pR (9, p), pI day] h 0 0 (qE (some (pI (xBar h p day))) h) noX := by
  refine Mx.by kfX6_firstBar rfl (by decide) (Nat.le_of_ble_eq_true rfl) ?_
  refine v_iconst (1) dX6_firstBar_0 (by decide) ?_
  refine v_istore_n dX6_firstBar_1 (by decide) ?_
  refine v_loc [(0, pR (4, 0)), (1, pR (9, p)), (2, pI day), (3, pI 1)] rfl ?_
  exact firstBar_loop g h hS hf hP hC hp day 12 1 1 (by omega) (by omega) rfl
set_option maxRecDepth 20000 in
theorem m_admits (g : G0) (h : Hp) (hS : SX h) (hf : LaH h) (hP : PSh h) (hC : CSh h) {p : Nat} (hp : p < cn h 9) {day : Int32} : Mx g yX6_admits wX6_admits 4 [pR (4, 0), pR (9, p), pI day] h 0 0 (qE (some (pI (xAdm h p day))) h) noX := by
  refine Mx.by kfX6_admits rfl (by decide) (Nat.le_of_ble_eq_true rfl) ?_
  refine v_aload_n dX6_admits_0 rfl ?_
  refine v_getI fl_X6_49 dX6_admits_1 rfl rfl (Nat.le_of_ble_eq_true rfl) hp ?_
  refine v_iload_n dX6_admits_4 rfl ?_
  refine v_icmp_gt 16 dX6_admits_5 (by decide) (fun c5 => ?_) (fun c5 => ?_)
  · refine v_iconst (0) dX6_admits_16 (by decide) ?_
    refine v_ireturn dX6_admits_17 rfl rfl ?_
    refine ⟨?_, rfl⟩
    first
    | rw [xAdm, if_pos c5]
    | rw [xAdm, if_neg c5, if_neg c13]
    | rw [xAdm, if_neg c5, if_pos c13, if_pos c22]
    | rw [xAdm, if_neg c5, if_pos c13, if_neg c22, if_neg c33]
    | rw [xAdm, if_neg c5, if_pos c13, if_neg c22, if_pos c33]
  · refine v_aload_n dX6_admits_8 rfl ?_
    refine v_getI fl_X6_54 dX6_admits_9 rfl rfl (Nat.le_of_ble_eq_true rfl) hp ?_
    refine v_iload_n dX6_admits_12 rfl ?_
    refine v_icmp_gt 18 dX6_admits_13 (by decide) (fun c13 => ?_) (fun c13 => ?_)
    · refine v_aload_n dX6_admits_18 rfl ?_
      refine v_invVE (m_howMany g h hS hf) dX6_admits_19 cwX6_howMany mlX6_57 (ob_4 _) rfl rfl (by decide) (by decide) (Nat.le_of_ble_eq_true rfl) ?_
      refine v_if_le 40 dX6_admits_22 (by decide) (fun c22 => ?_) (fun c22 => ?_)
      · refine v_iconst (0) dX6_admits_40 (by decide) ?_
        refine v_ireturn dX6_admits_41 rfl rfl ?_
        refine ⟨?_, rfl⟩
        first
        | rw [xAdm, if_pos c5]
        | rw [xAdm, if_neg c5, if_neg c13]
        | rw [xAdm, if_neg c5, if_pos c13, if_pos c22]
        | rw [xAdm, if_neg c5, if_pos c13, if_neg c22, if_neg c33]
        | rw [xAdm, if_neg c5, if_pos c13, if_neg c22, if_pos c33]
      · refine v_aload_n dX6_admits_25 rfl ?_
        refine v_aload_n dX6_admits_26 rfl ?_
        refine v_iload_n dX6_admits_27 rfl ?_
        refine v_invVE (m_firstBar g h hS hf hP hC hp) dX6_admits_28 cwX6_firstBar mlX6_60 (ob_4 _) rfl rfl (by decide) (by decide) (Nat.le_of_ble_eq_true rfl) ?_
        refine v_bipush (-2) dX6_admits_31 (by decide) ?_
        refine v_icmp_ne 40 dX6_admits_33 (by decide) (fun c33 => ?_) (fun c33 => ?_)
        · refine v_iconst (0) dX6_admits_40 (by decide) ?_
          refine v_ireturn dX6_admits_41 rfl rfl ?_
          refine ⟨?_, rfl⟩
          first
          | rw [xAdm, if_pos c5]
          | rw [xAdm, if_neg c5, if_neg c13]
          | rw [xAdm, if_neg c5, if_pos c13, if_pos c22]
          | rw [xAdm, if_neg c5, if_pos c13, if_neg c22, if_neg c33]
          | rw [xAdm, if_neg c5, if_pos c13, if_neg c22, if_pos c33]
        · refine v_iconst (1) dX6_admits_36 (by decide) ?_
          refine v_goto 41 dX6_admits_37 (by decide) ?_
          refine v_ireturn dX6_admits_41 rfl rfl ?_
          refine ⟨?_, rfl⟩
          first
          | rw [xAdm, if_pos c5]
          | rw [xAdm, if_neg c5, if_neg c13]
          | rw [xAdm, if_neg c5, if_pos c13, if_pos c22]
          | rw [xAdm, if_neg c5, if_pos c13, if_neg c22, if_neg c33]
          | rw [xAdm, if_neg c5, if_pos c13, if_neg c22, if_pos c33]
    · refine v_iconst (0) dX6_admits_16 (by decide) ?_
      refine v_ireturn dX6_admits_17 rfl rfl ?_
      refine ⟨?_, rfl⟩
      first
      | rw [xAdm, if_pos c5]
      | rw [xAdm, if_neg c5, if_neg c13]
      | rw [xAdm, if_neg c5, if_pos c13, if_pos c22]
      | rw [xAdm, if_neg c5, if_pos c13, if_neg c22, if_neg c33]
      | rw [xAdm, if_neg c5, if_pos c13, if_neg c22, if_pos c33]
set_option maxRecDepth 20000 in
theorem m_rank (g : G0) (h : Hp) (hS : SX h) (hf : LaH h) (hP : PSh h) (hC : CSh h) {p : Nat} (hp : p < cn h 9) {day : Int32} : Mx g yX6_rank wX6_rank 3 [pR (4, 0), pR (9, p), pI day] h 0 0 (qE (some (pI (xRank h p day))) h) noX := by
  obtain ⟨o, ho⟩ : ∃ o, vr h (15, 0) 0 = o := ⟨_, rfl⟩
  refine Mx.by kfX6_rank rfl (by decide) (Nat.le_of_ble_eq_true rfl) ?_
  refine v_aload_n dX6_rank_0 rfl ?_
  refine v_getR (some (15, 0)) fl_X6_11 dX6_rank_1 rfl rfl (Nat.le_of_ble_eq_true rfl) (xh_4_0 hS) (xr_4_0_0 hS) ?_
  refine v_iconst (0) dX6_rank_4 (by decide) ?_
  refine v_aald (o) dX6_rank_5 rfl (by decide) (by decide) (Nat.le_of_ble_eq_true rfl) (xh_15_0 hS) (by rw [xl_15_0 hS]; exact vp_in_nI (n := 0) (by omega) (by decide)) (by rw [cl0]; exact ho) ?_
  refine v_astore_n dX6_rank_6 (by decide) ?_
  refine v_aload_n dX6_rank_7 rfl ?_
  refine v_ifnonnull 15 dX6_rank_8 (by decide) (fun c8 => ?_) (fun a8 c8 => ?_)
  · refine v_iconst (0) dX6_rank_11 (by decide) ?_
    refine v_goto 21 dX6_rank_12 (by decide) ?_
    refine v_ireturn dX6_rank_21 rfl rfl ?_
    first | (subst c8; refine ⟨?_, rfl⟩; rw [xRank, ho]) | (refine ⟨?_, rfl⟩; rw [xRank, ho])
  · subst c8
    obtain ⟨a1, a2⟩ := a8
    obtain ⟨e1, a2lt⟩ := hf 0 (by omega) _ ho
    obtain rfl : a1 = 8 := e1
    refine v_aload_n dX6_rank_15 rfl ?_
    refine v_aload_n dX6_rank_16 rfl ?_
    refine v_iload_n dX6_rank_17 rfl ?_
    refine v_invVE (m_sumFor g h hP hC a2lt hp) dX6_rank_18 cwX0_sumFor mlX6_64 (ob_8 _) rfl rfl (by decide) (by decide) (Nat.le_of_ble_eq_true rfl) ?_
    refine v_ireturn dX6_rank_21 rfl rfl ?_
    first | (subst c8; refine ⟨?_, rfl⟩; rw [xRank, ho]) | (refine ⟨?_, rfl⟩; rw [xRank, ho])
