theorem XI_told {h : Hp} (i : XI h) (p : Nat) {t : Nat} (ht : t ≤ 6) : XI (sI h (9, p) 6 (nI t)) := by
  refine ⟨i.1, ⟨AL_sIk i.a0 (by show (9 : Nat) ≠ 7; decide), AL_sIk i.a1 (by show (9 : Nat) ≠ 7; decide), AL_sIk i.a2 (by show (9 : Nat) ≠ 7; decide), AL_sIk i.a3 (by show (9 : Nat) ≠ 7; decide), AL_sIk i.a4 (by show (9 : Nat) ≠ 7; decide)⟩, ?_, i.2.2.2.1, i.2.2.2.2.1, i.2.2.2.2.2.1, i.2.2.2.2.2.2.1, i.2.2.2.2.2.2.2.1, i.2.2.2.2.2.2.2.2⟩
  intro q hq
  obtain ⟨a, b, c, t2, h2, e2⟩ := i.ps q hq
  refine ⟨a, b, c, ?_⟩
  by_cases z : q = p
  · subst z; exact ⟨t, ht, vi_sI_eq _ _ _ _⟩
  · exact ⟨t2, h2, by rw [vi_sI_ne _ _ _ _ (fun y => z (by cases y; rfl))]; exact e2⟩
theorem MJ_told {h : Hp} (m : MJ h) (p : Nat) {t : Nat} (ht : t ≤ 6) : MJ (sI h (38, 7) p (nI t)) := by
  refine ⟨m.1, fun q hq => ?_, m.2.2.1, m.2.2.2.1, m.2.2.2.2⟩
  by_cases z : q = p
  · subst z; exact ⟨t, ht, vi_sI_eq _ _ _ _⟩
  · obtain ⟨t2, h2, e2⟩ := m.2.1 q hq
    exact ⟨t2, h2, by rw [vi_sI_nk _ _ _ z]; exact e2⟩
theorem upI {α : Type} (f : Nat → α) (x : α) (j i : Nat) : (if i = j then x else f i) = if i = j then x else f i := rfl
def fMe : Fpt := (fun _ => true, fun _ => true, fun _ => true, fun _ => true, fun p i f => !(p == 18) && !(p == 19) && !(p == 9 && f == 6) && !(p == 38 && (i == 7 || i == 8 || i == 9)) && !(p == 0 && f == 14) && !(p == 32 && (f == 0 || f == 1 || f == 2)))
theorem PeR_means {h h' : Hp} (pe : PeR h) (q : Eqv fMe h h') {j t D V : Nat} (hj : j < cn h 9) (ht : t < 6) (hD : D ≤ 40000) (hV : V ≤ 9999) (g18 : ∀ p i, vi h' (18, p) i = if p = j ∧ i = t then nI D else vi h (18, p) i) (g19 : ∀ p i, vi h' (19, p) i = if p = j ∧ i = t then nI V else vi h (19, p) i) (g8 : ∀ m, vi h' (38, 8) m = if m = 6 * j + t then nI D else vi h (38, 8) m) (g9 : ∀ m, vi h' (38, 9) m = if m = 6 * j + t then nI V else vi h (38, 9) m) (g6 : ∀ p, vi h' (9, p) 6 = if p = j then nI (t + 1) else vi h (9, p) 6) (g7 : ∀ p, vi h' (38, 7) p = if p = j then nI (t + 1) else vi h (38, 7) p) : PeR h' := by
  have c9 : cn h' 9 = cn h 9 := q.1 9 rfl
  have v := q.2.2.2.2
  have v38 : ∀ i f, i < 7 → vi h' (38, i) f = vi h (38, i) f := fun i f hi => by
    match i, hi with
    | 0, _ => exact v 38 0 f rfl
    | 1, _ => exact v 38 1 f rfl
    | 2, _ => exact v 38 2 f rfl
    | 3, _ => exact v 38 3 f rfl
    | 4, _ => exact v 38 4 f rfl
    | 5, _ => exact v 38 5 f rfl
    | 6, _ => exact v 38 6 f rfl
  refine ⟨by rw [c9, v 32 0 22 rfl]; exact pe.1, by rw [c9]; exact pe.2.1, fun p hp => ?_, fun p hp hp2 => ?_⟩
  · rw [c9] at hp
    obtain ⟨⟨b0, b1, b2, b3, b7, b8, b9, b10, b6, bm⟩, a2⟩ := pe.2.2.1 p hp
    refine ⟨⟨?_, ?_, ?_, ?_, ?_, ?_, ?_, ?_, ?_, fun i hi => ⟨?_, ?_⟩⟩, ⟨?_, ?_, ?_, fun i hi => ⟨?_, ?_⟩⟩⟩
    · rw [v 9 p 0 rfl, v38 _ _ (by decide)]; exact b0
    · rw [v 9 p 1 rfl, v38 _ _ (by decide)]; exact b1
    · rw [v 9 p 2 rfl, v 39 0 p rfl]; exact b2
    · rw [v 9 p 3 rfl, v38 _ _ (by decide)]; exact b3
    · rw [v 9 p 7 rfl, v38 _ _ (by decide)]; exact b7
    · rw [v 9 p 8 rfl, v38 _ _ (by decide)]; exact b8
    · rw [v 9 p 9 rfl, v38 _ _ (by decide)]; exact b9
    · rw [v 9 p 10 rfl, v38 _ _ (by decide)]; exact b10
    · rw [g6, g7, b6]
    · rw [g18, g8, (bm i hi).1]
      by_cases y : p = j ∧ i = t
      · rw [if_pos y, if_pos (by rw [y.1, y.2])]
      · rw [if_neg y, if_neg (by omega)]
    · rw [g19, g9, (bm i hi).2]
      by_cases y : p = j ∧ i = t
      · rw [if_pos y, if_pos (by rw [y.1, y.2])]
      · rw [if_neg y, if_neg (by omega)]
    · rw [v 9 p 0 rfl]; exact a2.1
    · rw [v 9 p 1 rfl]; exact a2.2.1
    · rw [v 9 p 3 rfl]; exact a2.2.2.1
    · rw [g18]; split; exact ⟨D, hD, rfl⟩; exact (a2.2.2.2 i hi).1
    · rw [g19]; split; exact ⟨V, hV, rfl⟩; exact (a2.2.2.2 i hi).2
  · rw [c9] at hp
    obtain ⟨a1, a2, a3, a4⟩ := pe.2.2.2 p hp hp2
    refine ⟨by rw [v38 _ _ (by decide)]; exact a1, by rw [v38 _ _ (by decide)]; exact a2, by rw [g7, if_neg (by omega)]; exact a3, fun i hi => ⟨by rw [g8, if_neg (by omega)]; exact (a4 i hi).1, by rw [g9, if_neg (by omega)]; exact (a4 i hi).2⟩⟩
theorem upA (p q i k f g : Nat) (x y : Int32) : (if ((p, i) : Ad) = (p, k) ∧ f = g then x else y) = if i = k ∧ f = g then x else y := by
  by_cases z : i = k ∧ f = g
  · rw [if_pos z, if_pos ⟨by rw [z.1], z.2⟩]
  · rw [if_neg z, if_neg (fun w => z ⟨by have := w.1; cases this; rfl, w.2⟩)]
theorem upB (a : Ad) (f g : Nat) (x y : Int32) : (if a = a ∧ f = g then x else y) = if f = g then x else y := by
  by_cases z : f = g
  · rw [if_pos z, if_pos ⟨rfl, z⟩]
  · rw [if_neg z, if_neg (fun w => z w.2)]
theorem upC (p i k f : Nat) (x y : Int32) : (if ((p, i) : Ad) = (p, k) ∧ f = f then x else y) = if i = k then x else y := by
  by_cases z : i = k
  · rw [if_pos z, if_pos ⟨by rw [z], rfl⟩]
  · rw [if_neg z, if_neg (fun w => z (by have := w.1; cases this; rfl))]
set_option maxHeartbeats 4000000 in
set_option maxRecDepth 20000 in
theorem op_means (g : G0) (h : Hp) (r : RR h) {p d v : Int32} : Op g h yX11_means wX11_means (pR (0, 0) :: [pI p, pI d, pI v]) yX14_means wX14_means (pR (32, 0) :: [pI p, pI d, pI v]) 8 12 0 0 0 0 := by
  cases z : xPer h p with
  | none => exact Op.of2 (-1 : Int32) (xT h 1) (mT (mZ (xT h 1)) 1) (by unfold xMeans; rw [z]) (by unfold mMeans; rw [if_pos (xPer_no (h' := mZ (xT h 1)) r.1 r.2.2.2.2.2.1 rfl z)]) (m_means g h r.1) (M_means g _ (mj_of r (by repeat (first | refine Eqv.sI ?_ Bool.false_ne_true | refine Eqv.sR ?_ Bool.false_ne_true | refine Eqv.sRs ?_ Bool.false_ne_true | refine Eqv.sL ?_ Bool.false_ne_true | exact Eqv.rf _)))) (RR_ref1 r) rfl
  | some a =>
    obtain ⟨j, rfl, rfl, hj, -⟩ := xPer_yes (h' := h) r.1 r.2.2.2.2.2.1 rfl z
    have ey : ∀ h', vi h' (32, 0) 22 = vi h (32, 0) 22 → ¬ mPb h' (nI j) = 0 := fun h' e => by obtain ⟨-, -, -, -, y⟩ := xPer_yes (h' := h') r.1 r.2.2.2.2.2.1 e z; rw [y]; decide
    have j40 := r.2.2.2.2.2.1.2.1
    have ncj : (nI j).toNatClampNeg = j := nI_clamp (by omega)
    by_cases c1 : xDy d = 0
    · exact Op.of2 (-1 : Int32) (xT h 2) (mT (mZ (xT h 2)) 2) (by unfold xMeans; rw [z]; exact if_pos c1) (by unfold mMeans; rw [if_neg (ey (mZ (xT h 2)) rfl), if_pos (show mDy d = 0 from c1)]) (m_means g h r.1) (M_means g _ (mj_of r (by repeat (first | refine Eqv.sI ?_ Bool.false_ne_true | refine Eqv.sR ?_ Bool.false_ne_true | refine Eqv.sRs ?_ Bool.false_ne_true | refine Eqv.sL ?_ Bool.false_ne_true | exact Eqv.rf _)))) (RR_ref2 r) rfl
    · by_cases c2 : mIn v 0 9999 = 0
      · have eX : xMeans h (nI j) d v = (-1, xT h 2) := by
          unfold xMeans; rw [z]; show (if xDy d = 0 then _ else _) = _; rw [if_neg c1]
          unfold mIn at c2
          split at c2
          · rename_i c; rw [if_pos c]
          · rename_i c; rw [if_neg c]
            split at c2
            · rename_i c3; rw [if_neg (Int32.not_le.mpr c3)]
            · exact absurd c2 (by decide)
        exact Op.of2 (-1 : Int32) (xT h 2) (mT (mZ (xT h 2)) 2) eX (by unfold mMeans; rw [if_neg (ey (mZ (xT h 2)) rfl), if_neg (show ¬ mDy d = 0 from c1), if_pos c2]) (m_means g h r.1) (M_means g _ (mj_of r (by repeat (first | refine Eqv.sI ?_ Bool.false_ne_true | refine Eqv.sR ?_ Bool.false_ne_true | refine Eqv.sRs ?_ Bool.false_ne_true | refine Eqv.sL ?_ Bool.false_ne_true | exact Eqv.rf _)))) (RR_ref2 r) rfl
      · obtain ⟨D, hD, rfl⟩ := xDy_in c1
        have cv : ¬ v < 0 ∧ v ≤ 9999 := by
          unfold mIn at c2
          split at c2
          · exact absurd rfl c2
          · rename_i k1
            split at c2
            · exact absurd rfl c2
            · rename_i k2; exact ⟨k1, Int32.not_lt.mp k2⟩
        obtain ⟨V, hV, rfl⟩ := nI_of2 (M := 9999) (n := 9999) (by decide) cv.1 cv.2
        obtain ⟨q1, q2, q3, t, ht, et⟩ := r.1.ps j hj
        obtain ⟨p1, p2⟩ := r.2.2.2.2.2.1.2.2.1 j hj
        have e38 : vi h (38, 7) j = nI t := p1.2.2.2.2.2.2.2.2.1.symm.trans et
        have nct : (nI t).toNatClampNeg = t := nI_clamp (by omega)
        have t6 : vi h (9, j) 6 < 6 ↔ t < 6 := by rw [et]; exact nI_ltI (b := 6) (by omega) (by decide)
        by_cases c3 : t < 6
        · have eH : mnH h j (nI D) (nI V) = sI (sI (sI h (18, j) t (nI D)) (19, j) t (nI V)) (9, j) 6 (nI (t + 1)) := by unfold mnH; rw [et, nct, nI_1]
          have eX : xMeans h (nI j) (nI D) (nI V) = (nI (t + 1), xT (sI (sI (sI h (18, j) t (nI D)) (19, j) t (nI V)) (9, j) 6 (nI (t + 1))) 0) := by
            unfold xMeans; rw [z]; show (if xDy (nI D) = 0 then _ else _) = _; rw [if_neg c1, if_neg cv.1, if_pos cv.2, if_pos (t6.mpr c3), eH, vi_sI_eq]
          have eY : mMeans (xT (sI (sI (sI h (18, j) t (nI D)) (19, j) t (nI V)) (9, j) 6 (nI (t + 1))) 0) (nI j) (nI D) (nI V) = (nI (t + 1), mT (sI (sI (sI (mZ (xT (sI (sI (sI h (18, j) t (nI D)) (19, j) t (nI V)) (9, j) 6 (nI (t + 1))) 0)) (38, 8) (6 * j + t) (nI D)) (38, 9) (6 * j + t) (nI V)) (38, 7) j (nI (t + 1))) 0) := by
            unfold mMeans; rw [if_neg (ey (mZ (xT (sI (sI (sI h (18, j) t (nI D)) (19, j) t (nI V)) (9, j) 6 (nI (t + 1))) 0)) rfl), if_neg (show ¬ mDy (nI D) = 0 from c1), if_neg c2, ncj, show vi (mZ (xT (sI (sI (sI h (18, j) t (nI D)) (19, j) t (nI V)) (9, j) 6 (nI (t + 1))) 0)) (38, 7) j = nI t from e38, if_neg (fun y => by have := (nI_eq (a := t) (b := 6) (by omega) (by decide)).mp y; omega)]
            unfold mMeA mMe3 mMe2 mMe1; rw [nct, nI_1]
          refine Op.of2 _ _ _ eX eY (m_means g h r.1) (M_means g _ (mj_of r (by repeat (first | refine Eqv.sI ?_ Bool.false_ne_true | refine Eqv.sR ?_ Bool.false_ne_true | refine Eqv.sRs ?_ Bool.false_ne_true | refine Eqv.sL ?_ Bool.false_ne_true | exact Eqv.rf _)))) ?_ rfl
          refine ⟨XI_congr (by repeat (first | refine Eqv.sI ?_ Bool.false_ne_true | refine Eqv.sR ?_ Bool.false_ne_true | refine Eqv.sRs ?_ Bool.false_ne_true | refine Eqv.sL ?_ Bool.false_ne_true | exact Eqv.rf _)) (XI_told (XI_congr (h' := sI (sI h (18, j) t (nI D)) (19, j) t (nI V)) (by repeat (first | refine Eqv.sI ?_ Bool.false_ne_true | refine Eqv.sR ?_ Bool.false_ne_true | refine Eqv.sRs ?_ Bool.false_ne_true | refine Eqv.sL ?_ Bool.false_ne_true | exact Eqv.rf _)) r.1) j (t := t + 1) (by omega)), LD_congr (by repeat (first | refine Eqv.sI ?_ Bool.false_ne_true | refine Eqv.sR ?_ Bool.false_ne_true | refine Eqv.sRs ?_ Bool.false_ne_true | refine Eqv.sL ?_ Bool.false_ne_true | exact Eqv.rf _)) r.2.1, MJ_congr (by repeat (first | refine Eqv.sI ?_ Bool.false_ne_true | refine Eqv.sR ?_ Bool.false_ne_true | refine Eqv.sRs ?_ Bool.false_ne_true | refine Eqv.sL ?_ Bool.false_ne_true | exact Eqv.rf _)) (MJ_told (MJ_congr (h' := sI (sI (mZ (xT (sI (sI (sI h (18, j) t (nI D)) (19, j) t (nI V)) (9, j) 6 (nI (t + 1))) 0)) (38, 8) (6 * j + t) (nI D)) (38, 9) (6 * j + t) (nI V)) (by repeat (first | refine Eqv.sI ?_ Bool.false_ne_true | refine Eqv.sR ?_ Bool.false_ne_true | refine Eqv.sRs ?_ Bool.false_ne_true | refine Eqv.sL ?_ Bool.false_ne_true | exact Eqv.rf _)) r.2.2.1) j (t := t + 1) (by omega)), ⟨r.2.2.2.1.1, r.2.2.2.1.2.1, r.2.2.2.1.2.2.1, rfl, r.2.2.2.1.2.2.2.2.1, (if_neg (show ¬ (0 : Int32) = 4 by decide)).symm⟩, TaR_congr (by repeat (first | refine Eqv.sI ?_ Bool.false_ne_true | refine Eqv.sR ?_ Bool.false_ne_true | refine Eqv.sRs ?_ Bool.false_ne_true | refine Eqv.sL ?_ Bool.false_ne_true | exact Eqv.rf _)) r.2.2.2.2.1, ?_, PaR_congr (by repeat (first | refine Eqv.sI ?_ Bool.false_ne_true | refine Eqv.sR ?_ Bool.false_ne_true | refine Eqv.sRs ?_ Bool.false_ne_true | refine Eqv.sL ?_ Bool.false_ne_true | exact Eqv.rf _)) r.2.2.2.2.2.2.1, RoR_congr (by repeat (first | refine Eqv.sI ?_ Bool.false_ne_true | refine Eqv.sR ?_ Bool.false_ne_true | refine Eqv.sRs ?_ Bool.false_ne_true | refine Eqv.sL ?_ Bool.false_ne_true | exact Eqv.rf _)) r.2.2.2.2.2.2.2.1, TrR_congr (by repeat (first | refine Eqv.sI ?_ Bool.false_ne_true | refine Eqv.sR ?_ Bool.false_ne_true | refine Eqv.sRs ?_ Bool.false_ne_true | refine Eqv.sL ?_ Bool.false_ne_true | exact Eqv.rf _)) r.2.2.2.2.2.2.2.2.1, LaR_congr (by repeat (first | refine Eqv.sI ?_ Bool.false_ne_true | refine Eqv.sR ?_ Bool.false_ne_true | refine Eqv.sRs ?_ Bool.false_ne_true | refine Eqv.sL ?_ Bool.false_ne_true | exact Eqv.rf _)) r.2.2.2.2.2.2.2.2.2.1, CsR_congr (by repeat (first | refine Eqv.sI ?_ Bool.false_ne_true | refine Eqv.sR ?_ Bool.false_ne_true | refine Eqv.sRs ?_ Bool.false_ne_true | refine Eqv.sL ?_ Bool.false_ne_true | exact Eqv.rf _)) r.2.2.2.2.2.2.2.2.2.2.1, SR_congr (by repeat (first | refine Eqv.sI ?_ Bool.false_ne_true | refine Eqv.sR ?_ Bool.false_ne_true | refine Eqv.sRs ?_ Bool.false_ne_true | refine Eqv.sL ?_ Bool.false_ne_true | exact Eqv.rf _)) r.2.2.2.2.2.2.2.2.2.2.2⟩
          refine PeR_means r.2.2.2.2.2.1 (by repeat (first | refine Eqv.sI ?_ Bool.false_ne_true | refine Eqv.sR ?_ Bool.false_ne_true | refine Eqv.sRs ?_ Bool.false_ne_true | refine Eqv.sL ?_ Bool.false_ne_true | exact Eqv.rf _)) hj c3 hD hV (fun p i => upA 18 0 p j i t _ _) (fun p i => upA 19 0 p j i t _ _) (fun m => upB (38, 8) m _ _ _) (fun m => upB (38, 9) m _ _ _) (fun p => upC 9 p j 6 _ _) (fun p => upB (38, 7) p _ _ _)
        · have t6' : t = 6 := by omega
          exact Op.of2 (-1 : Int32) (xT h 3) (mT (mZ (xT h 3)) 3) (by unfold xMeans; rw [z]; show (if xDy (nI D) = 0 then _ else _) = _; rw [if_neg c1, if_neg cv.1, if_pos cv.2, if_neg (fun y => c3 (t6.mp y))]) (by unfold mMeans; rw [if_neg (ey (mZ (xT h 3)) rfl), if_neg (show ¬ mDy (nI D) = 0 from c1), if_neg c2, ncj, show vi (mZ (xT h 3)) (38, 7) j = nI t from e38, t6']; rfl) (m_means g h r.1) (M_means g _ (mj_of r (by repeat (first | refine Eqv.sI ?_ Bool.false_ne_true | refine Eqv.sR ?_ Bool.false_ne_true | refine Eqv.sRs ?_ Bool.false_ne_true | refine Eqv.sL ?_ Bool.false_ne_true | exact Eqv.rf _)))) (RR_ref3 r) rfl
