def peM (h2 : Hp) (n : Nat) (b c k t : Int32) : Hp := mT (sI (sI (sI (sI (sI (sI (sI (mZ (xT h2 0)) (38, 0) n b) (38, 1) n c) (39, 0) n (vp_nar .boolean k)) (38, 2) n t) (38, 3) n (-1)) (38, 6) n (-1)) (32, 0) 22 (nI (n + 1))) 0
theorem pe_old (h : Hp) (b c k : Int32) {p : Nat} (hp : p ≠ cn h 9) (f : Nat) : vi (peN h b c k) (9, p) f = vi h (9, p) f := by
  unfold peN pe7 pe6 pe5 pe4 pe3 pe2 pe1 pe0 aN; rw [vi_sI_ne _ _ _ _ (fun z => hp (by cases z; rfl)), vi_sI_ne _ _ _ _ (fun z => hp (by cases z; rfl)), vi_sI_ne _ _ _ _ (fun z => hp (by cases z; rfl)), vi_sI_ne _ _ _ _ (fun z => hp (by cases z; rfl)), vi_sI_ne _ _ _ _ (fun z => hp (by cases z; rfl)), vi_sI_ne _ _ _ _ (fun z => hp (by cases z; rfl)), vi_sR, vi_nw, if_neg (fun z => (by cases z)), vi_sR, vi_nw, if_neg (fun z => (by cases z)), vi_nw, if_neg (fun z => hp (by cases z; rfl))]
theorem pe_oldr (h : Hp) (b c k : Int32) {p : Nat} (hp : p ≠ cn h 9) (f : Nat) : vr (peN h b c k) (9, p) f = vr h (9, p) f := by
  unfold peN pe7 pe6 pe5 pe4 pe3 pe2 pe1 pe0 aN; rw [vr_sI, vr_sI, vr_sI, vr_sI, vr_sI, vr_sI, vr_sR_ne _ _ _ _ (fun z => hp (by cases z; rfl)), vr_nw, if_neg (fun z => (by cases z)), vr_sR_ne _ _ _ _ (fun z => hp (by cases z; rfl)), vr_nw, if_neg (fun z => (by cases z)), vr_nw, if_neg (fun z => hp (by cases z; rfl))]
theorem pe_n3 (h : Hp) (b c k : Int32) : vi (peN h b c k) (9, cn h 9) 3 = vi h (0, 0) 13 := by unfold peN pe7 pe6 pe5 pe4 pe3 pe2 pe1 pe0 aN; rw [vi_sI_eq]
theorem pe_n2 (h : Hp) (b c k : Int32) : vi (peN h b c k) (9, cn h 9) 2 = k := by unfold peN pe7 pe6 pe5 pe4 pe3 pe2 pe1 pe0 aN; rw [vi_sI_nk _ _ _ (by decide), vi_sI_eq]
theorem pe_n1 (h : Hp) (b c k : Int32) : vi (peN h b c k) (9, cn h 9) 1 = c := by unfold peN pe7 pe6 pe5 pe4 pe3 pe2 pe1 pe0 aN; rw [vi_sI_nk _ _ _ (by decide), vi_sI_nk _ _ _ (by decide), vi_sI_eq]
theorem pe_n0 (h : Hp) (b c k : Int32) : vi (peN h b c k) (9, cn h 9) 0 = b := by unfold peN pe7 pe6 pe5 pe4 pe3 pe2 pe1 pe0 aN; rw [vi_sI_nk _ _ _ (by decide), vi_sI_nk _ _ _ (by decide), vi_sI_nk _ _ _ (by decide), vi_sI_eq]
theorem pe_n8 (h : Hp) (b c k : Int32) : vi (peN h b c k) (9, cn h 9) 8 = -1 := by unfold peN pe7 pe6 pe5 pe4 pe3 pe2 pe1 pe0 aN; rw [vi_sI_nk _ _ _ (by decide), vi_sI_nk _ _ _ (by decide), vi_sI_nk _ _ _ (by decide), vi_sI_nk _ _ _ (by decide), vi_sI_eq]
theorem pe_n7 (h : Hp) (b c k : Int32) : vi (peN h b c k) (9, cn h 9) 7 = 2147483647 := by unfold peN pe7 pe6 pe5 pe4 pe3 pe2 pe1 pe0 aN; rw [vi_sI_nk _ _ _ (by decide), vi_sI_nk _ _ _ (by decide), vi_sI_nk _ _ _ (by decide), vi_sI_nk _ _ _ (by decide), vi_sI_nk _ _ _ (by decide), vi_sI_eq]
theorem pe_n6 (h : Hp) (b c k : Int32) : vi (peN h b c k) (9, cn h 9) 6 = 0 := by unfold peN pe7 pe6 pe5 pe4 pe3 pe2 pe1 pe0 aN; rw [vi_sI_nk _ _ _ (by decide), vi_sI_nk _ _ _ (by decide), vi_sI_nk _ _ _ (by decide), vi_sI_nk _ _ _ (by decide), vi_sI_nk _ _ _ (by decide), vi_sI_nk _ _ _ (by decide), vi_sR, vi_nw, if_neg (fun z => (by cases z)), vi_sR, vi_nw, if_neg (fun z => (by cases z)), vi_nw, if_pos rfl]
theorem pe_n9 (h : Hp) (b c k : Int32) : vi (peN h b c k) (9, cn h 9) 9 = 0 := by unfold peN pe7 pe6 pe5 pe4 pe3 pe2 pe1 pe0 aN; rw [vi_sI_nk _ _ _ (by decide), vi_sI_nk _ _ _ (by decide), vi_sI_nk _ _ _ (by decide), vi_sI_nk _ _ _ (by decide), vi_sI_nk _ _ _ (by decide), vi_sI_nk _ _ _ (by decide), vi_sR, vi_nw, if_neg (fun z => (by cases z)), vi_sR, vi_nw, if_neg (fun z => (by cases z)), vi_nw, if_pos rfl]
theorem pe_n10 (h : Hp) (b c k : Int32) : vi (peN h b c k) (9, cn h 9) 10 = 0 := by unfold peN pe7 pe6 pe5 pe4 pe3 pe2 pe1 pe0 aN; rw [vi_sI_nk _ _ _ (by decide), vi_sI_nk _ _ _ (by decide), vi_sI_nk _ _ _ (by decide), vi_sI_nk _ _ _ (by decide), vi_sI_nk _ _ _ (by decide), vi_sI_nk _ _ _ (by decide), vi_sR, vi_nw, if_neg (fun z => (by cases z)), vi_sR, vi_nw, if_neg (fun z => (by cases z)), vi_nw, if_pos rfl]
theorem pe_cn (h : Hp) (b c k : Int32) : cn (peN h b c k) 9 = cn h 9 + 1 ∧ cn (peN h b c k) 18 = cn h 18 + 1 ∧ cn (peN h b c k) 19 = cn h 19 + 1 := by
  unfold peN pe7 pe6 pe5 pe4 pe3 pe2 pe1 pe0 aN
  refine ⟨?_, ?_, ?_⟩
  · rw [cn_sI, cn_sI, cn_sI, cn_sI, cn_sI, cn_sI, cn_sR, cn_nw, if_neg (by decide), cn_sR, cn_nw, if_neg (by decide), cn_nw, if_pos rfl]
  · rw [cn_sI, cn_sI, cn_sI, cn_sI, cn_sI, cn_sI, cn_sR, cn_nw, if_neg (by decide), cn_sR, cn_nw, if_pos rfl, cn_nw, if_neg (by decide)]
  · rw [cn_sI, cn_sI, cn_sI, cn_sI, cn_sI, cn_sI, cn_sR, cn_nw, if_pos rfl, cn_sR, cn_nw, if_neg (by decide), cn_nw, if_neg (by decide)]
/-- the new one's rows of means -/
theorem pe_rows (h : Hp) (b c k : Int32) (e18 : cn h 18 = cn h 9) (e19 : cn h 19 = cn h 9) : vr (peN h b c k) (9, cn h 9) 4 = some (18, cn h 9) ∧ vr (peN h b c k) (9, cn h 9) 5 = some (19, cn h 9) ∧ ln (peN h b c k) (18, cn h 9) = 6 ∧ ln (peN h b c k) (19, cn h 9) = 6 ∧ (∀ i, vi (peN h b c k) (18, cn h 9) i = 0) ∧ (∀ i, vi (peN h b c k) (19, cn h 9) i = 0) ∧ (∀ p i, p < cn h 9 → vi (peN h b c k) (18, p) i = vi h (18, p) i ∧ vi (peN h b c k) (19, p) i = vi h (19, p) i ∧ ln (peN h b c k) (18, p) = ln h (18, p) ∧ ln (peN h b c k) (19, p) = ln h (19, p)) := by
  have k18 : cn (nw h 9 0) 18 = cn h 9 := by rw [cn_nw, if_neg (by decide)]; exact e18
  have k19 : cn (sR (nw (nw h 9 0) 18 6) (9, cn h 9) 4 (some (18, cn (nw h 9 0) 18))) 19 = cn h 9 := by rw [cn_sR, cn_nw, if_neg (by decide), cn_nw, if_neg (by decide)]; exact e19
  unfold peN pe7 pe6 pe5 pe4 pe3 pe2 pe1 pe0 aN
  refine ⟨?_, ?_, ?_, ?_, fun i => ?_, fun i => ?_, fun p i hp => ⟨?_, ?_, ?_, ?_⟩⟩
  · rw [vr_sI, vr_sI, vr_sI, vr_sI, vr_sI, vr_sI, vr_sR, if_neg (fun z => absurd z.2 (by decide)), vr_nw, if_neg (fun z => by cases z), vr_sR, if_pos ⟨rfl, rfl⟩, k18]
  · rw [vr_sI, vr_sI, vr_sI, vr_sI, vr_sI, vr_sI, vr_sR, if_pos ⟨rfl, rfl⟩, k19]
  · rw [ln_sI, ln_sI, ln_sI, ln_sI, ln_sI, ln_sI, ln_sR, ln_nw, if_neg (fun z => by cases z), ln_sR, ln_nw, if_pos (by rw [k18])]
  · rw [ln_sI, ln_sI, ln_sI, ln_sI, ln_sI, ln_sI, ln_sR, ln_nw, if_pos (by rw [k19])]
  · rw [vi_sI_ne _ _ _ _ (fun z => (by cases z)), vi_sI_ne _ _ _ _ (fun z => (by cases z)), vi_sI_ne _ _ _ _ (fun z => (by cases z)), vi_sI_ne _ _ _ _ (fun z => (by cases z)), vi_sI_ne _ _ _ _ (fun z => (by cases z)), vi_sI_ne _ _ _ _ (fun z => (by cases z)), vi_sR, vi_nw, if_neg (fun z => by cases z), vi_sR, vi_nw, if_pos (by rw [k18])]
  · rw [vi_sI_ne _ _ _ _ (fun z => (by cases z)), vi_sI_ne _ _ _ _ (fun z => (by cases z)), vi_sI_ne _ _ _ _ (fun z => (by cases z)), vi_sI_ne _ _ _ _ (fun z => (by cases z)), vi_sI_ne _ _ _ _ (fun z => (by cases z)), vi_sI_ne _ _ _ _ (fun z => (by cases z)), vi_sR, vi_nw, if_pos (by rw [k19])]
  · rw [vi_sI_ne _ _ _ _ (fun z => (by cases z)), vi_sI_ne _ _ _ _ (fun z => (by cases z)), vi_sI_ne _ _ _ _ (fun z => (by cases z)), vi_sI_ne _ _ _ _ (fun z => (by cases z)), vi_sI_ne _ _ _ _ (fun z => (by cases z)), vi_sI_ne _ _ _ _ (fun z => (by cases z)), vi_sR, vi_nw, if_neg (fun z => by cases z), vi_sR, vi_nw, if_neg (fun z => by rw [k18] at z; cases z; omega), vi_nw, if_neg (fun z => by cases z)]
  · rw [vi_sI_ne _ _ _ _ (fun z => (by cases z)), vi_sI_ne _ _ _ _ (fun z => (by cases z)), vi_sI_ne _ _ _ _ (fun z => (by cases z)), vi_sI_ne _ _ _ _ (fun z => (by cases z)), vi_sI_ne _ _ _ _ (fun z => (by cases z)), vi_sI_ne _ _ _ _ (fun z => (by cases z)), vi_sR, vi_nw, if_neg (fun z => by rw [k19] at z; cases z; omega), vi_sR, vi_nw, if_neg (fun z => by cases z), vi_nw, if_neg (fun z => by cases z)]
  · rw [ln_sI, ln_sI, ln_sI, ln_sI, ln_sI, ln_sI, ln_sR, ln_nw, if_neg (fun z => by cases z), ln_sR, ln_nw, if_neg (fun z => by rw [k18] at z; cases z; omega), ln_nw, if_neg (fun z => by cases z)]
  · rw [ln_sI, ln_sI, ln_sI, ln_sI, ln_sI, ln_sI, ln_sR, ln_nw, if_neg (fun z => by rw [k19] at z; cases z; omega), ln_sR, ln_nw, if_neg (fun z => by cases z), ln_nw, if_neg (fun z => by cases z)]
theorem pm_38_0 (h2 : Hp) (n : Nat) (b c k t : Int32) (p : Nat) : vi (peM h2 n b c k t) (38, 0) p = if p = n then b else vi h2 (38, 0) p := by unfold peM mT mZ xT; rw [vi_sI_ne _ _ _ _ (fun z => (by cases z)), vi_sI_ne _ _ _ _ (fun z => (by cases z)), vi_sI_ne _ _ _ _ (fun z => (by cases z)), vi_sI_ne _ _ _ _ (fun z => (by cases z)), vi_sI_ne _ _ _ _ (fun z => (by cases z)), vi_sI_ne _ _ _ _ (fun z => (by cases z)), vi_sI_ne _ _ _ _ (fun z => (by cases z)), vi_sI_ne _ _ _ _ (fun z => (by cases z)), vi_sI, upB, vi_sI_ne _ _ _ _ (fun z => (by cases z)), vi_sI_ne _ _ _ _ (fun z => (by cases z))]
theorem pm_38_1 (h2 : Hp) (n : Nat) (b c k t : Int32) (p : Nat) : vi (peM h2 n b c k t) (38, 1) p = if p = n then c else vi h2 (38, 1) p := by unfold peM mT mZ xT; rw [vi_sI_ne _ _ _ _ (fun z => (by cases z)), vi_sI_ne _ _ _ _ (fun z => (by cases z)), vi_sI_ne _ _ _ _ (fun z => (by cases z)), vi_sI_ne _ _ _ _ (fun z => (by cases z)), vi_sI_ne _ _ _ _ (fun z => (by cases z)), vi_sI_ne _ _ _ _ (fun z => (by cases z)), vi_sI_ne _ _ _ _ (fun z => (by cases z)), vi_sI, upB, vi_sI_ne _ _ _ _ (fun z => (by cases z)), vi_sI_ne _ _ _ _ (fun z => (by cases z)), vi_sI_ne _ _ _ _ (fun z => (by cases z))]
theorem pm_38_2 (h2 : Hp) (n : Nat) (b c k t : Int32) (p : Nat) : vi (peM h2 n b c k t) (38, 2) p = if p = n then t else vi h2 (38, 2) p := by unfold peM mT mZ xT; rw [vi_sI_ne _ _ _ _ (fun z => (by cases z)), vi_sI_ne _ _ _ _ (fun z => (by cases z)), vi_sI_ne _ _ _ _ (fun z => (by cases z)), vi_sI_ne _ _ _ _ (fun z => (by cases z)), vi_sI_ne _ _ _ _ (fun z => (by cases z)), vi_sI, upB, vi_sI_ne _ _ _ _ (fun z => (by cases z)), vi_sI_ne _ _ _ _ (fun z => (by cases z)), vi_sI_ne _ _ _ _ (fun z => (by cases z)), vi_sI_ne _ _ _ _ (fun z => (by cases z)), vi_sI_ne _ _ _ _ (fun z => (by cases z))]
theorem pm_38_3 (h2 : Hp) (n : Nat) (b c k t : Int32) (p : Nat) : vi (peM h2 n b c k t) (38, 3) p = if p = n then -1 else vi h2 (38, 3) p := by unfold peM mT mZ xT; rw [vi_sI_ne _ _ _ _ (fun z => (by cases z)), vi_sI_ne _ _ _ _ (fun z => (by cases z)), vi_sI_ne _ _ _ _ (fun z => (by cases z)), vi_sI_ne _ _ _ _ (fun z => (by cases z)), vi_sI, upB, vi_sI_ne _ _ _ _ (fun z => (by cases z)), vi_sI_ne _ _ _ _ (fun z => (by cases z)), vi_sI_ne _ _ _ _ (fun z => (by cases z)), vi_sI_ne _ _ _ _ (fun z => (by cases z)), vi_sI_ne _ _ _ _ (fun z => (by cases z)), vi_sI_ne _ _ _ _ (fun z => (by cases z))]
theorem pm_38_6 (h2 : Hp) (n : Nat) (b c k t : Int32) (p : Nat) : vi (peM h2 n b c k t) (38, 6) p = if p = n then -1 else vi h2 (38, 6) p := by unfold peM mT mZ xT; rw [vi_sI_ne _ _ _ _ (fun z => (by cases z)), vi_sI_ne _ _ _ _ (fun z => (by cases z)), vi_sI_ne _ _ _ _ (fun z => (by cases z)), vi_sI, upB, vi_sI_ne _ _ _ _ (fun z => (by cases z)), vi_sI_ne _ _ _ _ (fun z => (by cases z)), vi_sI_ne _ _ _ _ (fun z => (by cases z)), vi_sI_ne _ _ _ _ (fun z => (by cases z)), vi_sI_ne _ _ _ _ (fun z => (by cases z)), vi_sI_ne _ _ _ _ (fun z => (by cases z)), vi_sI_ne _ _ _ _ (fun z => (by cases z))]
theorem pm_39_0 (h2 : Hp) (n : Nat) (b c k t : Int32) (p : Nat) : vi (peM h2 n b c k t) (39, 0) p = if p = n then vp_nar .boolean k else vi h2 (39, 0) p := by unfold peM mT mZ xT; rw [vi_sI_ne _ _ _ _ (fun z => (by cases z)), vi_sI_ne _ _ _ _ (fun z => (by cases z)), vi_sI_ne _ _ _ _ (fun z => (by cases z)), vi_sI_ne _ _ _ _ (fun z => (by cases z)), vi_sI_ne _ _ _ _ (fun z => (by cases z)), vi_sI_ne _ _ _ _ (fun z => (by cases z)), vi_sI, upB, vi_sI_ne _ _ _ _ (fun z => (by cases z)), vi_sI_ne _ _ _ _ (fun z => (by cases z)), vi_sI_ne _ _ _ _ (fun z => (by cases z)), vi_sI_ne _ _ _ _ (fun z => (by cases z))]
theorem pm_14 (h2 : Hp) (n : Nat) (b c k t : Int32) (p : Nat) : vi (peM h2 n b c k t) (0, 0) 14 = 0 := by unfold peM mT mZ xT; rw [vi_sI_ne _ _ _ _ (fun z => (by cases z)), vi_sI_ne _ _ _ _ (fun z => (by cases z)), vi_sI_ne _ _ _ _ (fun z => (by cases z)), vi_sI_ne _ _ _ _ (fun z => (by cases z)), vi_sI_ne _ _ _ _ (fun z => (by cases z)), vi_sI_ne _ _ _ _ (fun z => (by cases z)), vi_sI_ne _ _ _ _ (fun z => (by cases z)), vi_sI_ne _ _ _ _ (fun z => (by cases z)), vi_sI_ne _ _ _ _ (fun z => (by cases z)), vi_sI_ne _ _ _ _ (fun z => (by cases z)), vi_sI_eq]
theorem pm_22 (h2 : Hp) (n : Nat) (b c k t : Int32) (p : Nat) : vi (peM h2 n b c k t) (32, 0) 22 = nI (n + 1) := by unfold peM mT mZ xT; rw [vi_sI_nk _ _ _ (by decide), vi_sI_nk _ _ _ (by decide), vi_sI_eq]
def fNp : Fpt := (fun p => !(p == 16) && !(p == 9) && !(p == 18) && !(p == 19), fun p => !(p == 16) && !(p == 9) && !(p == 18) && !(p == 19), fun p => !(p == 16) && !(p == 7) && !(p == 9) && !(p == 18) && !(p == 19), fun p => !(p == 16) && !(p == 9) && !(p == 18) && !(p == 19), fun p i f => !(p == 16) && !(p == 7) && !(p == 9) && !(p == 18) && !(p == 19))
def fPc : Fpt := (fun p => p == 9 || p == 18 || p == 19, fun p => p == 18 || p == 19, fun p => p == 9, fun _ => false, fun p i f => p == 9 || p == 18 || p == 19 || (p == 38 && (i == 4 || i == 5 || i == 7 || i == 8 || i == 9)))
def fRp : Fpt := (fun p => p == 10 || p == 11, fun _ => false, fun p => p == 10, fun _ => false, fun p i f => p == 10 || p == 11 || (p == 0 && f == 13) || (p == 38 && Nat.ble 10 i && Nat.ble i 16) || (p == 32 && (f == 36 || f == 37)))
theorem MJ_22 {h : Hp} (m : MJ h) {t : Nat} (ht : t ≤ 40) : MJ (sI h (32, 0) 22 (nI t)) :=
  ⟨⟨m.1.1, ⟨t, ht, rfl⟩, m.1.2.2.1, m.1.2.2.2.1, m.1.2.2.2.2.1, m.1.2.2.2.2.2⟩, m.2.1, m.2.2.1, m.2.2.2.1, m.2.2.2.2⟩
theorem RR_person {h h2 : Hp} (r : RR h) {b c k : Int32} {T : Nat} (hT : T ≤ 40000) (t1 : vi h (0, 0) 13 = nI T) (hk : k = 0 ∨ k = 1) (hb : -40000 ≤ b.toInt ∧ b.toInt ≤ 40000) (hc0 : -40000 ≤ c.toInt ∧ c.toInt ≤ 40000) (hc : cn h 9 < 40) (f : AddF (peN h b c k) h2 1) (al : AL h2 1 9 (cn h 9 + 1)) : RR (peM h2 (cn h 9) b c k (nI T)) := by
  have x := r.1
  have le := x.le
  have ld1 : LD (peN h b c k) := LDsI (LDsI (LDsI (LDsI (LDsI (LDsI (LDsR (LDnw (LDsR (LDnw (LDnw r.2.1 (by decide) (by decide)) (by decide) (by decide)) (by show (9 : Nat) ≠ 7; decide)) (by decide) (by decide)) (by show (9 : Nat) ≠ 7; decide)))))))
  have e1 : Eqv fNp h h2 := (Eqv.add (show Eqv fNp h (peN h b c k) from (Eqv.sI (Eqv.sI (Eqv.sI (Eqv.sI (Eqv.sI (Eqv.sI (Eqv.sR (Eqv.nw (Eqv.sR (Eqv.nw (Eqv.nw (Eqv.rf h) Bool.false_ne_true Bool.false_ne_true Bool.false_ne_true Bool.false_ne_true (fun _ _ => Bool.false_ne_true)) Bool.false_ne_true Bool.false_ne_true Bool.false_ne_true Bool.false_ne_true (fun _ _ => Bool.false_ne_true)) Bool.false_ne_true) Bool.false_ne_true Bool.false_ne_true Bool.false_ne_true Bool.false_ne_true (fun _ _ => Bool.false_ne_true)) Bool.false_ne_true) Bool.false_ne_true) Bool.false_ne_true) Bool.false_ne_true) Bool.false_ne_true) Bool.false_ne_true) Bool.false_ne_true)) f Bool.false_ne_true Bool.false_ne_true ⟨Bool.false_ne_true, Bool.false_ne_true⟩ Bool.false_ne_true (fun _ _ => Bool.false_ne_true) (fun _ _ => Bool.false_ne_true))
  obtain ⟨n9, n18, n19⟩ := pe_cn h b c k
  have x5 := x.2.2.2.2.1
  obtain ⟨w1, w2, w3, w4, w5, w6, w7⟩ := pe_rows h b c k x5.2.1 x5.2.2
  have c9 : cn h2 9 = cn h 9 + 1 := (f.1 9 (by decide)).trans n9
  have c18 : cn h2 18 = cn h 18 + 1 := (f.1 18 (by decide)).trans n18
  have c19 : cn h2 19 = cn h 19 + 1 := (f.1 19 (by decide)).trans n19
  have c8 : cn h2 8 = cn h 8 := e1.1 8 rfl
  have c10 : cn h2 10 = cn h 10 := e1.1 10 rfl
  have c11 : cn h2 11 = cn h 11 := e1.1 11 rfl
  have c12 : cn h2 12 = cn h 12 := e1.1 12 rfl
  have c17 : cn h2 17 = cn h 17 := e1.1 17 rfl
  have v2 : ∀ p i j, p ≠ 7 → p ≠ 16 → vi h2 (p, i) j = vi (peN h b c k) (p, i) j := fun p i j z1 z2 => f.vi7 z1 z2
  have l2 : ∀ p i, p ≠ 16 → ln h2 (p, i) = ln (peN h b c k) (p, i) := fun p i z => f.2.2.1 (p, i) (Or.inl z)
  have xi : XI h2 := by
    refine ⟨SX_add f (SXpe x.1), ⟨by rw [c8]; exact ALs_add ld1 f (by decide) (by decide) (by decide) (ALpe x.a0), by rw [c9]; exact al, by rw [c10]; exact ALs_add ld1 f (by decide) (by decide) (by decide) (ALpe x.a2), by rw [c11]; exact ALs_add ld1 f (by decide) (by decide) (by decide) (ALpe x.a3), by rw [c12]; exact ALs_add ld1 f (by decide) (by decide) (by decide) (ALpe x.a4)⟩, ?_, ?_, by rw [c17, c8, c18, c19, c9]; omega, by rw [c8, c9, c10, c11, c12]; omega, ?_, ?_, by rw [e1.2.2.2.2 5 0 1 rfl]; exact x.tr⟩
    · intro p hp; rw [c9] at hp; rw [c18, c19, l2 18 _ (by decide), l2 19 _ (by decide), f.vr7 (by decide) (by decide), f.vr7 (by decide) (by decide), v2 _ _ _ (by decide) (by decide)]
      by_cases z : p = cn h 9
      · subst z; exact ⟨⟨by omega, by omega⟩, ⟨w3, w4⟩, ⟨w1, w2⟩, 0, by omega, pe_n6 h b c k⟩
      · obtain ⟨y1, y2, y3, y4⟩ := x.ps p (by omega)
        exact ⟨⟨by omega, by omega⟩, ⟨by rw [(w7 p 0 (by omega)).2.2.1]; exact y2.1, by rw [(w7 p 0 (by omega)).2.2.2]; exact y2.2⟩, ⟨by rw [pe_oldr _ _ _ _ z]; exact y3.1, by rw [pe_oldr _ _ _ _ z]; exact y3.2⟩, by rw [pe_old _ _ _ _ z]; exact y4⟩
    · intro q hq; rw [c8] at hq; rw [c17, e1.2.1 17 q rfl, e1.2.2.1 8 q 5 rfl, e1.2.2.2.2 8 q 4 rfl]; exact x.cs q hq
    · intro q hq a ha; rw [c10] at hq; rw [e1.2.2.1 10 q 1 rfl] at ha; rw [c11]; exact x.rs q hq a ha
    · intro s hs; rw [c11] at hs; rw [c9, e1.2.2.2.2 11 s 1 rfl]; obtain ⟨p, hp, ep⟩ := x.ss s hs; exact ⟨p, by omega, ep⟩
  have mj0 : MJ (sI (sI (sI (sI (sI (mZ (xT h2 0)) (38, 0) (cn h 9) b) (38, 1) (cn h 9) c) (39, 0) (cn h 9) (vp_nar .boolean k)) (38, 2) (cn h 9) (nI T)) (38, 3) (cn h 9) (-1)) := MJ_congr (h := h) ((show Eqv fMJ h h2 from (Eqv.add (show Eqv fMJ h (peN h b c k) from (Eqv.sI (Eqv.sI (Eqv.sI (Eqv.sI (Eqv.sI (Eqv.sI (Eqv.sR (Eqv.nw (Eqv.sR (Eqv.nw (Eqv.nw (Eqv.rf h) Bool.false_ne_true Bool.false_ne_true Bool.false_ne_true Bool.false_ne_true (fun _ _ => Bool.false_ne_true)) Bool.false_ne_true Bool.false_ne_true Bool.false_ne_true Bool.false_ne_true (fun _ _ => Bool.false_ne_true)) Bool.false_ne_true) Bool.false_ne_true Bool.false_ne_true Bool.false_ne_true Bool.false_ne_true (fun _ _ => Bool.false_ne_true)) Bool.false_ne_true) Bool.false_ne_true) Bool.false_ne_true) Bool.false_ne_true) Bool.false_ne_true) Bool.false_ne_true) Bool.false_ne_true)) f Bool.false_ne_true Bool.false_ne_true ⟨Bool.false_ne_true, Bool.false_ne_true⟩ Bool.false_ne_true (fun _ _ => Bool.false_ne_true) (fun _ _ => Bool.false_ne_true))).tr (show Eqv fMJ h2 (sI (sI (sI (sI (sI (mZ (xT h2 0)) (38, 0) (cn h 9) b) (38, 1) (cn h 9) c) (39, 0) (cn h 9) (vp_nar .boolean k)) (38, 2) (cn h 9) (nI T)) (38, 3) (cn h 9) (-1)) from (Eqv.sI (Eqv.sI (Eqv.sI (Eqv.sI (Eqv.sI (Eqv.sI (Eqv.sI (Eqv.rf _) Bool.false_ne_true) Bool.false_ne_true) Bool.false_ne_true) Bool.false_ne_true) Bool.false_ne_true) Bool.false_ne_true) Bool.false_ne_true))) r.2.2.1
  have mj : MJ (peM h2 (cn h 9) b c k (nI T)) := MJ_congr (Eqv.sI (Eqv.sI (Eqv.rf _) Bool.false_ne_true) Bool.false_ne_true) (MJ_22 (MJ_6 mj0 (cn h 9)) (t := cn h 9 + 1) (by omega))
  have ec : Eqv fPc h2 (peM h2 (cn h 9) b c k (nI T)) := (Eqv.sI (Eqv.sI (Eqv.sI (Eqv.sI (Eqv.sI (Eqv.sI (Eqv.sI (Eqv.sI (Eqv.sI (Eqv.sI (Eqv.sI (Eqv.rf _) Bool.false_ne_true) Bool.false_ne_true) Bool.false_ne_true) Bool.false_ne_true) Bool.false_ne_true) Bool.false_ne_true) Bool.false_ne_true) Bool.false_ne_true) Bool.false_ne_true) Bool.false_ne_true) Bool.false_ne_true)
  have er : Eqv fRp h (peM h2 (cn h 9) b c k (nI T)) := ((show Eqv fRp h h2 from (Eqv.add (show Eqv fRp h (peN h b c k) from (Eqv.sI (Eqv.sI (Eqv.sI (Eqv.sI (Eqv.sI (Eqv.sI (Eqv.sR (Eqv.nw (Eqv.sR (Eqv.nw (Eqv.nw (Eqv.rf h) Bool.false_ne_true Bool.false_ne_true Bool.false_ne_true Bool.false_ne_true (fun _ _ => Bool.false_ne_true)) Bool.false_ne_true Bool.false_ne_true Bool.false_ne_true Bool.false_ne_true (fun _ _ => Bool.false_ne_true)) Bool.false_ne_true) Bool.false_ne_true Bool.false_ne_true Bool.false_ne_true Bool.false_ne_true (fun _ _ => Bool.false_ne_true)) Bool.false_ne_true) Bool.false_ne_true) Bool.false_ne_true) Bool.false_ne_true) Bool.false_ne_true) Bool.false_ne_true) Bool.false_ne_true)) f Bool.false_ne_true Bool.false_ne_true ⟨Bool.false_ne_true, Bool.false_ne_true⟩ Bool.false_ne_true (fun _ _ => Bool.false_ne_true) (fun _ _ => Bool.false_ne_true))).tr (show Eqv fRp h2 (peM h2 (cn h 9) b c k (nI T)) from (Eqv.sI (Eqv.sI (Eqv.sI (Eqv.sI (Eqv.sI (Eqv.sI (Eqv.sI (Eqv.sI (Eqv.sI (Eqv.sI (Eqv.sI (Eqv.rf _) Bool.false_ne_true) Bool.false_ne_true) Bool.false_ne_true) Bool.false_ne_true) Bool.false_ne_true) Bool.false_ne_true) Bool.false_ne_true) Bool.false_ne_true) Bool.false_ne_true) Bool.false_ne_true) Bool.false_ne_true)))
  have d9 : cn (peM h2 (cn h 9) b c k (nI T)) 9 = cn h 9 + 1 := (ec.1 9 rfl).trans c9
  have u9 : ∀ p j, vi (peM h2 (cn h 9) b c k (nI T)) (9, p) j = vi (peN h b c k) (9, p) j := fun p j => (ec.2.2.2.2 9 p j rfl).trans (v2 _ _ _ (by decide) (by decide))
  have u18 : ∀ p j, vi (peM h2 (cn h 9) b c k (nI T)) (18, p) j = vi (peN h b c k) (18, p) j := fun p j => (ec.2.2.2.2 18 p j rfl).trans (v2 _ _ _ (by decide) (by decide))
  have u19 : ∀ p j, vi (peM h2 (cn h 9) b c k (nI T)) (19, p) j = vi (peN h b c k) (19, p) j := fun p j => (ec.2.2.2.2 19 p j rfl).trans (v2 _ _ _ (by decide) (by decide))
  have k38 : ∀ i j, vi h2 (38, i) j = vi h (38, i) j := fun i j => e1.2.2.2.2 38 i j rfl
  have k39 : ∀ i j, vi h2 (39, i) j = vi h (39, i) j := fun i j => e1.2.2.2.2 39 i j rfl
  have pe := r.2.2.2.2.2.1
  have ro := r.2.2.2.2.2.2.2.1
  have p0 := pe.2.2.2 (cn h 9) (Nat.le_refl _) hc
  refine ⟨XI_congr (Eqv.sI (Eqv.sI (Eqv.sI (Eqv.sI (Eqv.sI (Eqv.sI (Eqv.sI (Eqv.sI (Eqv.sI (Eqv.sI (Eqv.sI (Eqv.rf _) Bool.false_ne_true) Bool.false_ne_true) Bool.false_ne_true) Bool.false_ne_true) Bool.false_ne_true) Bool.false_ne_true) Bool.false_ne_true) Bool.false_ne_true) Bool.false_ne_true) Bool.false_ne_true) Bool.false_ne_true) xi, LD_congr (Eqv.sI (Eqv.sI (Eqv.sI (Eqv.sI (Eqv.sI (Eqv.sI (Eqv.sI (Eqv.sI (Eqv.sI (Eqv.sI (Eqv.sI (Eqv.rf _) Bool.false_ne_true) Bool.false_ne_true) Bool.false_ne_true) Bool.false_ne_true) Bool.false_ne_true) Bool.false_ne_true) Bool.false_ne_true) Bool.false_ne_true) Bool.false_ne_true) Bool.false_ne_true) Bool.false_ne_true) (LD_add ld1 f al), mj, ScA_k r.2.2.2.1 ((show Eqv fSk h h2 from (Eqv.add (show Eqv fSk h (peN h b c k) from (Eqv.sI (Eqv.sI (Eqv.sI (Eqv.sI (Eqv.sI (Eqv.sI (Eqv.sR (Eqv.nw (Eqv.sR (Eqv.nw (Eqv.nw (Eqv.rf h) Bool.false_ne_true Bool.false_ne_true Bool.false_ne_true Bool.false_ne_true (fun _ _ => Bool.false_ne_true)) Bool.false_ne_true Bool.false_ne_true Bool.false_ne_true Bool.false_ne_true (fun _ _ => Bool.false_ne_true)) Bool.false_ne_true) Bool.false_ne_true Bool.false_ne_true Bool.false_ne_true Bool.false_ne_true (fun _ _ => Bool.false_ne_true)) Bool.false_ne_true) Bool.false_ne_true) Bool.false_ne_true) Bool.false_ne_true) Bool.false_ne_true) Bool.false_ne_true) Bool.false_ne_true)) f Bool.false_ne_true Bool.false_ne_true ⟨Bool.false_ne_true, Bool.false_ne_true⟩ Bool.false_ne_true (fun _ _ => Bool.false_ne_true) (fun _ _ => Bool.false_ne_true))).tr (show Eqv fSk h2 (peM h2 (cn h 9) b c k (nI T)) from (Eqv.sI (Eqv.sI (Eqv.sI (Eqv.sI (Eqv.sI (Eqv.sI (Eqv.sI (Eqv.sI (Eqv.sI (Eqv.sI (Eqv.sI (Eqv.rf _) Bool.false_ne_true) Bool.false_ne_true) Bool.false_ne_true) Bool.false_ne_true) Bool.false_ne_true) Bool.false_ne_true) Bool.false_ne_true) Bool.false_ne_true) Bool.false_ne_true) Bool.false_ne_true) Bool.false_ne_true))) 0 (by decide) (pm_14 _ _ _ _ _ _ 0) (mT_1 _ _) (mT_2 _ _), TaR_congr ((show Eqv fTa h h2 from (Eqv.add (show Eqv fTa h (peN h b c k) from (Eqv.sI (Eqv.sI (Eqv.sI (Eqv.sI (Eqv.sI (Eqv.sI (Eqv.sR (Eqv.nw (Eqv.sR (Eqv.nw (Eqv.nw (Eqv.rf h) Bool.false_ne_true Bool.false_ne_true Bool.false_ne_true Bool.false_ne_true (fun _ _ => Bool.false_ne_true)) Bool.false_ne_true Bool.false_ne_true Bool.false_ne_true Bool.false_ne_true (fun _ _ => Bool.false_ne_true)) Bool.false_ne_true) Bool.false_ne_true Bool.false_ne_true Bool.false_ne_true Bool.false_ne_true (fun _ _ => Bool.false_ne_true)) Bool.false_ne_true) Bool.false_ne_true) Bool.false_ne_true) Bool.false_ne_true) Bool.false_ne_true) Bool.false_ne_true) Bool.false_ne_true)) f Bool.false_ne_true Bool.false_ne_true ⟨Bool.false_ne_true, Bool.false_ne_true⟩ Bool.false_ne_true (fun _ _ => Bool.false_ne_true) (fun _ _ => Bool.false_ne_true))).tr (show Eqv fTa h2 (peM h2 (cn h 9) b c k (nI T)) from (Eqv.sI (Eqv.sI (Eqv.sI (Eqv.sI (Eqv.sI (Eqv.sI (Eqv.sI (Eqv.sI (Eqv.sI (Eqv.sI (Eqv.sI (Eqv.rf _) Bool.false_ne_true) Bool.false_ne_true) Bool.false_ne_true) Bool.false_ne_true) Bool.false_ne_true) Bool.false_ne_true) Bool.false_ne_true) Bool.false_ne_true) Bool.false_ne_true) Bool.false_ne_true) Bool.false_ne_true))) r.2.2.2.2.1, ?_, ?_, ?_, TrR_congr ((show Eqv fTr h h2 from (Eqv.add (show Eqv fTr h (peN h b c k) from (Eqv.sI (Eqv.sI (Eqv.sI (Eqv.sI (Eqv.sI (Eqv.sI (Eqv.sR (Eqv.nw (Eqv.sR (Eqv.nw (Eqv.nw (Eqv.rf h) Bool.false_ne_true Bool.false_ne_true Bool.false_ne_true Bool.false_ne_true (fun _ _ => Bool.false_ne_true)) Bool.false_ne_true Bool.false_ne_true Bool.false_ne_true Bool.false_ne_true (fun _ _ => Bool.false_ne_true)) Bool.false_ne_true) Bool.false_ne_true Bool.false_ne_true Bool.false_ne_true Bool.false_ne_true (fun _ _ => Bool.false_ne_true)) Bool.false_ne_true) Bool.false_ne_true) Bool.false_ne_true) Bool.false_ne_true) Bool.false_ne_true) Bool.false_ne_true) Bool.false_ne_true)) f Bool.false_ne_true Bool.false_ne_true ⟨Bool.false_ne_true, Bool.false_ne_true⟩ Bool.false_ne_true (fun _ _ => Bool.false_ne_true) (fun _ _ => Bool.false_ne_true))).tr (show Eqv fTr h2 (peM h2 (cn h 9) b c k (nI T)) from (Eqv.sI (Eqv.sI (Eqv.sI (Eqv.sI (Eqv.sI (Eqv.sI (Eqv.sI (Eqv.sI (Eqv.sI (Eqv.sI (Eqv.sI (Eqv.rf _) Bool.false_ne_true) Bool.false_ne_true) Bool.false_ne_true) Bool.false_ne_true) Bool.false_ne_true) Bool.false_ne_true) Bool.false_ne_true) Bool.false_ne_true) Bool.false_ne_true) Bool.false_ne_true) Bool.false_ne_true))) r.2.2.2.2.2.2.2.2.1, LaR_congr ((show Eqv fLa h h2 from (Eqv.add (show Eqv fLa h (peN h b c k) from (Eqv.sI (Eqv.sI (Eqv.sI (Eqv.sI (Eqv.sI (Eqv.sI (Eqv.sR (Eqv.nw (Eqv.sR (Eqv.nw (Eqv.nw (Eqv.rf h) Bool.false_ne_true Bool.false_ne_true Bool.false_ne_true Bool.false_ne_true (fun _ _ => Bool.false_ne_true)) Bool.false_ne_true Bool.false_ne_true Bool.false_ne_true Bool.false_ne_true (fun _ _ => Bool.false_ne_true)) Bool.false_ne_true) Bool.false_ne_true Bool.false_ne_true Bool.false_ne_true Bool.false_ne_true (fun _ _ => Bool.false_ne_true)) Bool.false_ne_true) Bool.false_ne_true) Bool.false_ne_true) Bool.false_ne_true) Bool.false_ne_true) Bool.false_ne_true) Bool.false_ne_true)) f Bool.false_ne_true Bool.false_ne_true ⟨Bool.false_ne_true, Bool.false_ne_true⟩ Bool.false_ne_true (fun _ _ => Bool.false_ne_true) (fun _ _ => Bool.false_ne_true))).tr (show Eqv fLa h2 (peM h2 (cn h 9) b c k (nI T)) from (Eqv.sI (Eqv.sI (Eqv.sI (Eqv.sI (Eqv.sI (Eqv.sI (Eqv.sI (Eqv.sI (Eqv.sI (Eqv.sI (Eqv.sI (Eqv.rf _) Bool.false_ne_true) Bool.false_ne_true) Bool.false_ne_true) Bool.false_ne_true) Bool.false_ne_true) Bool.false_ne_true) Bool.false_ne_true) Bool.false_ne_true) Bool.false_ne_true) Bool.false_ne_true) Bool.false_ne_true))) r.2.2.2.2.2.2.2.2.2.1, CsR_congr ((show Eqv fCs h h2 from (Eqv.add (show Eqv fCs h (peN h b c k) from (Eqv.sI (Eqv.sI (Eqv.sI (Eqv.sI (Eqv.sI (Eqv.sI (Eqv.sR (Eqv.nw (Eqv.sR (Eqv.nw (Eqv.nw (Eqv.rf h) Bool.false_ne_true Bool.false_ne_true Bool.false_ne_true Bool.false_ne_true (fun _ _ => Bool.false_ne_true)) Bool.false_ne_true Bool.false_ne_true Bool.false_ne_true Bool.false_ne_true (fun _ _ => Bool.false_ne_true)) Bool.false_ne_true) Bool.false_ne_true Bool.false_ne_true Bool.false_ne_true Bool.false_ne_true (fun _ _ => Bool.false_ne_true)) Bool.false_ne_true) Bool.false_ne_true) Bool.false_ne_true) Bool.false_ne_true) Bool.false_ne_true) Bool.false_ne_true) Bool.false_ne_true)) f Bool.false_ne_true Bool.false_ne_true ⟨Bool.false_ne_true, Bool.false_ne_true⟩ Bool.false_ne_true (fun _ _ => Bool.false_ne_true) (fun _ _ => Bool.false_ne_true))).tr (show Eqv fCs h2 (peM h2 (cn h 9) b c k (nI T)) from (Eqv.sI (Eqv.sI (Eqv.sI (Eqv.sI (Eqv.sI (Eqv.sI (Eqv.sI (Eqv.sI (Eqv.sI (Eqv.sI (Eqv.sI (Eqv.rf _) Bool.false_ne_true) Bool.false_ne_true) Bool.false_ne_true) Bool.false_ne_true) Bool.false_ne_true) Bool.false_ne_true) Bool.false_ne_true) Bool.false_ne_true) Bool.false_ne_true) Bool.false_ne_true) Bool.false_ne_true))) r.2.2.2.2.2.2.2.2.2.2.1, SR_congr ((show Eqv fSR h h2 from (Eqv.add (show Eqv fSR h (peN h b c k) from (Eqv.sI (Eqv.sI (Eqv.sI (Eqv.sI (Eqv.sI (Eqv.sI (Eqv.sR (Eqv.nw (Eqv.sR (Eqv.nw (Eqv.nw (Eqv.rf h) Bool.false_ne_true Bool.false_ne_true Bool.false_ne_true Bool.false_ne_true (fun _ _ => Bool.false_ne_true)) Bool.false_ne_true Bool.false_ne_true Bool.false_ne_true Bool.false_ne_true (fun _ _ => Bool.false_ne_true)) Bool.false_ne_true) Bool.false_ne_true Bool.false_ne_true Bool.false_ne_true Bool.false_ne_true (fun _ _ => Bool.false_ne_true)) Bool.false_ne_true) Bool.false_ne_true) Bool.false_ne_true) Bool.false_ne_true) Bool.false_ne_true) Bool.false_ne_true) Bool.false_ne_true)) f Bool.false_ne_true Bool.false_ne_true ⟨Bool.false_ne_true, Bool.false_ne_true⟩ Bool.false_ne_true (fun _ _ => Bool.false_ne_true) (fun _ _ => Bool.false_ne_true))).tr (show Eqv fSR h2 (peM h2 (cn h 9) b c k (nI T)) from (Eqv.sI (Eqv.sI (Eqv.sI (Eqv.sI (Eqv.sI (Eqv.sI (Eqv.sI (Eqv.sI (Eqv.sI (Eqv.sI (Eqv.sI (Eqv.rf _) Bool.false_ne_true) Bool.false_ne_true) Bool.false_ne_true) Bool.false_ne_true) Bool.false_ne_true) Bool.false_ne_true) Bool.false_ne_true) Bool.false_ne_true) Bool.false_ne_true) Bool.false_ne_true) Bool.false_ne_true))) r.2.2.2.2.2.2.2.2.2.2.2⟩
  · refine ⟨by rw [pm_22 _ _ _ _ _ _ 0, d9], by rw [d9]; omega, fun p hp => ?_, fun p hp hp2 => ?_⟩
    · rw [d9] at hp
      by_cases z : p = cn h 9
      · subst z
        have z38 : ∀ i, (i = 4 ∨ i = 5 ∨ i = 7 ∨ i = 8 ∨ i = 9) → ∀ j, vi (peM h2 (cn h 9) b c k (nI T)) (38, i) j = vi h (38, i) j := fun i hi j => by rcases hi with rfl | rfl | rfl | rfl | rfl <;> exact (ec.2.2.2.2 38 _ j rfl).trans (k38 _ _)
        refine ⟨⟨?_, ?_, ?_, ?_, ?_, ?_, ?_, ?_, ?_, fun i hi => ⟨?_, ?_⟩⟩, ⟨?_, ?_, ?_, fun i hi => ⟨⟨0, by omega, ?_⟩, ⟨0, by omega, ?_⟩⟩⟩⟩
        · rw [u9, pe_n0, pm_38_0, if_pos rfl]
        · rw [u9, pe_n1, pm_38_1, if_pos rfl]
        · rw [u9, pe_n2, pm_39_0, if_pos rfl]; rcases hk with rfl | rfl <;> rfl
        · rw [u9, pe_n3, pm_38_2, if_pos rfl, t1]
        · exact Or.inl ⟨by rw [u9, pe_n7], by rw [pm_38_3, if_pos rfl]⟩
        · rw [u9, pe_n8, pm_38_6, if_pos rfl]
        · rw [u9, pe_n9, z38 4 (by omega)]; exact p0.1.symm
        · rw [u9, pe_n10, z38 5 (by omega)]; exact p0.2.1.symm
        · rw [u9, pe_n6, z38 7 (by omega)]; exact p0.2.2.1.symm
        · rw [u18, w5, z38 8 (by omega)]; exact (p0.2.2.2 i hi).1.symm
        · rw [u19, w6, z38 9 (by omega)]; exact (p0.2.2.2 i hi).2.symm
        · rw [u9, pe_n0]; exact hb
        · rw [u9, pe_n1]; exact hc0
        · rw [u9, pe_n3]; exact ⟨T, hT, t1⟩
        · rw [u18, w5]; rfl
        · rw [u19, w6]; rfl
      · have z38 : ∀ i, (i = 4 ∨ i = 5 ∨ i = 7 ∨ i = 8 ∨ i = 9) → ∀ j, vi (peM h2 (cn h 9) b c k (nI T)) (38, i) j = vi h (38, i) j := fun i hi j => by rcases hi with rfl | rfl | rfl | rfl | rfl <;> exact (ec.2.2.2.2 38 _ j rfl).trans (k38 _ _)
        obtain ⟨⟨b0, b1, b2, b3, b7, b8, b9, b10, b6, bm⟩, a2⟩ := pe.2.2.1 p (by omega)
        have o9 : ∀ j, vi (peM h2 (cn h 9) b c k (nI T)) (9, p) j = vi h (9, p) j := fun j => (u9 p j).trans (pe_old _ _ _ _ z j)
        have o18 : ∀ j, vi (peM h2 (cn h 9) b c k (nI T)) (18, p) j = vi h (18, p) j := fun j => (u18 p j).trans (w7 p j (by omega)).1
        have o19 : ∀ j, vi (peM h2 (cn h 9) b c k (nI T)) (19, p) j = vi h (19, p) j := fun j => (u19 p j).trans (w7 p j (by omega)).2.1
        refine ⟨⟨?_, ?_, ?_, ?_, ?_, ?_, ?_, ?_, ?_, fun i hi => ⟨?_, ?_⟩⟩, ⟨?_, ?_, ?_, fun i hi => ⟨?_, ?_⟩⟩⟩
        · rw [o9, pm_38_0, if_neg z, k38]; exact b0
        · rw [o9, pm_38_1, if_neg z, k38]; exact b1
        · rw [o9, pm_39_0, if_neg z, k39]; exact b2
        · rw [o9, pm_38_2, if_neg z, k38]; exact b3
        · rw [o9, pm_38_3, if_neg z, k38]; exact b7
        · rw [o9, pm_38_6, if_neg z, k38]; exact b8
        · rw [o9, z38 4 (by omega)]; exact b9
        · rw [o9, z38 5 (by omega)]; exact b10
        · rw [o9, z38 7 (by omega)]; exact b6
        · rw [o18, z38 8 (by omega)]; exact (bm i hi).1
        · rw [o19, z38 9 (by omega)]; exact (bm i hi).2
        · rw [o9]; exact a2.1
        · rw [o9]; exact a2.2.1
        · rw [o9]; exact a2.2.2.1
        · rw [o18]; exact (a2.2.2.2 i hi).1
        · rw [o19]; exact (a2.2.2.2 i hi).2
    · rw [d9] at hp
      have z38 : ∀ i, (i = 4 ∨ i = 5 ∨ i = 7 ∨ i = 8 ∨ i = 9) → ∀ j, vi (peM h2 (cn h 9) b c k (nI T)) (38, i) j = vi h (38, i) j := fun i hi j => by rcases hi with rfl | rfl | rfl | rfl | rfl <;> exact (ec.2.2.2.2 38 _ j rfl).trans (k38 _ _)
      obtain ⟨a1, a2, a3, a4⟩ := pe.2.2.2 p (by omega) hp2
      exact ⟨by rw [z38 4 (by omega)]; exact a1, by rw [z38 5 (by omega)]; exact a2, by rw [z38 7 (by omega)]; exact a3, fun i hi => ⟨by rw [z38 8 (by omega)]; exact (a4 i hi).1, by rw [z38 9 (by omega)]; exact (a4 i hi).2⟩⟩
  · have pa := r.2.2.2.2.2.2.1
    have o3 : ∀ p, p ≠ cn h 9 → vi (peM h2 (cn h 9) b c k (nI T)) (9, p) 3 = vi h (9, p) 3 := fun p z => (u9 p 3).trans (pe_old _ _ _ _ z 3)
    have n3 : vi (peM h2 (cn h 9) b c k (nI T)) (9, cn h 9) 3 = vi h (0, 0) 13 := (u9 _ 3).trans (pe_n3 h b c k)
    have e13 : vi (peM h2 (cn h 9) b c k (nI T)) (0, 0) 13 = vi h (0, 0) 13 := er.2.2.2.2 0 0 13 rfl
    refine ⟨fun p p' hpp hp' => ?_, fun p hp => ?_⟩
    · rw [d9] at hp'
      by_cases z' : p' = cn h 9
      · by_cases z : p = cn h 9
        · rw [z, z']; exact Int32.le_refl _
        · rw [o3 p z, z', n3]; exact pa.2 p (by omega)
      · rw [o3 p (by omega), o3 p' z']; exact pa.1 p p' hpp (by omega)
    · rw [d9] at hp; rw [e13]
      by_cases z : p = cn h 9
      · rw [z, n3]; exact Int32.le_refl _
      · rw [o3 p z]; exact pa.2 p (by omega)
  · obtain ⟨x1, x2, x3, x4, x5', x6⟩ := ro
    have v := er.2.2.2.2
    have d10 : cn (peM h2 (cn h 9) b c k (nI T)) 10 = cn h 10 := er.1 10 rfl
    have d11 : cn (peM h2 (cn h 9) b c k (nI T)) 11 = cn h 11 := er.1 11 rfl
    have o9 : ∀ p, p ≠ cn h 9 → ∀ j, vi (peM h2 (cn h 9) b c k (nI T)) (9, p) j = vi h (9, p) j := fun p z j => (u9 p j).trans (pe_old _ _ _ _ z j)
    refine ⟨by rw [v 32 0 36 rfl, d10]; exact x1, by rw [v 32 0 37 rfl, d11]; exact x2, fun q hq => ?_, fun s hs => ?_, fun s s' hss hs' z => ?_, fun p hp => ?_⟩
    · rw [d10] at hq
      obtain ⟨y1, y2, y3⟩ := x3 q hq
      refine ⟨by rw [v 10 q 0 rfl, v 38 10 q rfl]; exact y1, by rw [v 10 q 2 rfl, v 38 12 q rfl]; exact y2, ?_⟩
      rw [er.2.2.1 10 q 1 rfl, v 38 11 q rfl, d11, d9]
      rcases y3 with y | ⟨s, p, y1, y2, y3, y4, y5, y6, y7, y8⟩
      · exact Or.inl y
      · exact Or.inr ⟨s, p, y1, by omega, y3, y4, by rw [v 11 s 0 rfl]; exact y5, by rw [v 11 s 3 rfl]; exact y6, by rw [v 11 s 1 rfl]; exact y7, by rw [o9 p (by omega)]; exact y8⟩
    · rw [d11] at hs
      have y := x4 s hs
      unfold StA at y ⊢
      rw [v 11 s 0 rfl, v 11 s 1 rfl, v 11 s 2 rfl, v 11 s 3 rfl, v 38 13 s rfl, v 38 14 s rfl, v 38 15 s rfl, v 38 16 s rfl, v 0 0 13 rfl, d10]
      simp only [er.2.2.1 10 _ 1 rfl]
      exact y
    · rw [d11] at hs'; rw [v 11 s 0 rfl, v 11 s' 0 rfl] at z; rw [v 11 s 3 rfl, v 11 s' 2 rfl]; exact x5' s s' hss hs' z
    · rw [d9] at hp
      by_cases z : p = cn h 9
      · rw [z, u9, u9, pe_n8, pe_n9]; exact Or.inl ⟨rfl, rfl⟩
      · rw [o9 p z, o9 p z, d10, d11]
        rcases x6 p (by omega) with y | ⟨q, s, hq, hs, y1, y2, y3⟩
        · exact Or.inl y
        · exact Or.inr ⟨q, s, hq, hs, y1, by rw [er.2.2.1 10 q 1 rfl]; exact y2, by rw [v 11 s 1 rfl]; exact y3⟩
set_option maxRecDepth 20000 in
theorem op_person (g : G0) (h : Hp) (r : RR h) {b c k : Int32} (hk : k = 0 ∨ k = 1) : ∃ mc ms, mc ≤ 4 ∧ ms ≤ 1523 ∧ Op g h yX11_person wX11_person (pR (0, 0) :: [pI b, pI c, pI k]) yX14_person wX14_person (pR (32, 0) :: [pI b, pI c, pI k]) 8 12 mc ms 0 0 := by
  have le := r.1.le
  have pe := r.2.2.2.2.2.1
  obtain ⟨T, hT, t1, t2⟩ := r.2.2.2.1.2.2.1
  have q : ∀ {x l m : Int32}, mIn x l m = 0 ↔ x < l ∨ m < x := fun {x l m} => by
    unfold mIn
    by_cases y1 : x < l
    · rw [if_pos y1]; exact ⟨fun _ => Or.inl y1, fun _ => rfl⟩
    · rw [if_neg y1]
      by_cases y2 : m < x
      · rw [if_pos y2]; exact ⟨fun _ => Or.inr y2, fun _ => rfl⟩
      · rw [if_neg y2]; exact ⟨fun z => absurd z (by decide), fun z => (z.elim y1 y2).elim⟩
  by_cases bad : b < -40000 ∨ nI T < b ∨ c < b ∨ nI T < c
  · refine ⟨0, 0, by decide, by decide, Op.of2 (-1 : Int32) (xT h 2) (mT (mZ (xT h 2)) 2) ?_ ?_ (m_personN g h r.1 (fun z => ?_)) (M_person g (xT h 2) (MJ_congr (h' := xT h 2) (Eqv.sI (Eqv.rf _) Bool.false_ne_true) r.2.2.1).1) (RR_ref2 r) rfl⟩
    · unfold xPersonN; rw [t1]
      by_cases y1 : b < -40000
      · rw [if_pos y1]
      · rw [if_neg y1]
        by_cases y2 : nI T < b
        · rw [if_pos y2]
        · rw [if_neg y2]
          by_cases y3 : c < b
          · rw [if_pos y3]
          · rw [if_neg y3, if_neg (Int32.not_le.mpr (by rcases bad with z | z | z | z; exact absurd z y1; exact absurd z y2; exact absurd z y3; exact z))]
    · unfold mPerson
      have e23 : vi (mZ (xT h 2)) (32, 0) 23 = nI T := by rw [mZ_v _ _ (by decide), xT_o _ _ (by decide)]; exact t2
      rw [e23]
      by_cases y1 : mIn b (-40000) (nI T) = 0
      · rw [if_pos y1]
      · have y2 : mIn c b (nI T) = 0 := by rw [q] at y1 ⊢; rcases bad with z | z | z | z; exact absurd (Or.inl z) y1; exact absurd (Or.inr z) y1; exact Or.inl z; exact Or.inr z
        rw [if_neg y1, if_pos y2]
    · obtain ⟨z1, z2, z3, z4, -⟩ := z; rw [t1] at z2 z4; rcases bad with w | w | w | w; exact z1 w; exact z2 w; exact z3 w; exact Int32.not_le.mpr w z4
  · have g1 : ¬ b < -40000 := fun z => bad (Or.inl z)
    have g2 : ¬ nI T < b := fun z => bad (Or.inr (Or.inl z))
    have g3 : ¬ c < b := fun z => bad (Or.inr (Or.inr (Or.inl z)))
    have g4 : ¬ nI T < c := fun z => bad (Or.inr (Or.inr (Or.inr z)))
    have m1 : ¬ mIn b (-40000) (nI T) = 0 := by rw [q]; exact fun z => z.elim g1 g2
    have m2 : ¬ mIn c b (nI T) = 0 := by rw [q]; exact fun z => z.elim g3 g4
    have i1 : -40000 ≤ b.toInt := by have := g1; rw [Int32.lt_iff_toInt_lt, show (-40000 : Int32).toInt = -40000 by decide] at this; omega
    have i2 : b.toInt ≤ T := by have := g2; rw [Int32.lt_iff_toInt_lt, nI_toInt (by omega)] at this; omega
    have i3 : b.toInt ≤ c.toInt := by have := g3; rw [Int32.lt_iff_toInt_lt] at this; omega
    have i4 : c.toInt ≤ T := by have := g4; rw [Int32.lt_iff_toInt_lt, nI_toInt (by omega)] at this; omega
    by_cases c2 : cn h 9 < 40
    · have ok : pOk h b c := ⟨g1, by rw [t1]; exact g2, g3, by rw [t1]; exact Int32.not_lt.mp g4, by rw [r.1.a1.1]; exact nI_lt (b := 40) c2 (by decide)⟩
      refine ⟨4, 1523, by decide, by decide, Op.add _ _ (m_personY g h r.1 ok hk) ?_⟩
      rintro h1 ⟨h2, f, al, rfl⟩
      have rr := RR_person r hT t1 hk ⟨i1, by omega⟩ ⟨by omega, by omega⟩ c2 f al
      have e1 : Eqv fNp h h2 := (Eqv.add (show Eqv fNp h (peN h b c k) from (Eqv.sI (Eqv.sI (Eqv.sI (Eqv.sI (Eqv.sI (Eqv.sI (Eqv.sR (Eqv.nw (Eqv.sR (Eqv.nw (Eqv.nw (Eqv.rf h) Bool.false_ne_true Bool.false_ne_true Bool.false_ne_true Bool.false_ne_true (fun _ _ => Bool.false_ne_true)) Bool.false_ne_true Bool.false_ne_true Bool.false_ne_true Bool.false_ne_true (fun _ _ => Bool.false_ne_true)) Bool.false_ne_true) Bool.false_ne_true Bool.false_ne_true Bool.false_ne_true Bool.false_ne_true (fun _ _ => Bool.false_ne_true)) Bool.false_ne_true) Bool.false_ne_true) Bool.false_ne_true) Bool.false_ne_true) Bool.false_ne_true) Bool.false_ne_true) Bool.false_ne_true)) f Bool.false_ne_true Bool.false_ne_true ⟨Bool.false_ne_true, Bool.false_ne_true⟩ Bool.false_ne_true (fun _ _ => Bool.false_ne_true) (fun _ _ => Bool.false_ne_true))
      have e22 : vi (mZ (xT h2 0)) (32, 0) 22 = nI (cn h 9) := by rw [mZ_v _ _ (by decide), xT_o _ _ (by decide), e1.2.2.2.2 32 0 22 rfl]; exact pe.1
      have e23 : vi (mZ (xT h2 0)) (32, 0) 23 = nI T := by rw [mZ_v _ _ (by decide), xT_o _ _ (by decide), e1.2.2.2.2 32 0 23 rfl]; exact t2
      have eY : mPerson (xT h2 0) b c k = (nI (cn h 9), peM h2 (cn h 9) b c k (nI T)) := by
        unfold mPerson; rw [e23, if_neg m1, if_neg m2, e22, if_neg (fun z => by have := (nI_eq (a := cn h 9) (b := 40) (by omega) (by decide)).mp z; omega), nI_clamp (by omega)]; unfold mPeN mP6 mP5 mP4 mP3 mP2 mP1 peM; rw [nI_1, e23]
      have mj : MJ (xT h2 0) := MJ_congr (h := h) ((show Eqv fMJ h h2 from (Eqv.add (show Eqv fMJ h (peN h b c k) from (Eqv.sI (Eqv.sI (Eqv.sI (Eqv.sI (Eqv.sI (Eqv.sI (Eqv.sR (Eqv.nw (Eqv.sR (Eqv.nw (Eqv.nw (Eqv.rf h) Bool.false_ne_true Bool.false_ne_true Bool.false_ne_true Bool.false_ne_true (fun _ _ => Bool.false_ne_true)) Bool.false_ne_true Bool.false_ne_true Bool.false_ne_true Bool.false_ne_true (fun _ _ => Bool.false_ne_true)) Bool.false_ne_true) Bool.false_ne_true Bool.false_ne_true Bool.false_ne_true Bool.false_ne_true (fun _ _ => Bool.false_ne_true)) Bool.false_ne_true) Bool.false_ne_true) Bool.false_ne_true) Bool.false_ne_true) Bool.false_ne_true) Bool.false_ne_true) Bool.false_ne_true)) f Bool.false_ne_true Bool.false_ne_true ⟨Bool.false_ne_true, Bool.false_ne_true⟩ Bool.false_ne_true (fun _ _ => Bool.false_ne_true) (fun _ _ => Bool.false_ne_true))).tr (show Eqv fMJ h2 (xT h2 0) from (Eqv.sI (Eqv.rf _) Bool.false_ne_true))) r.2.2.1
      refine ⟨mPerson (xT h2 0) b c k, M_person g _ mj.1, by rw [eY], by rw [eY]; exact rr, ?_, ?_⟩
      all_goals
        rw [eY]
        have k2 : ∀ p, cn (peM h2 (cn h 9) b c k (nI T)) p = cn h2 p := fun p => (show Eqv fCn h2 (peM h2 (cn h 9) b c k (nI T)) from (Eqv.sI (Eqv.sI (Eqv.sI (Eqv.sI (Eqv.sI (Eqv.sI (Eqv.sI (Eqv.sI (Eqv.sI (Eqv.sI (Eqv.sI (Eqv.rf _) Bool.false_ne_true) Bool.false_ne_true) Bool.false_ne_true) Bool.false_ne_true) Bool.false_ne_true) Bool.false_ne_true) Bool.false_ne_true) Bool.false_ne_true) Bool.false_ne_true) Bool.false_ne_true) Bool.false_ne_true)).1 p rfl
        have c9 : cn h2 9 = cn h 9 + 1 := (f.1 9 (by decide)).trans (pe_cn h b c k).1
        simp only [potC, potS, k2, c9, e1.1 8 rfl, e1.1 10 rfl, e1.1 11 rfl, e1.1 12 rfl, e1.1 33 rfl]
        omega
    · have e40 : cn h 9 = 40 := by omega
      refine ⟨0, 0, by decide, by decide, Op.of2 (-1 : Int32) (xT h 3) (mT (mZ (xT h 3)) 3) ?_ ?_ (m_personN g h r.1 (fun z => ?_)) (M_person g (xT h 3) (MJ_congr (h' := xT h 3) (Eqv.sI (Eqv.rf _) Bool.false_ne_true) r.2.2.1).1) (RR_ref3 r) rfl⟩
      · unfold xPersonN; rw [t1, if_neg g1, if_neg g2, if_neg g3, if_pos (Int32.not_lt.mp g4)]
      · unfold mPerson
        have e23 : vi (mZ (xT h 3)) (32, 0) 23 = nI T := by rw [mZ_v _ _ (by decide), xT_o _ _ (by decide)]; exact t2
        have e22 : vi (mZ (xT h 3)) (32, 0) 22 = nI 40 := by rw [mZ_v _ _ (by decide), xT_o _ _ (by decide), pe.1, e40]
        rw [e23, if_neg m1, if_neg m2, e22]; rfl
      · have := z.2.2.2.2; rw [r.1.a1.1, e40] at this; exact absurd this (by decide)
