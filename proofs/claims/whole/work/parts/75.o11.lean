def laM (h2 : Hp) (n : Nat) (a b c : Int32) : Hp := mT (sI (sI (sI (sI (mZ (xT h2 0)) (38, 17) n a) (38, 18) n b) (38, 19) n c) (32, 0) 48 (nI (n + 1))) 0
theorem laN_12 (h : Hp) (a b c : Int32) (p f : Nat) : vi (laN h a b c) (12, p) f = if p = cn h 12 then (if f = 2 then c else if f = 1 then b else if f = 0 then a else 0) else vi h (12, p) f := by
  unfold laN la3
  by_cases z : p = cn h 12
  · subst z
    rw [if_pos rfl]
    by_cases f2 : f = 2
    · rw [f2, vi_sI_eq, if_pos rfl]
    · rw [vi_sI_nk _ _ _ f2, if_neg f2]
      by_cases f1 : f = 1
      · rw [f1, vi_sI_eq, if_pos rfl]
      · rw [vi_sI_nk _ _ _ f1, if_neg f1]
        by_cases f0 : f = 0
        · rw [f0, vi_sI_eq, if_pos rfl]
        · rw [vi_sI_nk _ _ _ f0, if_neg f0, vi_nw, if_pos rfl]
  · have n : ((12, p) : Ad) ≠ (12, cn h 12) := fun y => z (by cases y; rfl)
    rw [if_neg z, vi_sI_ne _ _ _ _ n, vi_sI_ne _ _ _ _ n, vi_sI_ne _ _ _ _ n, vi_nw, if_neg n]
theorem laN_cn (h : Hp) (a b c : Int32) : cn (laN h a b c) 12 = cn h 12 + 1 := by unfold laN la3; rw [cn_sI, cn_sI, cn_sI, cn_nw, if_pos rfl]
theorem la_17 (h2 : Hp) (n : Nat) (a b c : Int32) (p : Nat) : vi (laM h2 n a b c) (38, 17) p = if p = n then a else vi h2 (38, 17) p := by unfold laM mT mZ xT; rw [vi_sI_ne _ _ _ _ (fun z => (by cases z)), vi_sI_ne _ _ _ _ (fun z => (by cases z)), vi_sI_ne _ _ _ _ (fun z => (by cases z)), vi_sI_ne _ _ _ _ (fun z => (by cases z)), vi_sI_ne _ _ _ _ (fun z => (by cases z)), vi_sI, upB, vi_sI_ne _ _ _ _ (fun z => (by cases z)), vi_sI_ne _ _ _ _ (fun z => (by cases z))]
theorem la_18 (h2 : Hp) (n : Nat) (a b c : Int32) (p : Nat) : vi (laM h2 n a b c) (38, 18) p = if p = n then b else vi h2 (38, 18) p := by unfold laM mT mZ xT; rw [vi_sI_ne _ _ _ _ (fun z => (by cases z)), vi_sI_ne _ _ _ _ (fun z => (by cases z)), vi_sI_ne _ _ _ _ (fun z => (by cases z)), vi_sI_ne _ _ _ _ (fun z => (by cases z)), vi_sI, upB, vi_sI_ne _ _ _ _ (fun z => (by cases z)), vi_sI_ne _ _ _ _ (fun z => (by cases z)), vi_sI_ne _ _ _ _ (fun z => (by cases z))]
theorem la_19 (h2 : Hp) (n : Nat) (a b c : Int32) (p : Nat) : vi (laM h2 n a b c) (38, 19) p = if p = n then c else vi h2 (38, 19) p := by unfold laM mT mZ xT; rw [vi_sI_ne _ _ _ _ (fun z => (by cases z)), vi_sI_ne _ _ _ _ (fun z => (by cases z)), vi_sI_ne _ _ _ _ (fun z => (by cases z)), vi_sI, upB, vi_sI_ne _ _ _ _ (fun z => (by cases z)), vi_sI_ne _ _ _ _ (fun z => (by cases z)), vi_sI_ne _ _ _ _ (fun z => (by cases z)), vi_sI_ne _ _ _ _ (fun z => (by cases z))]
theorem la_14 (h2 : Hp) (n : Nat) (a b c : Int32) (p : Nat) : vi (laM h2 n a b c) (0, 0) 14 = 0 := by unfold laM mT mZ xT; rw [vi_sI_ne _ _ _ _ (fun z => (by cases z)), vi_sI_ne _ _ _ _ (fun z => (by cases z)), vi_sI_ne _ _ _ _ (fun z => (by cases z)), vi_sI_ne _ _ _ _ (fun z => (by cases z)), vi_sI_ne _ _ _ _ (fun z => (by cases z)), vi_sI_ne _ _ _ _ (fun z => (by cases z)), vi_sI_ne _ _ _ _ (fun z => (by cases z)), vi_sI_eq]
theorem la_48 (h2 : Hp) (n : Nat) (a b c : Int32) (p : Nat) : vi (laM h2 n a b c) (32, 0) 48 = nI (n + 1) := by unfold laM mT mZ xT; rw [vi_sI_nk _ _ _ (by decide), vi_sI_nk _ _ _ (by decide), vi_sI_eq]
def f12 : Fpt := (fun p => p == 12, fun _ => false, fun _ => false, fun _ => false, fun p i f => p == 12)
theorem RR_land {h h2 : Hp} (r : RR h) {a b c : Nat} (ha : a ≤ 9999) (hb : 1 ≤ b ∧ b ≤ 400) (hcc : c ≤ 40000) (hc : cn h 12 < 10) (f : AddF (laN h (nI a) (nI b) (nI c)) h2 4) (al : AL h2 4 12 (cn h 12 + 1)) : RR (laM h2 (cn h 12) (nI a) (nI b) (nI c)) := by
  have x := r.1
  have le := x.le
  have ld1 : LD (laN h (nI a) (nI b) (nI c)) := LDsI (LDsI (LDsI (LDnw r.2.1 (by decide) (by decide))))
  have e1 : Eqv (fN 12) h h2 := (Eqv.add (show Eqv (fN 12) h (laN h (nI a) (nI b) (nI c)) from (Eqv.sI (Eqv.sI (Eqv.sI (Eqv.nw (Eqv.rf h) Bool.false_ne_true Bool.false_ne_true Bool.false_ne_true Bool.false_ne_true (fun _ _ => Bool.false_ne_true)) Bool.false_ne_true) Bool.false_ne_true) Bool.false_ne_true)) f Bool.false_ne_true Bool.false_ne_true ⟨Bool.false_ne_true, Bool.false_ne_true⟩ Bool.false_ne_true (fun _ _ => Bool.false_ne_true) (fun _ _ => Bool.false_ne_true))
  have c12 : cn h2 12 = cn h 12 + 1 := (f.1 12 (by decide)).trans (laN_cn h _ _ _)
  have c8 : cn h2 8 = cn h 8 := e1.1 8 rfl
  have c9 : cn h2 9 = cn h 9 := e1.1 9 rfl
  have c10 : cn h2 10 = cn h 10 := e1.1 10 rfl
  have c11 : cn h2 11 = cn h 11 := e1.1 11 rfl
  have c17 : cn h2 17 = cn h 17 := e1.1 17 rfl
  have c18 : cn h2 18 = cn h 18 := e1.1 18 rfl
  have c19 : cn h2 19 = cn h 19 := e1.1 19 rfl
  have xi : XI h2 := by
    refine ⟨SX_add f (SXla x.1), ⟨by rw [c8]; exact ALs_add ld1 f (by decide) (by decide) (by decide) (ALla x.a0), by rw [c9]; exact ALs_add ld1 f (by decide) (by decide) (by decide) (ALla x.a1), by rw [c10]; exact ALs_add ld1 f (by decide) (by decide) (by decide) (ALla x.a2), by rw [c11]; exact ALs_add ld1 f (by decide) (by decide) (by decide) (ALla x.a3), by rw [c12]; exact al⟩, ?_, ?_, by rw [c17, c8, c18, c19, c9]; exact x.2.2.2.2.1, by rw [c8, c9, c10, c11, c12]; omega, ?_, ?_, by rw [e1.2.2.2.2 5 0 1 rfl]; exact x.tr⟩
    · intro p hp; rw [c9] at hp; rw [c18, c19, e1.2.1 18 p rfl, e1.2.1 19 p rfl, e1.2.2.1 9 p 4 rfl, e1.2.2.1 9 p 5 rfl, e1.2.2.2.2 9 p 6 rfl]; exact x.ps p hp
    · intro c hc; rw [c8] at hc; rw [c17, e1.2.1 17 c rfl, e1.2.2.1 8 c 5 rfl, e1.2.2.2.2 8 c 4 rfl]; exact x.cs c hc
    · intro q hq w hw; rw [c10] at hq; rw [e1.2.2.1 10 q 1 rfl] at hw; rw [c11]; exact x.rs q hq w hw
    · intro s hs; rw [c11] at hs; rw [c9, e1.2.2.2.2 11 s 1 rfl]; exact x.ss s hs
  have mj0 : MJ (sI (sI (sI (mZ (xT h2 0)) (38, 17) (cn h 12) (nI a)) (38, 18) (cn h 12) (nI b)) (38, 19) (cn h 12) (nI c)) := MJ_congr (h := h) ((show Eqv fMJ h h2 from (Eqv.add (show Eqv fMJ h (laN h (nI a) (nI b) (nI c)) from (Eqv.sI (Eqv.sI (Eqv.sI (Eqv.nw (Eqv.rf h) Bool.false_ne_true Bool.false_ne_true Bool.false_ne_true Bool.false_ne_true (fun _ _ => Bool.false_ne_true)) Bool.false_ne_true) Bool.false_ne_true) Bool.false_ne_true)) f Bool.false_ne_true Bool.false_ne_true ⟨Bool.false_ne_true, Bool.false_ne_true⟩ Bool.false_ne_true (fun _ _ => Bool.false_ne_true) (fun _ _ => Bool.false_ne_true))).tr (show Eqv fMJ h2 (sI (sI (sI (mZ (xT h2 0)) (38, 17) (cn h 12) (nI a)) (38, 18) (cn h 12) (nI b)) (38, 19) (cn h 12) (nI c)) from (Eqv.sI (Eqv.sI (Eqv.sI (Eqv.sI (Eqv.sI (Eqv.rf _) Bool.false_ne_true) Bool.false_ne_true) Bool.false_ne_true) Bool.false_ne_true) Bool.false_ne_true))) r.2.2.1
  have mj : MJ (laM h2 (cn h 12) (nI a) (nI b) (nI c)) := MJ_congr (Eqv.sI (Eqv.sI (Eqv.rf _) Bool.false_ne_true) Bool.false_ne_true) (MJ_48 mj0 (t := cn h 12 + 1) (by omega))
  have e12 : Eqv f12 h2 (laM h2 (cn h 12) (nI a) (nI b) (nI c)) := (Eqv.sI (Eqv.sI (Eqv.sI (Eqv.sI (Eqv.sI (Eqv.sI (Eqv.sI (Eqv.sI (Eqv.rf _) Bool.false_ne_true) Bool.false_ne_true) Bool.false_ne_true) Bool.false_ne_true) Bool.false_ne_true) Bool.false_ne_true) Bool.false_ne_true) Bool.false_ne_true)
  refine ⟨XI_congr (Eqv.sI (Eqv.sI (Eqv.sI (Eqv.sI (Eqv.sI (Eqv.sI (Eqv.sI (Eqv.sI (Eqv.rf _) Bool.false_ne_true) Bool.false_ne_true) Bool.false_ne_true) Bool.false_ne_true) Bool.false_ne_true) Bool.false_ne_true) Bool.false_ne_true) Bool.false_ne_true) xi, LD_congr (Eqv.sI (Eqv.sI (Eqv.sI (Eqv.sI (Eqv.sI (Eqv.sI (Eqv.sI (Eqv.sI (Eqv.rf _) Bool.false_ne_true) Bool.false_ne_true) Bool.false_ne_true) Bool.false_ne_true) Bool.false_ne_true) Bool.false_ne_true) Bool.false_ne_true) Bool.false_ne_true) (LD_add ld1 f al), mj, ScA_k r.2.2.2.1 ((show Eqv fSk h h2 from (Eqv.add (show Eqv fSk h (laN h (nI a) (nI b) (nI c)) from (Eqv.sI (Eqv.sI (Eqv.sI (Eqv.nw (Eqv.rf h) Bool.false_ne_true Bool.false_ne_true Bool.false_ne_true Bool.false_ne_true (fun _ _ => Bool.false_ne_true)) Bool.false_ne_true) Bool.false_ne_true) Bool.false_ne_true)) f Bool.false_ne_true Bool.false_ne_true ⟨Bool.false_ne_true, Bool.false_ne_true⟩ Bool.false_ne_true (fun _ _ => Bool.false_ne_true) (fun _ _ => Bool.false_ne_true))).tr (show Eqv fSk h2 (laM h2 (cn h 12) (nI a) (nI b) (nI c)) from (Eqv.sI (Eqv.sI (Eqv.sI (Eqv.sI (Eqv.sI (Eqv.sI (Eqv.sI (Eqv.sI (Eqv.rf _) Bool.false_ne_true) Bool.false_ne_true) Bool.false_ne_true) Bool.false_ne_true) Bool.false_ne_true) Bool.false_ne_true) Bool.false_ne_true) Bool.false_ne_true))) 0 (by decide) (la_14 _ _ _ _ _ 0) (mT_1 _ _) (mT_2 _ _), TaR_congr ((show Eqv fTa h h2 from (Eqv.add (show Eqv fTa h (laN h (nI a) (nI b) (nI c)) from (Eqv.sI (Eqv.sI (Eqv.sI (Eqv.nw (Eqv.rf h) Bool.false_ne_true Bool.false_ne_true Bool.false_ne_true Bool.false_ne_true (fun _ _ => Bool.false_ne_true)) Bool.false_ne_true) Bool.false_ne_true) Bool.false_ne_true)) f Bool.false_ne_true Bool.false_ne_true ⟨Bool.false_ne_true, Bool.false_ne_true⟩ Bool.false_ne_true (fun _ _ => Bool.false_ne_true) (fun _ _ => Bool.false_ne_true))).tr (show Eqv fTa h2 (laM h2 (cn h 12) (nI a) (nI b) (nI c)) from (Eqv.sI (Eqv.sI (Eqv.sI (Eqv.sI (Eqv.sI (Eqv.sI (Eqv.sI (Eqv.sI (Eqv.rf _) Bool.false_ne_true) Bool.false_ne_true) Bool.false_ne_true) Bool.false_ne_true) Bool.false_ne_true) Bool.false_ne_true) Bool.false_ne_true) Bool.false_ne_true))) r.2.2.2.2.1, PeR_congr ((show Eqv fPe h h2 from (Eqv.add (show Eqv fPe h (laN h (nI a) (nI b) (nI c)) from (Eqv.sI (Eqv.sI (Eqv.sI (Eqv.nw (Eqv.rf h) Bool.false_ne_true Bool.false_ne_true Bool.false_ne_true Bool.false_ne_true (fun _ _ => Bool.false_ne_true)) Bool.false_ne_true) Bool.false_ne_true) Bool.false_ne_true)) f Bool.false_ne_true Bool.false_ne_true ⟨Bool.false_ne_true, Bool.false_ne_true⟩ Bool.false_ne_true (fun _ _ => Bool.false_ne_true) (fun _ _ => Bool.false_ne_true))).tr (show Eqv fPe h2 (laM h2 (cn h 12) (nI a) (nI b) (nI c)) from (Eqv.sI (Eqv.sI (Eqv.sI (Eqv.sI (Eqv.sI (Eqv.sI (Eqv.sI (Eqv.sI (Eqv.rf _) Bool.false_ne_true) Bool.false_ne_true) Bool.false_ne_true) Bool.false_ne_true) Bool.false_ne_true) Bool.false_ne_true) Bool.false_ne_true) Bool.false_ne_true))) r.2.2.2.2.2.1, PaR_congr ((show Eqv fPa h h2 from (Eqv.add (show Eqv fPa h (laN h (nI a) (nI b) (nI c)) from (Eqv.sI (Eqv.sI (Eqv.sI (Eqv.nw (Eqv.rf h) Bool.false_ne_true Bool.false_ne_true Bool.false_ne_true Bool.false_ne_true (fun _ _ => Bool.false_ne_true)) Bool.false_ne_true) Bool.false_ne_true) Bool.false_ne_true)) f Bool.false_ne_true Bool.false_ne_true ⟨Bool.false_ne_true, Bool.false_ne_true⟩ Bool.false_ne_true (fun _ _ => Bool.false_ne_true) (fun _ _ => Bool.false_ne_true))).tr (show Eqv fPa h2 (laM h2 (cn h 12) (nI a) (nI b) (nI c)) from (Eqv.sI (Eqv.sI (Eqv.sI (Eqv.sI (Eqv.sI (Eqv.sI (Eqv.sI (Eqv.sI (Eqv.rf _) Bool.false_ne_true) Bool.false_ne_true) Bool.false_ne_true) Bool.false_ne_true) Bool.false_ne_true) Bool.false_ne_true) Bool.false_ne_true) Bool.false_ne_true))) r.2.2.2.2.2.2.1, RoR_congr ((show Eqv fRo h h2 from (Eqv.add (show Eqv fRo h (laN h (nI a) (nI b) (nI c)) from (Eqv.sI (Eqv.sI (Eqv.sI (Eqv.nw (Eqv.rf h) Bool.false_ne_true Bool.false_ne_true Bool.false_ne_true Bool.false_ne_true (fun _ _ => Bool.false_ne_true)) Bool.false_ne_true) Bool.false_ne_true) Bool.false_ne_true)) f Bool.false_ne_true Bool.false_ne_true ⟨Bool.false_ne_true, Bool.false_ne_true⟩ Bool.false_ne_true (fun _ _ => Bool.false_ne_true) (fun _ _ => Bool.false_ne_true))).tr (show Eqv fRo h2 (laM h2 (cn h 12) (nI a) (nI b) (nI c)) from (Eqv.sI (Eqv.sI (Eqv.sI (Eqv.sI (Eqv.sI (Eqv.sI (Eqv.sI (Eqv.sI (Eqv.rf _) Bool.false_ne_true) Bool.false_ne_true) Bool.false_ne_true) Bool.false_ne_true) Bool.false_ne_true) Bool.false_ne_true) Bool.false_ne_true) Bool.false_ne_true))) r.2.2.2.2.2.2.2.1, TrR_congr ((show Eqv fTr h h2 from (Eqv.add (show Eqv fTr h (laN h (nI a) (nI b) (nI c)) from (Eqv.sI (Eqv.sI (Eqv.sI (Eqv.nw (Eqv.rf h) Bool.false_ne_true Bool.false_ne_true Bool.false_ne_true Bool.false_ne_true (fun _ _ => Bool.false_ne_true)) Bool.false_ne_true) Bool.false_ne_true) Bool.false_ne_true)) f Bool.false_ne_true Bool.false_ne_true ⟨Bool.false_ne_true, Bool.false_ne_true⟩ Bool.false_ne_true (fun _ _ => Bool.false_ne_true) (fun _ _ => Bool.false_ne_true))).tr (show Eqv fTr h2 (laM h2 (cn h 12) (nI a) (nI b) (nI c)) from (Eqv.sI (Eqv.sI (Eqv.sI (Eqv.sI (Eqv.sI (Eqv.sI (Eqv.sI (Eqv.sI (Eqv.rf _) Bool.false_ne_true) Bool.false_ne_true) Bool.false_ne_true) Bool.false_ne_true) Bool.false_ne_true) Bool.false_ne_true) Bool.false_ne_true) Bool.false_ne_true))) r.2.2.2.2.2.2.2.2.1, ?_, CsR_congr ((show Eqv fCs h h2 from (Eqv.add (show Eqv fCs h (laN h (nI a) (nI b) (nI c)) from (Eqv.sI (Eqv.sI (Eqv.sI (Eqv.nw (Eqv.rf h) Bool.false_ne_true Bool.false_ne_true Bool.false_ne_true Bool.false_ne_true (fun _ _ => Bool.false_ne_true)) Bool.false_ne_true) Bool.false_ne_true) Bool.false_ne_true)) f Bool.false_ne_true Bool.false_ne_true ⟨Bool.false_ne_true, Bool.false_ne_true⟩ Bool.false_ne_true (fun _ _ => Bool.false_ne_true) (fun _ _ => Bool.false_ne_true))).tr (show Eqv fCs h2 (laM h2 (cn h 12) (nI a) (nI b) (nI c)) from (Eqv.sI (Eqv.sI (Eqv.sI (Eqv.sI (Eqv.sI (Eqv.sI (Eqv.sI (Eqv.sI (Eqv.rf _) Bool.false_ne_true) Bool.false_ne_true) Bool.false_ne_true) Bool.false_ne_true) Bool.false_ne_true) Bool.false_ne_true) Bool.false_ne_true) Bool.false_ne_true))) r.2.2.2.2.2.2.2.2.2.2.1, SR_congr ((show Eqv fSR h h2 from (Eqv.add (show Eqv fSR h (laN h (nI a) (nI b) (nI c)) from (Eqv.sI (Eqv.sI (Eqv.sI (Eqv.nw (Eqv.rf h) Bool.false_ne_true Bool.false_ne_true Bool.false_ne_true Bool.false_ne_true (fun _ _ => Bool.false_ne_true)) Bool.false_ne_true) Bool.false_ne_true) Bool.false_ne_true)) f Bool.false_ne_true Bool.false_ne_true ⟨Bool.false_ne_true, Bool.false_ne_true⟩ Bool.false_ne_true (fun _ _ => Bool.false_ne_true) (fun _ _ => Bool.false_ne_true))).tr (show Eqv fSR h2 (laM h2 (cn h 12) (nI a) (nI b) (nI c)) from (Eqv.sI (Eqv.sI (Eqv.sI (Eqv.sI (Eqv.sI (Eqv.sI (Eqv.sI (Eqv.sI (Eqv.rf _) Bool.false_ne_true) Bool.false_ne_true) Bool.false_ne_true) Bool.false_ne_true) Bool.false_ne_true) Bool.false_ne_true) Bool.false_ne_true) Bool.false_ne_true))) r.2.2.2.2.2.2.2.2.2.2.2⟩
  have d12 : cn (laM h2 (cn h 12) (nI a) (nI b) (nI c)) 12 = cn h 12 + 1 := (e12.1 12 rfl).trans c12
  refine ⟨by rw [la_48 _ _ _ _ _ 0, d12], fun l hl => ?_⟩
  rw [d12] at hl
  have v12 : ∀ k, vi (laM h2 (cn h 12) (nI a) (nI b) (nI c)) (12, l) k = if l = cn h 12 then (if k = 2 then nI c else if k = 1 then nI b else if k = 0 then nI a else 0) else vi h (12, l) k := fun k => by rw [e12.2.2.2.2 12 l k rfl, f.vi7 (by decide) (by decide), laN_12]
  by_cases z : l = cn h 12
  · exact ⟨a, b, c, ha, hb.1, hb.2, hcc, by rw [v12, if_pos z]; rfl, by rw [la_17, if_pos z], by rw [v12, if_pos z]; rfl, by rw [la_18, if_pos z], by rw [v12, if_pos z]; rfl, by rw [la_19, if_pos z]⟩
  · rw [v12, v12, v12, if_neg z, if_neg z, if_neg z, la_17, la_18, la_19, if_neg z, if_neg z, if_neg z, e1.2.2.2.2 38 17 l rfl, e1.2.2.2.2 38 18 l rfl, e1.2.2.2.2 38 19 l rfl]
    exact r.2.2.2.2.2.2.2.2.2.1.2 l (by omega)
set_option maxRecDepth 20000 in
theorem op_land (g : G0) (h : Hp) (r : RR h) {u v w : Int32} : ∃ mc ms, mc ≤ 4 ∧ ms ≤ 1523 ∧ Op g h yX11_land wX11_land (pR (0, 0) :: [pI u, pI v, pI w]) yX14_land wX14_land (pR (32, 0) :: [pI u, pI v, pI w]) 8 12 mc ms 0 0 := by
  have le := r.1.le
  have la := r.2.2.2.2.2.2.2.2.2.1
  obtain ⟨T, hT, t1, t2⟩ := r.2.2.2.1.2.2.1
  have mok : ∀ h', vi h' (32, 0) 23 = nI T → lOk h u v w → (¬ mIn u 0 9999 = 0 ∧ ¬ mIn v 1 400 = 0 ∧ ¬ mIn w (vi h' (32, 0) 23 + 1) 40000 = 0) := by
    intro h' e ok
    obtain ⟨k1, k2, k3, k4, k5, k6⟩ := ok
    refine ⟨by unfold mIn; rw [if_neg k1, if_neg k2]; decide, by unfold mIn; rw [if_neg k3, if_neg k4]; decide, ?_⟩
    unfold mIn; rw [e, nI_1, if_neg, if_neg (Int32.not_lt.mpr k6)]
    · decide
    · intro z; rw [t1] at k5
      have k5' := Int32.not_le.mp k5
      rw [Int32.lt_iff_toInt_lt, nI_toInt (by omega)] at k5' z
      omega
  have mno : ∀ h', vi h' (32, 0) 23 = nI T → ¬ lOk h u v w → (mIn u 0 9999 = 0 ∨ mIn v 1 400 = 0 ∨ mIn w (vi h' (32, 0) 23 + 1) 40000 = 0) := by
    intro h' e no
    by_cases y1 : mIn u 0 9999 = 0
    · exact Or.inl y1
    · by_cases y2 : mIn v 1 400 = 0
      · exact Or.inr (Or.inl y2)
      · by_cases y3 : mIn w (vi h' (32, 0) 23 + 1) 40000 = 0
        · exact Or.inr (Or.inr y3)
        · exfalso; apply no
          have q : ∀ {x l m : Int32}, ¬ mIn x l m = 0 → ¬ x < l ∧ ¬ m < x := fun {x l m} hh => by
            unfold mIn at hh
            split at hh
            · exact absurd rfl hh
            · rename_i c1
              split at hh
              · exact absurd rfl hh
              · rename_i c2; exact ⟨c1, c2⟩
          obtain ⟨p1, p2⟩ := q y1
          obtain ⟨p3, p4⟩ := q y2
          obtain ⟨p5, p6⟩ := q y3
          refine ⟨p1, p2, p3, p4, ?_, Int32.not_lt.mp p6⟩
          intro z; apply p5; rw [e, nI_1]; rw [t1] at z
          rw [Int32.le_iff_toInt_le, nI_toInt (by omega)] at z
          rw [Int32.lt_iff_toInt_lt, nI_toInt (by omega)]; omega
  by_cases ok : lOk h u v w
  · by_cases c2 : cn h 12 < 10
    · obtain ⟨k1, k2, k3, k4, k5, k6⟩ := ok
      obtain ⟨a, ha, rfl⟩ := nI_of2 (M := 9999) (n := 9999) (by decide) k1 (Int32.not_lt.mp k2)
      obtain ⟨b, hb, rfl⟩ := nI_of2 (x := v) (M := 400) (n := 400) (by decide) (fun z => k3 (Int32.lt_trans z (by decide))) (Int32.not_lt.mp k4)
      have b1 : 1 ≤ b := by
        rcases Nat.eq_zero_or_pos b with z | z
        · rw [z] at k3; exact absurd (by decide) k3
        · exact z
      obtain ⟨c, hcc, rfl⟩ := nI_of2 (x := w) (M := 40000) (n := 40000) (by decide) (fun z => k5 (by rw [t1]; exact Int32.le_of_lt (Int32.lt_of_lt_of_le z (nI_pos' (by omega))))) k6
      have c3 : vi h (7, 4) 2 < 10 := by rw [r.1.a4.1]; exact nI_lt (b := 10) c2 (by decide)
      refine ⟨2, 1503, by decide, by decide, Op.add _ _ (m_landY g h r.1 ⟨k1, k2, k3, k4, k5, k6⟩ c3) ?_⟩
      rintro h1 ⟨h2, f, al, rfl⟩
      have rr := RR_land r ha ⟨b1, hb⟩ hcc c2 f al
      have e1 : Eqv (fN 12) h h2 := (Eqv.add (show Eqv (fN 12) h (laN h (nI a) (nI b) (nI c)) from (Eqv.sI (Eqv.sI (Eqv.sI (Eqv.nw (Eqv.rf h) Bool.false_ne_true Bool.false_ne_true Bool.false_ne_true Bool.false_ne_true (fun _ _ => Bool.false_ne_true)) Bool.false_ne_true) Bool.false_ne_true) Bool.false_ne_true)) f Bool.false_ne_true Bool.false_ne_true ⟨Bool.false_ne_true, Bool.false_ne_true⟩ Bool.false_ne_true (fun _ _ => Bool.false_ne_true) (fun _ _ => Bool.false_ne_true))
      have e48 : vi (mZ (xT h2 0)) (32, 0) 48 = nI (cn h 12) := by rw [mZ_v _ _ (by decide), xT_o _ _ (by decide), e1.2.2.2.2 32 0 48 rfl]; exact la.1
      have e23 : vi (mZ (xT h2 0)) (32, 0) 23 = nI T := by rw [mZ_v _ _ (by decide), xT_o _ _ (by decide), e1.2.2.2.2 32 0 23 rfl]; exact t2
      obtain ⟨o1, o2, o3⟩ := mok _ e23 ⟨k1, k2, k3, k4, k5, k6⟩
      have eY : mLand (xT h2 0) (nI a) (nI b) (nI c) = (nI (cn h 12), laM h2 (cn h 12) (nI a) (nI b) (nI c)) := by
        unfold mLand; rw [if_neg o1, if_neg o2, if_neg o3, e48, if_neg (fun z => by have := (nI_eq (a := cn h 12) (b := 10) (by omega) (by decide)).mp z; omega), nI_clamp (by omega)]; unfold mLaN laM; rw [nI_1]
      have mj : MJ (xT h2 0) := MJ_congr (h := h) ((show Eqv fMJ h h2 from (Eqv.add (show Eqv fMJ h (laN h (nI a) (nI b) (nI c)) from (Eqv.sI (Eqv.sI (Eqv.sI (Eqv.nw (Eqv.rf h) Bool.false_ne_true Bool.false_ne_true Bool.false_ne_true Bool.false_ne_true (fun _ _ => Bool.false_ne_true)) Bool.false_ne_true) Bool.false_ne_true) Bool.false_ne_true)) f Bool.false_ne_true Bool.false_ne_true ⟨Bool.false_ne_true, Bool.false_ne_true⟩ Bool.false_ne_true (fun _ _ => Bool.false_ne_true) (fun _ _ => Bool.false_ne_true))).tr (show Eqv fMJ h2 (xT h2 0) from (Eqv.sI (Eqv.rf _) Bool.false_ne_true))) r.2.2.1
      refine ⟨mLand (xT h2 0) (nI a) (nI b) (nI c), M_land g _ mj.1, by rw [eY], by rw [eY]; exact rr, ?_, ?_⟩
      all_goals
        rw [eY]
        have k : ∀ p, cn (laM h2 (cn h 12) (nI a) (nI b) (nI c)) p = cn h2 p := fun p => (show Eqv fCn h2 (laM h2 (cn h 12) (nI a) (nI b) (nI c)) from (Eqv.sI (Eqv.sI (Eqv.sI (Eqv.sI (Eqv.sI (Eqv.sI (Eqv.sI (Eqv.sI (Eqv.rf _) Bool.false_ne_true) Bool.false_ne_true) Bool.false_ne_true) Bool.false_ne_true) Bool.false_ne_true) Bool.false_ne_true) Bool.false_ne_true) Bool.false_ne_true)).1 p rfl
        have c12 : cn h2 12 = cn h 12 + 1 := (f.1 12 (by decide)).trans (laN_cn h _ _ _)
        simp only [potC, potS, k, c12, e1.1 8 rfl, e1.1 9 rfl, e1.1 10 rfl, e1.1 11 rfl, e1.1 33 rfl]
        omega
    · have e10 : cn h 12 = 10 := by omega
      obtain ⟨o1, o2, o3⟩ := mok (mZ (xT h 3)) (by rw [mZ_v _ _ (by decide), xT_o _ _ (by decide)]; exact t2) ok
      refine ⟨0, 0, by decide, by decide, Op.of2 (-1 : Int32) (xT h 3) (mT (mZ (xT h 3)) 3) ?_ ?_ (m_landN g h r.1 (fun z => ?_)) (M_land g (xT h 3) (MJ_congr (h' := xT h 3) (Eqv.sI (Eqv.rf _) Bool.false_ne_true) r.2.2.1).1) (RR_ref3 r) rfl⟩
      · unfold xLandN; exact if_pos ok
      · unfold mLand; rw [if_neg o1, if_neg o2, if_neg o3, mZ_v _ _ (by decide), xT_o _ _ (by decide), la.1, e10]; rfl
      · have := z.2; rw [r.1.a4.1, e10] at this; exact absurd this (by decide)
  · refine ⟨0, 0, by decide, by decide, Op.of2 (-1 : Int32) (xT h 2) (mT (mZ (xT h 2)) 2) ?_ ?_ (m_landN g h r.1 (fun z => ok z.1)) (M_land g (xT h 2) (MJ_congr (h' := xT h 2) (Eqv.sI (Eqv.rf _) Bool.false_ne_true) r.2.2.1).1) (RR_ref2 r) rfl⟩
    · unfold xLandN; exact if_neg ok
    · unfold mLand
      rcases mno (mZ (xT h 2)) (by rw [mZ_v _ _ (by decide), xT_o _ _ (by decide)]; exact t2) ok with z | z | z
      · rw [if_pos z]
      · split; rfl; first | rfl | rw [if_pos z]
      · split; rfl; split; rfl; first | rfl | rw [if_pos z]
