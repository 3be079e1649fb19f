/-! the class's writer as two lists: what was written last, what is held on top, comes first -/
def Pl (c : Hp) (k : Nat) : List Int32 → Prop
  | [] => True
  | x :: r => vi c (13, k) r.length = x ∧ Pl c k r
theorem Pl_c {c c' : Hp} {k : Nat} (e : ∀ i, vi c' (13, k) i = vi c (13, k) i) : ∀ (l : List Int32), Pl c k l → Pl c' k l
  | [], _ => trivial
  | x :: r, h => ⟨by rw [e]; exact h.1, Pl_c e r h.2⟩
theorem Pl_set {c : Hp} {k : Nat} : ∀ {l : List Int32} {i : Nat} (x : Int32), Pl c k l → l.length ≤ i → Pl (sI c (13, k) i x) k l
  | [], _, _, _, _ => trivial
  | y :: r, i, x, h, hi => by
    have hi' : r.length + 1 ≤ i := hi
    exact ⟨by rw [vi_sI_nk _ _ _ (by omega)]; exact h.1, Pl_set x h.2 (by omega)⟩
def Wr (c : Hp) (cd hd : List Int32) : Prop := vi c (3, 0) 2 = nI cd.length ∧ cd.length ≤ 300 ∧ vi c (3, 0) 3 = nI hd.length ∧ hd.length ≤ 300 ∧ Pl c 1 cd ∧ Pl c 2 hd
def aw (x : Int32) (l : List Int32) : List Int32 := if 300 ≤ l.length then l else x :: l
def aRel (x : Int32) : List Int32 → List Int32 → List Int32 × List Int32
  | [], cd => ([], cd)
  | y :: r, cd => if y = x then aRel x r (aw x cd) else (y :: r, cd)
theorem Wr_c {c c' : Hp} {cd hd : List Int32} (w : Wr c cd hd) (e3 : ∀ f, vi c' (3, 0) f = vi c (3, 0) f) (e1 : ∀ i, vi c' (13, 1) i = vi c (13, 1) i) (e2 : ∀ i, vi c' (13, 2) i = vi c (13, 2) i) : Wr c' cd hd :=
  ⟨by rw [e3]; exact w.1, w.2.1, by rw [e3]; exact w.2.2.1, w.2.2.2.1, Pl_c e1 _ w.2.2.2.2.1, Pl_c e2 _ w.2.2.2.2.2⟩
theorem Wr_sI {c : Hp} {cd hd : List Int32} (w : Wr c cd hd) {a : Ad} {k : Nat} {x : Int32} (h3 : a ≠ (3, 0)) (h1 : a ≠ (13, 1)) (h2 : a ≠ (13, 2)) : Wr (sI c a k x) cd hd :=
  Wr_c w (fun f => vi_sI_ne _ _ _ _ (fun z => h3 z.symm)) (fun f => vi_sI_ne _ _ _ _ (fun z => h1 z.symm)) (fun f => vi_sI_ne _ _ _ _ (fun z => h2 z.symm))
theorem Wr_wr {c : Hp} {cd hd : List Int32} (w : Wr c cd hd) (x : Int32) : Wr (wWr c x) (aw x cd) hd := by
  obtain ⟨w1, w2, w3, w4, w5, w6⟩ := w
  unfold wWr aw
  rw [w1]
  by_cases z : 300 ≤ cd.length
  · rw [if_pos (nI_le z (by omega)), if_pos z]; exact ⟨w1, w2, w3, w4, w5, w6⟩
  · rw [if_neg (nI_ge (by omega) (by decide)), if_neg z, nI_clamp (by omega), nI_1]
    refine ⟨by rw [vi_sI_eq]; rfl, by show cd.length + 1 ≤ 300; omega, ?_, w4, ⟨?_, ?_⟩, ?_⟩
    · rw [vi_sI_nk _ _ _ (by decide), vi_sI_ne _ _ _ _ (by decide)]; exact w3
    · rw [vi_sI_ne _ _ _ _ (by decide), vi_sI_eq]
    · exact Pl_c (fun i => vi_sI_ne _ _ _ _ (by decide)) _ (Pl_set x w5 (Nat.le_refl _))
    · exact Pl_c (fun i => by rw [vi_sI_ne _ _ _ _ (by decide), vi_sI_ne _ _ _ _ (by decide)]) _ w6
theorem Wr_ho {c : Hp} {cd hd : List Int32} (w : Wr c cd hd) (x : Int32) : Wr (wHo c x) cd (aw x hd) := by
  obtain ⟨w1, w2, w3, w4, w5, w6⟩ := w
  unfold wHo aw
  rw [w3]
  by_cases z : 300 ≤ hd.length
  · rw [if_pos (nI_le z (by omega)), if_pos z]; exact ⟨w1, w2, w3, w4, w5, w6⟩
  · rw [if_neg (nI_ge (by omega) (by decide)), if_neg z, nI_clamp (by omega), nI_1]
    refine ⟨?_, w2, by rw [vi_sI_eq]; rfl, by show hd.length + 1 ≤ 300; omega, ?_, ⟨?_, ?_⟩⟩
    · rw [vi_sI_nk _ _ _ (by decide), vi_sI_ne _ _ _ _ (by decide)]; exact w1
    · exact Pl_c (fun i => by rw [vi_sI_ne _ _ _ _ (by decide), vi_sI_ne _ _ _ _ (by decide)]) _ w5
    · rw [vi_sI_ne _ _ _ _ (by decide), vi_sI_eq]
    · exact Pl_c (fun i => vi_sI_ne _ _ _ _ (by decide)) _ (Pl_set x w6 (Nat.le_refl _))
theorem Wr_dn {c : Hp} {cd r : List Int32} {y : Int32} (w : Wr c cd (y :: r)) : Wr (sI c (3, 0) 3 (nI r.length)) cd r := by
  obtain ⟨w1, w2, w3, w4, w5, w6⟩ := w
  have w4' : r.length + 1 ≤ 300 := w4
  refine ⟨by rw [vi_sI_nk _ _ _ (by decide)]; exact w1, w2, by rw [vi_sI_eq], by omega, Pl_c (fun i => vi_sI_ne _ _ _ _ (by decide)) _ w5, Pl_c (fun i => vi_sI_ne _ _ _ _ (by decide)) _ w6.2⟩
theorem Wr_re (x : Int32) : ∀ (hd cd : List Int32) (c : Hp), Wr c cd hd → Wr (wRe x hd.length c) (aRel x hd cd).2 (aRel x hd cd).1
  | [], cd, c, w => w
  | y :: r, cd, c, w => by
    have ey : vi c (13, 2) r.length = y := w.2.2.2.2.2.1
    rw [aRel]
    show Wr (wRe x (r.length + 1) c) _ _
    rw [wRe, ey]
    by_cases z : y = x
    · rw [if_pos z, if_pos z, nI_pred]
      exact Wr_re x r (aw x cd) _ (Wr_wr (Wr_dn w) x)
    · rw [if_neg z, if_neg z]; exact w
theorem Wr_rel {c : Hp} {cd hd : List Int32} (w : Wr c cd hd) (x : Int32) : Wr (wRel c x) (aRel x hd cd).2 (aRel x hd cd).1 := by
  unfold wRel
  rw [w.2.2.1, nI_clamp (by have := w.2.2.2.1; omega)]
  exact Wr_re x hd cd c w
theorem Wr_pop {c : Hp} {cd hd : List Int32} (w : Wr c cd hd) : Wr (wPop c) cd hd.tail := by
  unfold wPop
  rw [w.2.2.1]
  cases hd with
  | nil => rw [if_pos (show nI ([] : List Int32).length ≤ 0 by decide)]; exact w
  | cons y r =>
    have w4 : r.length + 1 ≤ 300 := w.2.2.2.1
    rw [if_neg (show ¬ nI (y :: r).length ≤ 0 from nI_nle (n := r.length + 1) (by omega) (by omega)), show nI (y :: r).length - 1 = nI r.length from nI_pred _]
    exact Wr_dn w
/-- the class's reader: position, changes, comparisons, terms, open brackets, nots, name, sign, number, whats, numbers, ends, code, held -/
def CS (c : Hp) (b : Nat → Int32) (q ch cm te op no : Nat) (nm sg nu : Int32) (W M N : Nat → Int32) (cd hd : List Int32) : Prop :=
  SX c ∧ vi c (13, 0) = b ∧ vi c (1, 0) 3 = nI q ∧ (vi c (2, 0) 5 = nI ch ∧ vi c (2, 0) 7 = nI cm ∧ vi c (2, 0) 8 = nI te ∧ vi c (2, 0) 9 = nI op ∧ vi c (2, 0) 10 = nI no ∧ vi c (2, 0) 11 = nm ∧ vi c (2, 0) 12 = sg ∧ vi c (2, 0) 13 = nu) ∧ (vi c (13, 3) = W ∧ vi c (13, 4) = M ∧ vi c (13, 5) = N) ∧ Wr c cd hd ∧ vi c (2, 0) 6 = 0
/-- the class has ended with a fault -/
def CE (z : Hp) (k : Int32) (p : Nat) : Prop := vi z (2, 0) 6 = k ∧ vi z (1, 0) 4 = nI p ∧ ¬ k = 0
theorem rLp12 (e : Nat) : ∀ (j : Nat) (c : Hp), rLp e j 12 c = c
  | 0, _ => rfl
  | j + 1, c => by rw [rLp, if_pos rfl]
theorem rLp_s {e j s s' : Nat} {c c2 : Hp} (hs : s ≠ 12) (h : rSt (rdT e c) s = (nI s', c2)) (h' : s' ≤ 12) : rLp e (j + 1) s c = rLp e j s' c2 := by
  rw [rLp, if_neg hs, h, nI_clamp (by omega)]
/-- a token has been taken -/
theorem CS_t {c : Hp} {b : Nat → Int32} {q ch cm te op no : Nat} {nm sg nu : Int32} {W M N : Nat → Int32} {cd hd : List Int32} (s : CS c b q ch cm te op no nm sg nu W M N cd hd) {e : Nat} (hq : q ≤ 300) : CS (rdT e c) b (tok b e q).1 ch cm te op no nm sg nu W M N cd hd ∧ vi (rdT e c) (1, 0) 4 = nI (tok b e q).2.1 ∧ vi (rdT e c) (1, 0) 5 = (tok b e q).2.2.1 ∧ vi (rdT e c) (1, 0) 6 = (tok b e q).2.2.2 := by
  obtain ⟨s0, s1, s2, ⟨a5, a7, a8, a9, a10, a11, a12, a13⟩, ⟨b3, b4, b5⟩, s5, s6⟩ := s
  unfold rdT tkH
  rw [s1, s2, nI_clamp (by omega)]
  have o : ∀ {p i : Nat} (f : Nat), p ≠ 1 → vi (tp c (nI (tok b e q).1) (nI (tok b e q).2.1) (tok b e q).2.2.1 (tok b e q).2.2.2) (p, i) f = vi c (p, i) f := fun {p i} f hp => tp_o _ _ _ _ _ _ hp
  have of : ∀ {p i : Nat}, p ≠ 1 → vi (tp c (nI (tok b e q).1) (nI (tok b e q).2.1) (tok b e q).2.2.1 (tok b e q).2.2.2) (p, i) = vi c (p, i) := fun {p i} hp => funext fun f => tp_o _ _ _ _ _ _ hp
  refine ⟨⟨SXtp s0 _ _ _ _, (of (by decide)).trans s1, tp_3 _ _ _ _ _, ⟨(o _ (by decide)).trans a5, (o _ (by decide)).trans a7, (o _ (by decide)).trans a8, (o _ (by decide)).trans a9, (o _ (by decide)).trans a10, (o _ (by decide)).trans a11, (o _ (by decide)).trans a12, (o _ (by decide)).trans a13⟩, ⟨(of (by decide)).trans b3, (of (by decide)).trans b4, (of (by decide)).trans b5⟩, Wr_c s5 (fun f => o f (by decide)) (fun f => o f (by decide)) (fun f => o f (by decide)), (o _ (by decide)).trans s6⟩, tp_4 _ _ _ _ _, tp_5 _ _ _ _ _, tp_6 _ _ _ _ _⟩
/-- faults -/
theorem CE_fa {c : Hp} {k : Int32} {p : Nat} (h4 : vi c (1, 0) 4 = nI p) (hk : ¬ k = 0) : CE (rFa c k).2 k p := ⟨by show vi (sI c (2, 0) 6 k) (2, 0) 6 = k; rw [vi_sI_eq], by show vi (sI c (2, 0) 6 k) (1, 0) 4 = nI p; rw [vi_sI_ne _ _ _ _ (by decide)]; exact h4, hk⟩
theorem CE_s {e j s : Nat} {c c2 : Hp} {k : Int32} {p : Nat} (hs : s ≠ 12) (h : rSt (rdT e c) s = rFa c2 k) (h4 : vi c2 (1, 0) 4 = nI p) (hk : ¬ k = 0) : CE (rLp e (j + 1) s c) k p := by
  rw [rLp_s hs (s' := 12) (h.trans rfl) (by decide), rLp12]; exact CE_fa h4 hk
