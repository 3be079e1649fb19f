theorem st_put {c : Hp} {b : Nat → Int32} {q ch cm te op no : Nat} {nm sg nu : Int32} {W M N : Nat → Int32} {cd hd : List Int32} {e j : Nat} (s : CS c b q ch cm te op no nm sg nu W M N cd hd) (hq : q ≤ 300) (hk : (tok b e q).2.2.1 = 5) (hn : ch < 12) : ∃ c', rLp e (j + 1) 0 c = rLp e j 1 c' ∧ CS c' b (tok b e q).1 (ch + 1) cm 0 op no nm sg nu (fun i => if i = ch then (tok b e q).2.2.1 else W i) (fun i => if i = ch then 0 else M i) N cd hd := by
  have key : ∃ c2, rSt (rdT e c) 0 = (nI 1, c2) ∧ CS c2 b (tok b e q).1 (ch + 1) cm 0 op no nm sg nu (fun i => if i = ch then (tok b e q).2.2.1 else W i) (fun i => if i = ch then 0 else M i) N cd hd := by
    obtain ⟨t, p4, p5, p6⟩ := CS_t (e := e) s hq
    obtain ⟨s0, s1, s2, ⟨a5, a7, a8, a9, a10, a11, a12, a13⟩, ⟨b3, b4, b5⟩, s5, s6⟩ := t
    generalize rdT e c = d at *
    have e5 : vi d (2, 0) 5 < 12 := by rw [a5]; exact nI_lt (b := 12) hn (by decide)
    refine ⟨chH d, ?_, ?_⟩
    · show rCh d = _
      unfold rCh rCh1; rw [if_pos e5, p5, hk]; rfl
    · unfold chH; rw [a5, nI_clamp (by omega), nI_1]
      exact ⟨(SX.sI (SX.sI (SX.sI (SX.sI s0)))), (funext fun f => by rw [vi_sI_ne _ _ _ _ (by decide), vi_sI_ne _ _ _ _ (by decide), vi_sI_ne _ _ _ _ (by decide), vi_sI_ne _ _ _ _ (by decide)]; exact congrFun s1 f), (by rw [vi_sI_ne _ _ _ _ (by decide), vi_sI_ne _ _ _ _ (by decide), vi_sI_ne _ _ _ _ (by decide), vi_sI_ne _ _ _ _ (by decide)]; exact s2), ⟨(by rw [vi_sI_nk _ _ _ (by decide), vi_sI_eq]), (by rw [vi_sI_nk _ _ _ (by decide), vi_sI_nk _ _ _ (by decide), vi_sI_ne _ _ _ _ (by decide), vi_sI_ne _ _ _ _ (by decide)]; exact a7), (by rw [vi_sI_eq]; rfl), (by rw [vi_sI_nk _ _ _ (by decide), vi_sI_nk _ _ _ (by decide), vi_sI_ne _ _ _ _ (by decide), vi_sI_ne _ _ _ _ (by decide)]; exact a9), (by rw [vi_sI_nk _ _ _ (by decide), vi_sI_nk _ _ _ (by decide), vi_sI_ne _ _ _ _ (by decide), vi_sI_ne _ _ _ _ (by decide)]; exact a10), (by rw [vi_sI_nk _ _ _ (by decide), vi_sI_nk _ _ _ (by decide), vi_sI_ne _ _ _ _ (by decide), vi_sI_ne _ _ _ _ (by decide)]; exact a11), (by rw [vi_sI_nk _ _ _ (by decide), vi_sI_nk _ _ _ (by decide), vi_sI_ne _ _ _ _ (by decide), vi_sI_ne _ _ _ _ (by decide)]; exact a12), (by rw [vi_sI_nk _ _ _ (by decide), vi_sI_nk _ _ _ (by decide), vi_sI_ne _ _ _ _ (by decide), vi_sI_ne _ _ _ _ (by decide)]; exact a13)⟩, ⟨(funext fun f => by rw [vi_sI_ne _ _ _ _ (by decide), vi_sI_ne _ _ _ _ (by decide), vi_sI_ne _ _ _ _ (by decide), vi_sI, upB]; by_cases z : f = ch; (rw [if_pos z, if_pos z, p5]); (rw [if_neg z, if_neg z]; exact congrFun b3 f)), (funext fun f => by rw [vi_sI_ne _ _ _ _ (by decide), vi_sI_ne _ _ _ _ (by decide), vi_sI, upB]; by_cases z : f = ch; (rw [if_pos z, if_pos z]); (rw [if_neg z, if_neg z, vi_sI_ne _ _ _ _ (by decide)]; exact congrFun b4 f)), (funext fun f => by rw [vi_sI_ne _ _ _ _ (by decide), vi_sI_ne _ _ _ _ (by decide), vi_sI_ne _ _ _ _ (by decide), vi_sI_ne _ _ _ _ (by decide)]; exact congrFun b5 f)⟩, (Wr_sI (Wr_sI (Wr_sI (Wr_sI s5 (by decide) (by decide) (by decide)) (by decide) (by decide) (by decide)) (by decide) (by decide) (by decide)) (by decide) (by decide) (by decide)), (by rw [vi_sI_nk _ _ _ (by decide), vi_sI_nk _ _ _ (by decide), vi_sI_ne _ _ _ _ (by decide), vi_sI_ne _ _ _ _ (by decide)]; exact s6)⟩
  obtain ⟨c2, k1, k2⟩ := key
  exact ⟨c2, rLp_s (by decide) k1 (by decide), k2⟩
theorem st_strike {c : Hp} {b : Nat → Int32} {q ch cm te op no : Nat} {nm sg nu : Int32} {W M N : Nat → Int32} {cd hd : List Int32} {e j : Nat} (s : CS c b q ch cm te op no nm sg nu W M N cd hd) (hq : q ≤ 300) (hk : (tok b e q).2.2.1 = 6) (hn : ch < 12) : ∃ c', rLp e (j + 1) 0 c = rLp e j 2 c' ∧ CS c' b (tok b e q).1 (ch + 1) cm 0 op no nm sg nu (fun i => if i = ch then (tok b e q).2.2.1 else W i) (fun i => if i = ch then 0 else M i) N cd hd := by
  have key : ∃ c2, rSt (rdT e c) 0 = (nI 2, c2) ∧ CS c2 b (tok b e q).1 (ch + 1) cm 0 op no nm sg nu (fun i => if i = ch then (tok b e q).2.2.1 else W i) (fun i => if i = ch then 0 else M i) N cd hd := by
    obtain ⟨t, p4, p5, p6⟩ := CS_t (e := e) s hq
    obtain ⟨s0, s1, s2, ⟨a5, a7, a8, a9, a10, a11, a12, a13⟩, ⟨b3, b4, b5⟩, s5, s6⟩ := t
    generalize rdT e c = d at *
    have e5 : vi d (2, 0) 5 < 12 := by rw [a5]; exact nI_lt (b := 12) hn (by decide)
    refine ⟨chH d, ?_, ?_⟩
    · show rCh d = _
      unfold rCh rCh1; rw [if_pos e5, p5, hk]; rfl
    · unfold chH; rw [a5, nI_clamp (by omega), nI_1]
      exact ⟨(SX.sI (SX.sI (SX.sI (SX.sI s0)))), (funext fun f => by rw [vi_sI_ne _ _ _ _ (by decide), vi_sI_ne _ _ _ _ (by decide), vi_sI_ne _ _ _ _ (by decide), vi_sI_ne _ _ _ _ (by decide)]; exact congrFun s1 f), (by rw [vi_sI_ne _ _ _ _ (by decide), vi_sI_ne _ _ _ _ (by decide), vi_sI_ne _ _ _ _ (by decide), vi_sI_ne _ _ _ _ (by decide)]; exact s2), ⟨(by rw [vi_sI_nk _ _ _ (by decide), vi_sI_eq]), (by rw [vi_sI_nk _ _ _ (by decide), vi_sI_nk _ _ _ (by decide), vi_sI_ne _ _ _ _ (by decide), vi_sI_ne _ _ _ _ (by decide)]; exact a7), (by rw [vi_sI_eq]; rfl), (by rw [vi_sI_nk _ _ _ (by decide), vi_sI_nk _ _ _ (by decide), vi_sI_ne _ _ _ _ (by decide), vi_sI_ne _ _ _ _ (by decide)]; exact a9), (by rw [vi_sI_nk _ _ _ (by decide), vi_sI_nk _ _ _ (by decide), vi_sI_ne _ _ _ _ (by decide), vi_sI_ne _ _ _ _ (by decide)]; exact a10), (by rw [vi_sI_nk _ _ _ (by decide), vi_sI_nk _ _ _ (by decide), vi_sI_ne _ _ _ _ (by decide), vi_sI_ne _ _ _ _ (by decide)]; exact a11), (by rw [vi_sI_nk _ _ _ (by decide), vi_sI_nk _ _ _ (by decide), vi_sI_ne _ _ _ _ (by decide), vi_sI_ne _ _ _ _ (by decide)]; exact a12), (by rw [vi_sI_nk _ _ _ (by decide), vi_sI_nk _ _ _ (by decide), vi_sI_ne _ _ _ _ (by decide), vi_sI_ne _ _ _ _ (by decide)]; exact a13)⟩, ⟨(funext fun f => by rw [vi_sI_ne _ _ _ _ (by decide), vi_sI_ne _ _ _ _ (by decide), vi_sI_ne _ _ _ _ (by decide), vi_sI, upB]; by_cases z : f = ch; (rw [if_pos z, if_pos z, p5]); (rw [if_neg z, if_neg z]; exact congrFun b3 f)), (funext fun f => by rw [vi_sI_ne _ _ _ _ (by decide), vi_sI_ne _ _ _ _ (by decide), vi_sI, upB]; by_cases z : f = ch; (rw [if_pos z, if_pos z]); (rw [if_neg z, if_neg z, vi_sI_ne _ _ _ _ (by decide)]; exact congrFun b4 f)), (funext fun f => by rw [vi_sI_ne _ _ _ _ (by decide), vi_sI_ne _ _ _ _ (by decide), vi_sI_ne _ _ _ _ (by decide), vi_sI_ne _ _ _ _ (by decide)]; exact congrFun b5 f)⟩, (Wr_sI (Wr_sI (Wr_sI (Wr_sI s5 (by decide) (by decide) (by decide)) (by decide) (by decide) (by decide)) (by decide) (by decide) (by decide)) (by decide) (by decide) (by decide)), (by rw [vi_sI_nk _ _ _ (by decide), vi_sI_nk _ _ _ (by decide), vi_sI_ne _ _ _ _ (by decide), vi_sI_ne _ _ _ _ (by decide)]; exact s6)⟩
  obtain ⟨c2, k1, k2⟩ := key
  exact ⟨c2, rLp_s (by decide) k1 (by decide), k2⟩
theorem st_order {c : Hp} {b : Nat → Int32} {q ch cm te op no : Nat} {nm sg nu : Int32} {W M N : Nat → Int32} {cd hd : List Int32} {e j : Nat} (s : CS c b q ch cm te op no nm sg nu W M N cd hd) (hq : q ≤ 300) (hk : (tok b e q).2.2.1 = 7) (hn : ch < 12) : ∃ c', rLp e (j + 1) 0 c = rLp e j 8 c' ∧ CS c' b (tok b e q).1 (ch + 1) cm 0 op no nm sg nu (fun i => if i = ch then (tok b e q).2.2.1 else W i) (fun i => if i = ch then 0 else M i) N cd hd := by
  have key : ∃ c2, rSt (rdT e c) 0 = (nI 8, c2) ∧ CS c2 b (tok b e q).1 (ch + 1) cm 0 op no nm sg nu (fun i => if i = ch then (tok b e q).2.2.1 else W i) (fun i => if i = ch then 0 else M i) N cd hd := by
    obtain ⟨t, p4, p5, p6⟩ := CS_t (e := e) s hq
    obtain ⟨s0, s1, s2, ⟨a5, a7, a8, a9, a10, a11, a12, a13⟩, ⟨b3, b4, b5⟩, s5, s6⟩ := t
    generalize rdT e c = d at *
    have e5 : vi d (2, 0) 5 < 12 := by rw [a5]; exact nI_lt (b := 12) hn (by decide)
    refine ⟨chH d, ?_, ?_⟩
    · show rCh d = _
      unfold rCh rCh1; rw [if_pos e5, p5, hk]; rfl
    · unfold chH; rw [a5, nI_clamp (by omega), nI_1]
      exact ⟨(SX.sI (SX.sI (SX.sI (SX.sI s0)))), (funext fun f => by rw [vi_sI_ne _ _ _ _ (by decide), vi_sI_ne _ _ _ _ (by decide), vi_sI_ne _ _ _ _ (by decide), vi_sI_ne _ _ _ _ (by decide)]; exact congrFun s1 f), (by rw [vi_sI_ne _ _ _ _ (by decide), vi_sI_ne _ _ _ _ (by decide), vi_sI_ne _ _ _ _ (by decide), vi_sI_ne _ _ _ _ (by decide)]; exact s2), ⟨(by rw [vi_sI_nk _ _ _ (by decide), vi_sI_eq]), (by rw [vi_sI_nk _ _ _ (by decide), vi_sI_nk _ _ _ (by decide), vi_sI_ne _ _ _ _ (by decide), vi_sI_ne _ _ _ _ (by decide)]; exact a7), (by rw [vi_sI_eq]; rfl), (by rw [vi_sI_nk _ _ _ (by decide), vi_sI_nk _ _ _ (by decide), vi_sI_ne _ _ _ _ (by decide), vi_sI_ne _ _ _ _ (by decide)]; exact a9), (by rw [vi_sI_nk _ _ _ (by decide), vi_sI_nk _ _ _ (by decide), vi_sI_ne _ _ _ _ (by decide), vi_sI_ne _ _ _ _ (by decide)]; exact a10), (by rw [vi_sI_nk _ _ _ (by decide), vi_sI_nk _ _ _ (by decide), vi_sI_ne _ _ _ _ (by decide), vi_sI_ne _ _ _ _ (by decide)]; exact a11), (by rw [vi_sI_nk _ _ _ (by decide), vi_sI_nk _ _ _ (by decide), vi_sI_ne _ _ _ _ (by decide), vi_sI_ne _ _ _ _ (by decide)]; exact a12), (by rw [vi_sI_nk _ _ _ (by decide), vi_sI_nk _ _ _ (by decide), vi_sI_ne _ _ _ _ (by decide), vi_sI_ne _ _ _ _ (by decide)]; exact a13)⟩, ⟨(funext fun f => by rw [vi_sI_ne _ _ _ _ (by decide), vi_sI_ne _ _ _ _ (by decide), vi_sI_ne _ _ _ _ (by decide), vi_sI, upB]; by_cases z : f = ch; (rw [if_pos z, if_pos z, p5]); (rw [if_neg z, if_neg z]; exact congrFun b3 f)), (funext fun f => by rw [vi_sI_ne _ _ _ _ (by decide), vi_sI_ne _ _ _ _ (by decide), vi_sI, upB]; by_cases z : f = ch; (rw [if_pos z, if_pos z]); (rw [if_neg z, if_neg z, vi_sI_ne _ _ _ _ (by decide)]; exact congrFun b4 f)), (funext fun f => by rw [vi_sI_ne _ _ _ _ (by decide), vi_sI_ne _ _ _ _ (by decide), vi_sI_ne _ _ _ _ (by decide), vi_sI_ne _ _ _ _ (by decide)]; exact congrFun b5 f)⟩, (Wr_sI (Wr_sI (Wr_sI (Wr_sI s5 (by decide) (by decide) (by decide)) (by decide) (by decide) (by decide)) (by decide) (by decide) (by decide)) (by decide) (by decide) (by decide)), (by rw [vi_sI_nk _ _ _ (by decide), vi_sI_nk _ _ _ (by decide), vi_sI_ne _ _ _ _ (by decide), vi_sI_ne _ _ _ _ (by decide)]; exact s6)⟩
  obtain ⟨c2, k1, k2⟩ := key
  exact ⟨c2, rLp_s (by decide) k1 (by decide), k2⟩
theorem ft_chmany {c : Hp} {b : Nat → Int32} {q ch cm te op no : Nat} {nm sg nu : Int32} {W M N : Nat → Int32} {cd hd : List Int32} {e j : Nat} (s : CS c b q ch cm te op no nm sg nu W M N cd hd) (hq : q ≤ 300) (hk : (tok b e q).2.2.1 = 5 ∨ (tok b e q).2.2.1 = 6 ∨ (tok b e q).2.2.1 = 7) (hn : ch = 12) : CE (rLp e (j + 1) 0 c) 4 (tok b e q).2.1 := by
  have key : ∃ c2, rSt (rdT e c) 0 = rFa c2 4 ∧ vi c2 (1, 0) 4 = nI (tok b e q).2.1 := by
    obtain ⟨t, p4, p5, p6⟩ := CS_t (e := e) s hq
    obtain ⟨s0, s1, s2, ⟨a5, a7, a8, a9, a10, a11, a12, a13⟩, ⟨b3, b4, b5⟩, s5, s6⟩ := t
    generalize rdT e c = d at *
    have e5 : ¬ vi d (2, 0) 5 < 12 := by rw [a5, hn]; decide
    refine ⟨d, ?_, p4⟩
    show rCh d = _
    unfold rCh rCh1; rw [if_neg e5, p5]; rcases hk with z | z | z <;> (rw [z]; rfl)
  obtain ⟨c2, k1, k2⟩ := key
  exact CE_s (by decide) k1 k2 (by first | decide | (split <;> decide))
theorem ft_chform {c : Hp} {b : Nat → Int32} {q ch cm te op no : Nat} {nm sg nu : Int32} {W M N : Nat → Int32} {cd hd : List Int32} {e j : Nat} (s : CS c b q ch cm te op no nm sg nu W M N cd hd) (hq : q ≤ 300) (h1 : ¬ (tok b e q).2.2.1 = 5) (h2 : ¬ (tok b e q).2.2.1 = 6) (h3 : ¬ (tok b e q).2.2.1 = 7) : CE (rLp e (j + 1) 0 c) 1 (tok b e q).2.1 := by
  have key : ∃ c2, rSt (rdT e c) 0 = rFa c2 1 ∧ vi c2 (1, 0) 4 = nI (tok b e q).2.1 := by
    obtain ⟨t, p4, p5, p6⟩ := CS_t (e := e) s hq
    obtain ⟨s0, s1, s2, ⟨a5, a7, a8, a9, a10, a11, a12, a13⟩, ⟨b3, b4, b5⟩, s5, s6⟩ := t
    generalize rdT e c = d at *
    refine ⟨d, ?_, p4⟩
    show rCh d = _
    unfold rCh; rw [p5, if_neg h1, if_neg h2, if_neg h3]
  obtain ⟨c2, k1, k2⟩ := key
  exact CE_s (by decide) k1 k2 (by first | decide | (split <;> decide))
theorem st_pnum {c : Hp} {b : Nat → Int32} {q ch cm te op no : Nat} {nm sg nu : Int32} {W M N : Nat → Int32} {cd hd : List Int32} {e j : Nat} (s : CS c b q ch cm te op no nm sg nu W M N cd hd) (hq : q ≤ 300) (hc : 1 ≤ ch ∧ ch ≤ 12) (hk : (tok b e q).2.2.1 = 2) (h1 : ¬ (tok b e q).2.2.2 < 1) (h2 : (tok b e q).2.2.2 ≤ 12) : ∃ c', rLp e (j + 1) 1 c = rLp e j 4 c' ∧ CS c' b (tok b e q).1 ch cm te op no nm sg nu W (fun i => if i = ch - 1 then (tok b e q).2.2.2 else M i) N cd hd := by
  have key : ∃ c2, rSt (rdT e c) 1 = (nI 4, c2) ∧ CS c2 b (tok b e q).1 ch cm te op no nm sg nu W (fun i => if i = ch - 1 then (tok b e q).2.2.2 else M i) N cd hd := by
    obtain ⟨t, p4, p5, p6⟩ := CS_t (e := e) s hq
    obtain ⟨s0, s1, s2, ⟨a5, a7, a8, a9, a10, a11, a12, a13⟩, ⟨b3, b4, b5⟩, s5, s6⟩ := t
    generalize rdT e c = d at *
    have e5 : ¬ vi d (2, 0) 5 ≤ 0 := by rw [a5]; exact nI_nle (by omega) (by omega)
    have eb : cnH d = sI d (13, 4) (ch - 1) (tok b e q).2.2.2 := by unfold cnH; rw [if_neg e5, a5, show nI ch = nI (ch - 1 + 1) by rw [show ch - 1 + 1 = ch by omega], nI_pred, nI_clamp (by omega), p6]
    refine ⟨cnH d, ?_, ?_⟩
    · show rCn d 4 = _
      unfold rCn; rw [p5, hk, if_pos rfl, p6, if_neg h1, if_pos h2]; rfl
    · rw [eb]
      exact ⟨(SX.sI s0), (funext fun f => by rw [vi_sI_ne _ _ _ _ (by decide)]; exact congrFun s1 f), (by rw [vi_sI_ne _ _ _ _ (by decide)]; exact s2), ⟨(by rw [vi_sI_ne _ _ _ _ (by decide)]; exact a5), (by rw [vi_sI_ne _ _ _ _ (by decide)]; exact a7), (by rw [vi_sI_ne _ _ _ _ (by decide)]; exact a8), (by rw [vi_sI_ne _ _ _ _ (by decide)]; exact a9), (by rw [vi_sI_ne _ _ _ _ (by decide)]; exact a10), (by rw [vi_sI_ne _ _ _ _ (by decide)]; exact a11), (by rw [vi_sI_ne _ _ _ _ (by decide)]; exact a12), (by rw [vi_sI_ne _ _ _ _ (by decide)]; exact a13)⟩, ⟨(funext fun f => by rw [vi_sI_ne _ _ _ _ (by decide)]; exact congrFun b3 f), (funext fun f => by rw [vi_sI, upB]; by_cases z : f = ch - 1; (rw [if_pos z, if_pos z]); (rw [if_neg z, if_neg z]; exact congrFun b4 f)), (funext fun f => by rw [vi_sI_ne _ _ _ _ (by decide)]; exact congrFun b5 f)⟩, (Wr_sI s5 (by decide) (by decide) (by decide)), (by rw [vi_sI_ne _ _ _ _ (by decide)]; exact s6)⟩
  obtain ⟨c2, k1, k2⟩ := key
  exact ⟨c2, rLp_s (by decide) k1 (by decide), k2⟩
theorem ft_pnum3 {c : Hp} {b : Nat → Int32} {q ch cm te op no : Nat} {nm sg nu : Int32} {W M N : Nat → Int32} {cd hd : List Int32} {e j : Nat} (s : CS c b q ch cm te op no nm sg nu W M N cd hd) (hq : q ≤ 300) (hk : (tok b e q).2.2.1 = 2) (h1 : (tok b e q).2.2.2 < 1 ∨ 12 < (tok b e q).2.2.2) : CE (rLp e (j + 1) 1 c) 3 (tok b e q).2.1 := by
  have key : ∃ c2, rSt (rdT e c) 1 = rFa c2 3 ∧ vi c2 (1, 0) 4 = nI (tok b e q).2.1 := by
    obtain ⟨t, p4, p5, p6⟩ := CS_t (e := e) s hq
    obtain ⟨s0, s1, s2, ⟨a5, a7, a8, a9, a10, a11, a12, a13⟩, ⟨b3, b4, b5⟩, s5, s6⟩ := t
    generalize rdT e c = d at *
    refine ⟨d, ?_, p4⟩
    show rCn d 4 = _
    unfold rCn; rw [p5, hk, if_pos rfl, p6]
    by_cases z : (tok b e q).2.2.2 < 1
    · rw [if_pos z]
    · rw [if_neg z, if_neg (Int32.not_le.mpr (h1.resolve_left z))]
  obtain ⟨c2, k1, k2⟩ := key
  exact CE_s (by decide) k1 k2 (by first | decide | (split <;> decide))
theorem ft_pnum1 {c : Hp} {b : Nat → Int32} {q ch cm te op no : Nat} {nm sg nu : Int32} {W M N : Nat → Int32} {cd hd : List Int32} {e j : Nat} (s : CS c b q ch cm te op no nm sg nu W M N cd hd) (hq : q ≤ 300) (hk : ¬ (tok b e q).2.2.1 = 2) : CE (rLp e (j + 1) 1 c) 1 (tok b e q).2.1 := by
  have key : ∃ c2, rSt (rdT e c) 1 = rFa c2 1 ∧ vi c2 (1, 0) 4 = nI (tok b e q).2.1 := by
    obtain ⟨t, p4, p5, p6⟩ := CS_t (e := e) s hq
    obtain ⟨s0, s1, s2, ⟨a5, a7, a8, a9, a10, a11, a12, a13⟩, ⟨b3, b4, b5⟩, s5, s6⟩ := t
    generalize rdT e c = d at *
    refine ⟨d, ?_, p4⟩
    show rCn d 4 = _
    unfold rCn; rw [p5, if_neg hk]
  obtain ⟨c2, k1, k2⟩ := key
  exact CE_s (by decide) k1 k2 (by first | decide | (split <;> decide))
theorem st_snum {c : Hp} {b : Nat → Int32} {q ch cm te op no : Nat} {nm sg nu : Int32} {W M N : Nat → Int32} {cd hd : List Int32} {e j : Nat} (s : CS c b q ch cm te op no nm sg nu W M N cd hd) (hq : q ≤ 300) (hc : 1 ≤ ch ∧ ch ≤ 12) (hk : (tok b e q).2.2.1 = 2) (h1 : ¬ (tok b e q).2.2.2 < 1) (h2 : (tok b e q).2.2.2 ≤ 12) : ∃ c', rLp e (j + 1) 2 c = rLp e j 3 c' ∧ CS c' b (tok b e q).1 ch cm te op no nm sg nu W (fun i => if i = ch - 1 then (tok b e q).2.2.2 else M i) N cd hd := by
  have key : ∃ c2, rSt (rdT e c) 2 = (nI 3, c2) ∧ CS c2 b (tok b e q).1 ch cm te op no nm sg nu W (fun i => if i = ch - 1 then (tok b e q).2.2.2 else M i) N cd hd := by
    obtain ⟨t, p4, p5, p6⟩ := CS_t (e := e) s hq
    obtain ⟨s0, s1, s2, ⟨a5, a7, a8, a9, a10, a11, a12, a13⟩, ⟨b3, b4, b5⟩, s5, s6⟩ := t
    generalize rdT e c = d at *
    have e5 : ¬ vi d (2, 0) 5 ≤ 0 := by rw [a5]; exact nI_nle (by omega) (by omega)
    have eb : cnH d = sI d (13, 4) (ch - 1) (tok b e q).2.2.2 := by unfold cnH; rw [if_neg e5, a5, show nI ch = nI (ch - 1 + 1) by rw [show ch - 1 + 1 = ch by omega], nI_pred, nI_clamp (by omega), p6]
    refine ⟨cnH d, ?_, ?_⟩
    · show rCn d 3 = _
      unfold rCn; rw [p5, hk, if_pos rfl, p6, if_neg h1, if_pos h2]; rfl
    · rw [eb]
      exact ⟨(SX.sI s0), (funext fun f => by rw [vi_sI_ne _ _ _ _ (by decide)]; exact congrFun s1 f), (by rw [vi_sI_ne _ _ _ _ (by decide)]; exact s2), ⟨(by rw [vi_sI_ne _ _ _ _ (by decide)]; exact a5), (by rw [vi_sI_ne _ _ _ _ (by decide)]; exact a7), (by rw [vi_sI_ne _ _ _ _ (by decide)]; exact a8), (by rw [vi_sI_ne _ _ _ _ (by decide)]; exact a9), (by rw [vi_sI_ne _ _ _ _ (by decide)]; exact a10), (by rw [vi_sI_ne _ _ _ _ (by decide)]; exact a11), (by rw [vi_sI_ne _ _ _ _ (by decide)]; exact a12), (by rw [vi_sI_ne _ _ _ _ (by decide)]; exact a13)⟩, ⟨(funext fun f => by rw [vi_sI_ne _ _ _ _ (by decide)]; exact congrFun b3 f), (funext fun f => by rw [vi_sI, upB]; by_cases z : f = ch - 1; (rw [if_pos z, if_pos z]); (rw [if_neg z, if_neg z]; exact congrFun b4 f)), (funext fun f => by rw [vi_sI_ne _ _ _ _ (by decide)]; exact congrFun b5 f)⟩, (Wr_sI s5 (by decide) (by decide) (by decide)), (by rw [vi_sI_ne _ _ _ _ (by decide)]; exact s6)⟩
  obtain ⟨c2, k1, k2⟩ := key
  exact ⟨c2, rLp_s (by decide) k1 (by decide), k2⟩
theorem ft_snum3 {c : Hp} {b : Nat → Int32} {q ch cm te op no : Nat} {nm sg nu : Int32} {W M N : Nat → Int32} {cd hd : List Int32} {e j : Nat} (s : CS c b q ch cm te op no nm sg nu W M N cd hd) (hq : q ≤ 300) (hk : (tok b e q).2.2.1 = 2) (h1 : (tok b e q).2.2.2 < 1 ∨ 12 < (tok b e q).2.2.2) : CE (rLp e (j + 1) 2 c) 3 (tok b e q).2.1 := by
  have key : ∃ c2, rSt (rdT e c) 2 = rFa c2 3 ∧ vi c2 (1, 0) 4 = nI (tok b e q).2.1 := by
    obtain ⟨t, p4, p5, p6⟩ := CS_t (e := e) s hq
    obtain ⟨s0, s1, s2, ⟨a5, a7, a8, a9, a10, a11, a12, a13⟩, ⟨b3, b4, b5⟩, s5, s6⟩ := t
    generalize rdT e c = d at *
    refine ⟨d, ?_, p4⟩
    show rCn d 3 = _
    unfold rCn; rw [p5, hk, if_pos rfl, p6]
    by_cases z : (tok b e q).2.2.2 < 1
    · rw [if_pos z]
    · rw [if_neg z, if_neg (Int32.not_le.mpr (h1.resolve_left z))]
  obtain ⟨c2, k1, k2⟩ := key
  exact CE_s (by decide) k1 k2 (by first | decide | (split <;> decide))
theorem ft_snum1 {c : Hp} {b : Nat → Int32} {q ch cm te op no : Nat} {nm sg nu : Int32} {W M N : Nat → Int32} {cd hd : List Int32} {e j : Nat} (s : CS c b q ch cm te op no nm sg nu W M N cd hd) (hq : q ≤ 300) (hk : ¬ (tok b e q).2.2.1 = 2) : CE (rLp e (j + 1) 2 c) 1 (tok b e q).2.1 := by
  have key : ∃ c2, rSt (rdT e c) 2 = rFa c2 1 ∧ vi c2 (1, 0) 4 = nI (tok b e q).2.1 := by
    obtain ⟨t, p4, p5, p6⟩ := CS_t (e := e) s hq
    obtain ⟨s0, s1, s2, ⟨a5, a7, a8, a9, a10, a11, a12, a13⟩, ⟨b3, b4, b5⟩, s5, s6⟩ := t
    generalize rdT e c = d at *
    refine ⟨d, ?_, p4⟩
    show rCn d 3 = _
    unfold rCn; rw [p5, if_neg hk]
  obtain ⟨c2, k1, k2⟩ := key
  exact CE_s (by decide) k1 k2 (by first | decide | (split <;> decide))
