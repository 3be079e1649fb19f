theorem st_not {c : Hp} {b : Nat → Int32} {q ch cm te op no : Nat} {nm sg nu : Int32} {W M N : Nat → Int32} {cd hd : List Int32} {e j : Nat} (s : CS c b q ch cm te op no nm sg nu W M N cd hd) (hq : q ≤ 300) (hk : (tok b e q).2.2.1 = 10) (hn : no + 1 ≤ 8) : ∃ c', rLp e (j + 1) 4 c = rLp e j 4 c' ∧ CS c' b (tok b e q).1 ch cm te op (no + 1) nm sg nu W M N cd (aw 10 hd) := by
  have key : ∃ c2, rSt (rdT e c) 4 = (nI 4, c2) ∧ CS c2 b (tok b e q).1 ch cm te op (no + 1) nm sg nu W M N cd (aw 10 hd) := by
    obtain ⟨t, p4, p5, p6⟩ := CS_t (e := e) s hq
    obtain ⟨s0, s1, s2, ⟨a5, a7, a8, a9, a10, a11, a12, a13⟩, ⟨b3, b4, b5⟩, s5, s6⟩ := t
    generalize rdT e c = d at *
    refine ⟨onN d, ?_, ?_⟩
    · show rOn d = _
      have e1 : vi (onN d) (2, 0) 10 = nI (no + 1) := by unfold onN; rw [wHo_o _ _ _ (by decide) (by decide), vi_sI_eq, a10, nI_1]
      unfold rOn; rw [p5, hk, if_pos rfl, e1, if_pos (show nI (no + 1) ≤ 8 from nI_le (b := 8) hn (by decide))]; rfl
    · unfold onN
      exact ⟨(SXho (SX.sI s0) _), (funext fun f => by rw [wHo_o _ _ _ (by decide) (by decide), vi_sI_ne _ _ _ _ (by decide)]; exact congrFun s1 f), (by rw [wHo_o _ _ _ (by decide) (by decide), vi_sI_ne _ _ _ _ (by decide)]; exact s2), ⟨(by rw [wHo_o _ _ _ (by decide) (by decide), vi_sI_nk _ _ _ (by decide)]; exact a5), (by rw [wHo_o _ _ _ (by decide) (by decide), vi_sI_nk _ _ _ (by decide)]; exact a7), (by rw [wHo_o _ _ _ (by decide) (by decide), vi_sI_nk _ _ _ (by decide)]; exact a8), (by rw [wHo_o _ _ _ (by decide) (by decide), vi_sI_nk _ _ _ (by decide)]; exact a9), (by rw [wHo_o _ _ _ (by decide) (by decide), vi_sI_eq]; rw [a10, nI_1]), (by rw [wHo_o _ _ _ (by decide) (by decide), vi_sI_nk _ _ _ (by decide)]; exact a11), (by rw [wHo_o _ _ _ (by decide) (by decide), vi_sI_nk _ _ _ (by decide)]; exact a12), (by rw [wHo_o _ _ _ (by decide) (by decide), vi_sI_nk _ _ _ (by decide)]; exact a13)⟩, ⟨(funext fun f => by rw [wHo_o _ _ _ (by decide) (by decide), vi_sI_ne _ _ _ _ (by decide)]; exact congrFun b3 f), (funext fun f => by rw [wHo_o _ _ _ (by decide) (by decide), vi_sI_ne _ _ _ _ (by decide)]; exact congrFun b4 f), (funext fun f => by rw [wHo_o _ _ _ (by decide) (by decide), vi_sI_ne _ _ _ _ (by decide)]; exact congrFun b5 f)⟩, (Wr_ho (Wr_sI s5 (by decide) (by decide) (by decide)) _), (by rw [wHo_o _ _ _ (by decide) (by decide), vi_sI_nk _ _ _ (by decide)]; exact s6)⟩
  obtain ⟨c2, k1, k2⟩ := key
  exact ⟨c2, rLp_s (by decide) k1 (by decide), k2⟩
theorem ft_not {c : Hp} {b : Nat → Int32} {q ch cm te op no : Nat} {nm sg nu : Int32} {W M N : Nat → Int32} {cd hd : List Int32} {e j : Nat} (s : CS c b q ch cm te op no nm sg nu W M N cd hd) (hq : q ≤ 300) (hk : (tok b e q).2.2.1 = 10) (hn : no = 8) : CE (rLp e (j + 1) 4 c) 4 (tok b e q).2.1 := by
  have key : ∃ c2, rSt (rdT e c) 4 = rFa c2 4 ∧ vi c2 (1, 0) 4 = nI (tok b e q).2.1 := by
    obtain ⟨t, p4, p5, p6⟩ := CS_t (e := e) s hq
    obtain ⟨s0, s1, s2, ⟨a5, a7, a8, a9, a10, a11, a12, a13⟩, ⟨b3, b4, b5⟩, s5, s6⟩ := t
    generalize rdT e c = d at *
    refine ⟨onN d, ?_, ?_⟩
    · show rOn d = _
      have e1 : vi (onN d) (2, 0) 10 = nI (no + 1) := by unfold onN; rw [wHo_o _ _ _ (by decide) (by decide), vi_sI_eq, a10, nI_1]
      unfold rOn; rw [p5, hk, if_pos rfl, e1, hn, if_neg (by decide)]
    · unfold onN; rw [wHo_o _ _ _ (by decide) (by decide), vi_sI_ne _ _ _ _ (by decide)]; exact p4
  obtain ⟨c2, k1, k2⟩ := key
  exact CE_s (by decide) k1 k2 (by first | decide | (split <;> decide))
theorem st_br {c : Hp} {b : Nat → Int32} {q ch cm te op no : Nat} {nm sg nu : Int32} {W M N : Nat → Int32} {cd hd : List Int32} {e j : Nat} (s : CS c b q ch cm te op no nm sg nu W M N cd hd) (hq : q ≤ 300) (hk : (tok b e q).2.2.1 = 40) (hn : op + 1 ≤ 8) : ∃ c', rLp e (j + 1) 4 c = rLp e j 4 c' ∧ CS c' b (tok b e q).1 ch cm te (op + 1) 0 nm sg nu W M N cd (aw 40 hd) := by
  have key : ∃ c2, rSt (rdT e c) 4 = (nI 4, c2) ∧ CS c2 b (tok b e q).1 ch cm te (op + 1) 0 nm sg nu W M N cd (aw 40 hd) := by
    obtain ⟨t, p4, p5, p6⟩ := CS_t (e := e) s hq
    obtain ⟨s0, s1, s2, ⟨a5, a7, a8, a9, a10, a11, a12, a13⟩, ⟨b3, b4, b5⟩, s5, s6⟩ := t
    generalize rdT e c = d at *
    refine ⟨onB d, ?_, ?_⟩
    · show rOn d = _
      have e1 : vi (onB d) (2, 0) 9 = nI (op + 1) := by unfold onB onB0; rw [wHo_o _ _ _ (by decide) (by decide), vi_sI_eq, a9, nI_1]
      unfold rOn; rw [p5, hk, if_neg (by decide), if_pos rfl, e1, if_pos (show nI (op + 1) ≤ 8 from nI_le (b := 8) hn (by decide))]; rfl
    · unfold onB onB0
      exact ⟨(SXho (SX.sI (SX.sI s0)) _), (funext fun f => by rw [wHo_o _ _ _ (by decide) (by decide), vi_sI_ne _ _ _ _ (by decide), vi_sI_ne _ _ _ _ (by decide)]; exact congrFun s1 f), (by rw [wHo_o _ _ _ (by decide) (by decide), vi_sI_ne _ _ _ _ (by decide), vi_sI_ne _ _ _ _ (by decide)]; exact s2), ⟨(by rw [wHo_o _ _ _ (by decide) (by decide), vi_sI_nk _ _ _ (by decide), vi_sI_nk _ _ _ (by decide)]; exact a5), (by rw [wHo_o _ _ _ (by decide) (by decide), vi_sI_nk _ _ _ (by decide), vi_sI_nk _ _ _ (by decide)]; exact a7), (by rw [wHo_o _ _ _ (by decide) (by decide), vi_sI_nk _ _ _ (by decide), vi_sI_nk _ _ _ (by decide)]; exact a8), (by rw [wHo_o _ _ _ (by decide) (by decide), vi_sI_eq]; rw [a9, nI_1]), (by rw [wHo_o _ _ _ (by decide) (by decide), vi_sI_nk _ _ _ (by decide), vi_sI_eq]; rfl), (by rw [wHo_o _ _ _ (by decide) (by decide), vi_sI_nk _ _ _ (by decide), vi_sI_nk _ _ _ (by decide)]; exact a11), (by rw [wHo_o _ _ _ (by decide) (by decide), vi_sI_nk _ _ _ (by decide), vi_sI_nk _ _ _ (by decide)]; exact a12), (by rw [wHo_o _ _ _ (by decide) (by decide), vi_sI_nk _ _ _ (by decide), vi_sI_nk _ _ _ (by decide)]; exact a13)⟩, ⟨(funext fun f => by rw [wHo_o _ _ _ (by decide) (by decide), vi_sI_ne _ _ _ _ (by decide), vi_sI_ne _ _ _ _ (by decide)]; exact congrFun b3 f), (funext fun f => by rw [wHo_o _ _ _ (by decide) (by decide), vi_sI_ne _ _ _ _ (by decide), vi_sI_ne _ _ _ _ (by decide)]; exact congrFun b4 f), (funext fun f => by rw [wHo_o _ _ _ (by decide) (by decide), vi_sI_ne _ _ _ _ (by decide), vi_sI_ne _ _ _ _ (by decide)]; exact congrFun b5 f)⟩, (Wr_ho (Wr_sI (Wr_sI s5 (by decide) (by decide) (by decide)) (by decide) (by decide) (by decide)) _), (by rw [wHo_o _ _ _ (by decide) (by decide), vi_sI_nk _ _ _ (by decide), vi_sI_nk _ _ _ (by decide)]; exact s6)⟩
  obtain ⟨c2, k1, k2⟩ := key
  exact ⟨c2, rLp_s (by decide) k1 (by decide), k2⟩
theorem ft_br {c : Hp} {b : Nat → Int32} {q ch cm te op no : Nat} {nm sg nu : Int32} {W M N : Nat → Int32} {cd hd : List Int32} {e j : Nat} (s : CS c b q ch cm te op no nm sg nu W M N cd hd) (hq : q ≤ 300) (hk : (tok b e q).2.2.1 = 40) (hn : op = 8) : CE (rLp e (j + 1) 4 c) 4 (tok b e q).2.1 := by
  have key : ∃ c2, rSt (rdT e c) 4 = rFa c2 4 ∧ vi c2 (1, 0) 4 = nI (tok b e q).2.1 := by
    obtain ⟨t, p4, p5, p6⟩ := CS_t (e := e) s hq
    obtain ⟨s0, s1, s2, ⟨a5, a7, a8, a9, a10, a11, a12, a13⟩, ⟨b3, b4, b5⟩, s5, s6⟩ := t
    generalize rdT e c = d at *
    refine ⟨onB d, ?_, ?_⟩
    · show rOn d = _
      have e1 : vi (onB d) (2, 0) 9 = nI (op + 1) := by unfold onB onB0; rw [wHo_o _ _ _ (by decide) (by decide), vi_sI_eq, a9, nI_1]
      unfold rOn; rw [p5, hk, if_neg (by decide), if_pos rfl, e1, hn, if_neg (by decide)]
    · unfold onB onB0; rw [wHo_o _ _ _ (by decide) (by decide), vi_sI_ne _ _ _ _ (by decide), vi_sI_ne _ _ _ _ (by decide)]; exact p4
  obtain ⟨c2, k1, k2⟩ := key
  exact CE_s (by decide) k1 k2 (by first | decide | (split <;> decide))
theorem st_name {c : Hp} {b : Nat → Int32} {q ch cm te op no : Nat} {nm sg nu : Int32} {W M N : Nat → Int32} {cd hd : List Int32} {e j : Nat} (s : CS c b q ch cm te op no nm sg nu W M N cd hd) (hq : q ≤ 300) (hk : (tok b e q).2.2.1 = 4) (hn : cm + 1 ≤ 20) : ∃ c', rLp e (j + 1) 4 c = rLp e j 5 c' ∧ CS c' b (tok b e q).1 ch (cm + 1) te op 0 (tok b e q).2.2.2 sg nu W M N cd hd := by
  have key : ∃ c2, rSt (rdT e c) 4 = (nI 5, c2) ∧ CS c2 b (tok b e q).1 ch (cm + 1) te op 0 (tok b e q).2.2.2 sg nu W M N cd hd := by
    obtain ⟨t, p4, p5, p6⟩ := CS_t (e := e) s hq
    obtain ⟨s0, s1, s2, ⟨a5, a7, a8, a9, a10, a11, a12, a13⟩, ⟨b3, b4, b5⟩, s5, s6⟩ := t
    generalize rdT e c = d at *
    refine ⟨onC d, ?_, ?_⟩
    · show rOn d = _
      have e1 : vi (onC d) (2, 0) 7 = nI (cm + 1) := by unfold onC; rw [vi_sI_nk _ _ _ (by decide), vi_sI_eq, a7, nI_1]
      unfold rOn; rw [p5, hk, if_neg (by decide), if_neg (by decide), if_pos rfl, e1, if_pos (show nI (cm + 1) ≤ 20 from nI_le (b := 20) hn (by decide))]; rfl
    · unfold onC
      exact ⟨(SX.sI (SX.sI (SX.sI s0))), (funext fun f => by rw [vi_sI_ne _ _ _ _ (by decide), vi_sI_ne _ _ _ _ (by decide), vi_sI_ne _ _ _ _ (by decide)]; exact congrFun s1 f), (by rw [vi_sI_ne _ _ _ _ (by decide), vi_sI_ne _ _ _ _ (by decide), vi_sI_ne _ _ _ _ (by decide)]; exact s2), ⟨(by rw [vi_sI_nk _ _ _ (by decide), vi_sI_nk _ _ _ (by decide), vi_sI_nk _ _ _ (by decide)]; exact a5), (by rw [vi_sI_nk _ _ _ (by decide), vi_sI_eq]; rw [a7, nI_1]), (by rw [vi_sI_nk _ _ _ (by decide), vi_sI_nk _ _ _ (by decide), vi_sI_nk _ _ _ (by decide)]; exact a8), (by rw [vi_sI_nk _ _ _ (by decide), vi_sI_nk _ _ _ (by decide), vi_sI_nk _ _ _ (by decide)]; exact a9), (by rw [vi_sI_nk _ _ _ (by decide), vi_sI_nk _ _ _ (by decide), vi_sI_eq]; rfl), (by rw [vi_sI_eq]; exact p6), (by rw [vi_sI_nk _ _ _ (by decide), vi_sI_nk _ _ _ (by decide), vi_sI_nk _ _ _ (by decide)]; exact a12), (by rw [vi_sI_nk _ _ _ (by decide), vi_sI_nk _ _ _ (by decide), vi_sI_nk _ _ _ (by decide)]; exact a13)⟩, ⟨(funext fun f => by rw [vi_sI_ne _ _ _ _ (by decide), vi_sI_ne _ _ _ _ (by decide), vi_sI_ne _ _ _ _ (by decide)]; exact congrFun b3 f), (funext fun f => by rw [vi_sI_ne _ _ _ _ (by decide), vi_sI_ne _ _ _ _ (by decide), vi_sI_ne _ _ _ _ (by decide)]; exact congrFun b4 f), (funext fun f => by rw [vi_sI_ne _ _ _ _ (by decide), vi_sI_ne _ _ _ _ (by decide), vi_sI_ne _ _ _ _ (by decide)]; exact congrFun b5 f)⟩, (Wr_sI (Wr_sI (Wr_sI s5 (by decide) (by decide) (by decide)) (by decide) (by decide) (by decide)) (by decide) (by decide) (by decide)), (by rw [vi_sI_nk _ _ _ (by decide), vi_sI_nk _ _ _ (by decide), vi_sI_nk _ _ _ (by decide)]; exact s6)⟩
  obtain ⟨c2, k1, k2⟩ := key
  exact ⟨c2, rLp_s (by decide) k1 (by decide), k2⟩
theorem ft_name {c : Hp} {b : Nat → Int32} {q ch cm te op no : Nat} {nm sg nu : Int32} {W M N : Nat → Int32} {cd hd : List Int32} {e j : Nat} (s : CS c b q ch cm te op no nm sg nu W M N cd hd) (hq : q ≤ 300) (hk : (tok b e q).2.2.1 = 4) (hn : cm = 20) : CE (rLp e (j + 1) 4 c) 4 (tok b e q).2.1 := by
  have key : ∃ c2, rSt (rdT e c) 4 = rFa c2 4 ∧ vi c2 (1, 0) 4 = nI (tok b e q).2.1 := by
    obtain ⟨t, p4, p5, p6⟩ := CS_t (e := e) s hq
    obtain ⟨s0, s1, s2, ⟨a5, a7, a8, a9, a10, a11, a12, a13⟩, ⟨b3, b4, b5⟩, s5, s6⟩ := t
    generalize rdT e c = d at *
    refine ⟨onC d, ?_, ?_⟩
    · show rOn d = _
      have e1 : vi (onC d) (2, 0) 7 = nI (cm + 1) := by unfold onC; rw [vi_sI_nk _ _ _ (by decide), vi_sI_eq, a7, nI_1]
      unfold rOn; rw [p5, hk, if_neg (by decide), if_neg (by decide), if_pos rfl, e1, hn, if_neg (by decide)]
    · unfold onC; rw [vi_sI_ne _ _ _ _ (by decide), vi_sI_ne _ _ _ _ (by decide), vi_sI_ne _ _ _ _ (by decide)]; exact p4
  obtain ⟨c2, k1, k2⟩ := key
  exact CE_s (by decide) k1 k2 (by first | decide | (split <;> decide))
theorem ft_one {c : Hp} {b : Nat → Int32} {q ch cm te op no : Nat} {nm sg nu : Int32} {W M N : Nat → Int32} {cd hd : List Int32} {e j : Nat} (s : CS c b q ch cm te op no nm sg nu W M N cd hd) (hq : q ≤ 300) (h1 : ¬ (tok b e q).2.2.1 = 10) (h2 : ¬ (tok b e q).2.2.1 = 40) (h3 : ¬ (tok b e q).2.2.1 = 4) : CE (rLp e (j + 1) 4 c) (if (tok b e q).2.2.1 = 3 then 2 else 1) (tok b e q).2.1 := by
  have key : ∃ c2, rSt (rdT e c) 4 = rFa c2 (if (tok b e q).2.2.1 = 3 then 2 else 1) ∧ vi c2 (1, 0) 4 = nI (tok b e q).2.1 := by
    obtain ⟨t, p4, p5, p6⟩ := CS_t (e := e) s hq
    obtain ⟨s0, s1, s2, ⟨a5, a7, a8, a9, a10, a11, a12, a13⟩, ⟨b3, b4, b5⟩, s5, s6⟩ := t
    generalize rdT e c = d at *
    refine ⟨d, ?_, p4⟩
    show rOn d = _
    unfold rOn; rw [p5, if_neg h1, if_neg h2, if_neg h3]; unfold rNo; rw [p5]
  obtain ⟨c2, k1, k2⟩ := key
  exact CE_s (by decide) k1 k2 (by first | decide | (split <;> decide))
theorem st_sign {c : Hp} {b : Nat → Int32} {q ch cm te op no : Nat} {nm sg nu : Int32} {W M N : Nat → Int32} {cd hd : List Int32} {e j : Nat} (s : CS c b q ch cm te op no nm sg nu W M N cd hd) (hq : q ≤ 300) (hk : (tok b e q).2.2.1 = 60 ∨ (tok b e q).2.2.1 = 62 ∨ (tok b e q).2.2.1 = 61) : ∃ c', rLp e (j + 1) 5 c = rLp e j 6 c' ∧ CS c' b (tok b e q).1 ch cm te op no nm (tok b e q).2.2.1 nu W M N cd hd := by
  have key : ∃ c2, rSt (rdT e c) 5 = (nI 6, c2) ∧ CS c2 b (tok b e q).1 ch cm te op no nm (tok b e q).2.2.1 nu W M N cd hd := by
    obtain ⟨t, p4, p5, p6⟩ := CS_t (e := e) s hq
    obtain ⟨s0, s1, s2, ⟨a5, a7, a8, a9, a10, a11, a12, a13⟩, ⟨b3, b4, b5⟩, s5, s6⟩ := t
    generalize rdT e c = d at *
    refine ⟨sgH d, ?_, ?_⟩
    · show rSg d = _
      have e1 : vi (sgH d) (2, 0) 12 = (tok b e q).2.2.1 := by unfold sgH; rw [vi_sI_eq, p5]
      unfold rSg; rw [e1]; rcases hk with z | z | z <;> (rw [z]; rfl)
    · unfold sgH
      exact ⟨(SX.sI s0), (funext fun f => by rw [vi_sI_ne _ _ _ _ (by decide)]; exact congrFun s1 f), (by rw [vi_sI_ne _ _ _ _ (by decide)]; exact s2), ⟨(by rw [vi_sI_nk _ _ _ (by decide)]; exact a5), (by rw [vi_sI_nk _ _ _ (by decide)]; exact a7), (by rw [vi_sI_nk _ _ _ (by decide)]; exact a8), (by rw [vi_sI_nk _ _ _ (by decide)]; exact a9), (by rw [vi_sI_nk _ _ _ (by decide)]; exact a10), (by rw [vi_sI_nk _ _ _ (by decide)]; exact a11), (by rw [vi_sI_eq]; exact p5), (by rw [vi_sI_nk _ _ _ (by decide)]; exact a13)⟩, ⟨(funext fun f => by rw [vi_sI_ne _ _ _ _ (by decide)]; exact congrFun b3 f), (funext fun f => by rw [vi_sI_ne _ _ _ _ (by decide)]; exact congrFun b4 f), (funext fun f => by rw [vi_sI_ne _ _ _ _ (by decide)]; exact congrFun b5 f)⟩, (Wr_sI s5 (by decide) (by decide) (by decide)), (by rw [vi_sI_nk _ _ _ (by decide)]; exact s6)⟩
  obtain ⟨c2, k1, k2⟩ := key
  exact ⟨c2, rLp_s (by decide) k1 (by decide), k2⟩
theorem ft_sign {c : Hp} {b : Nat → Int32} {q ch cm te op no : Nat} {nm sg nu : Int32} {W M N : Nat → Int32} {cd hd : List Int32} {e j : Nat} (s : CS c b q ch cm te op no nm sg nu W M N cd hd) (hq : q ≤ 300) (hk : ¬ ((tok b e q).2.2.1 = 60 ∨ (tok b e q).2.2.1 = 62 ∨ (tok b e q).2.2.1 = 61)) : CE (rLp e (j + 1) 5 c) 1 (tok b e q).2.1 := by
  have key : ∃ c2, rSt (rdT e c) 5 = rFa c2 1 ∧ vi c2 (1, 0) 4 = nI (tok b e q).2.1 := by
    obtain ⟨t, p4, p5, p6⟩ := CS_t (e := e) s hq
    obtain ⟨s0, s1, s2, ⟨a5, a7, a8, a9, a10, a11, a12, a13⟩, ⟨b3, b4, b5⟩, s5, s6⟩ := t
    generalize rdT e c = d at *
    refine ⟨sgH d, ?_, ?_⟩
    · show rSg d = _
      have e1 : vi (sgH d) (2, 0) 12 = (tok b e q).2.2.1 := by unfold sgH; rw [vi_sI_eq, p5]
      unfold rSg; rw [e1, if_neg (fun z => hk (Or.inl z)), if_neg (fun z => hk (Or.inr (Or.inl z))), if_neg (fun z => hk (Or.inr (Or.inr z)))]
    · unfold sgH; rw [vi_sI_ne _ _ _ _ (by decide)]; exact p4
  obtain ⟨c2, k1, k2⟩ := key
  exact CE_s (by decide) k1 k2 (by first | decide | (split <;> decide))
theorem st_value {c : Hp} {b : Nat → Int32} {q ch cm te op no : Nat} {nm sg nu : Int32} {W M N : Nat → Int32} {cd hd : List Int32} {e j : Nat} (s : CS c b q ch cm te op no nm sg nu W M N cd hd) (hq : q ≤ 300) (hk : (tok b e q).2.2.1 = 2) : ∃ c', rLp e (j + 1) 6 c = rLp e j 7 c' ∧ CS c' b (tok b e q).1 ch cm te op no nm sg nu W M N (aRel 10 hd (aw (xMk sg nm (tok b e q).2.2.2) cd)).2 (aRel 10 hd (aw (xMk sg nm (tok b e q).2.2.2) cd)).1 := by
  have key : ∃ c2, rSt (rdT e c) 6 = (nI 7, c2) ∧ CS c2 b (tok b e q).1 ch cm te op no nm sg nu W M N (aRel 10 hd (aw (xMk sg nm (tok b e q).2.2.2) cd)).2 (aRel 10 hd (aw (xMk sg nm (tok b e q).2.2.2) cd)).1 := by
    obtain ⟨t, p4, p5, p6⟩ := CS_t (e := e) s hq
    obtain ⟨s0, s1, s2, ⟨a5, a7, a8, a9, a10, a11, a12, a13⟩, ⟨b3, b4, b5⟩, s5, s6⟩ := t
    generalize rdT e c = d at *
    refine ⟨wRel (vaH d) 10, ?_, ?_⟩
    · show rVa d = _
      unfold rVa; rw [p5, hk, if_pos rfl]; rfl
    · unfold vaH; rw [a12, a11, p6]
      exact ⟨(wRel_ok (SXwr s0 _) (WIwr ⟨⟨_, s5.2.1, s5.1⟩, _, s5.2.2.2.1, s5.2.2.1⟩ _) _).1, (funext fun f => by rw [wRel_o _ _ _ (by decide) (by decide), wWr_o _ _ _ (by decide) (by decide)]; exact congrFun s1 f), (by rw [wRel_o _ _ _ (by decide) (by decide), wWr_o _ _ _ (by decide) (by decide)]; exact s2), ⟨(by rw [wRel_o _ _ _ (by decide) (by decide), wWr_o _ _ _ (by decide) (by decide)]; exact a5), (by rw [wRel_o _ _ _ (by decide) (by decide), wWr_o _ _ _ (by decide) (by decide)]; exact a7), (by rw [wRel_o _ _ _ (by decide) (by decide), wWr_o _ _ _ (by decide) (by decide)]; exact a8), (by rw [wRel_o _ _ _ (by decide) (by decide), wWr_o _ _ _ (by decide) (by decide)]; exact a9), (by rw [wRel_o _ _ _ (by decide) (by decide), wWr_o _ _ _ (by decide) (by decide)]; exact a10), (by rw [wRel_o _ _ _ (by decide) (by decide), wWr_o _ _ _ (by decide) (by decide)]; exact a11), (by rw [wRel_o _ _ _ (by decide) (by decide), wWr_o _ _ _ (by decide) (by decide)]; exact a12), (by rw [wRel_o _ _ _ (by decide) (by decide), wWr_o _ _ _ (by decide) (by decide)]; exact a13)⟩, ⟨(funext fun f => by rw [wRel_o _ _ _ (by decide) (by decide), wWr_o _ _ _ (by decide) (by decide)]; exact congrFun b3 f), (funext fun f => by rw [wRel_o _ _ _ (by decide) (by decide), wWr_o _ _ _ (by decide) (by decide)]; exact congrFun b4 f), (funext fun f => by rw [wRel_o _ _ _ (by decide) (by decide), wWr_o _ _ _ (by decide) (by decide)]; exact congrFun b5 f)⟩, (Wr_rel (Wr_wr s5 _) _), (by rw [wRel_o _ _ _ (by decide) (by decide), wWr_o _ _ _ (by decide) (by decide)]; exact s6)⟩
  obtain ⟨c2, k1, k2⟩ := key
  exact ⟨c2, rLp_s (by decide) k1 (by decide), k2⟩
theorem ft_value {c : Hp} {b : Nat → Int32} {q ch cm te op no : Nat} {nm sg nu : Int32} {W M N : Nat → Int32} {cd hd : List Int32} {e j : Nat} (s : CS c b q ch cm te op no nm sg nu W M N cd hd) (hq : q ≤ 300) (hk : ¬ (tok b e q).2.2.1 = 2) : CE (rLp e (j + 1) 6 c) 1 (tok b e q).2.1 := by
  have key : ∃ c2, rSt (rdT e c) 6 = rFa c2 1 ∧ vi c2 (1, 0) 4 = nI (tok b e q).2.1 := by
    obtain ⟨t, p4, p5, p6⟩ := CS_t (e := e) s hq
    obtain ⟨s0, s1, s2, ⟨a5, a7, a8, a9, a10, a11, a12, a13⟩, ⟨b3, b4, b5⟩, s5, s6⟩ := t
    generalize rdT e c = d at *
    refine ⟨d, ?_, p4⟩
    show rVa d = _
    unfold rVa; rw [p5, if_neg hk]
  obtain ⟨c2, k1, k2⟩ := key
  exact CE_s (by decide) k1 k2 (by first | decide | (split <;> decide))
theorem st_and {c : Hp} {b : Nat → Int32} {q ch cm te op no : Nat} {nm sg nu : Int32} {W M N : Nat → Int32} {cd hd : List Int32} {e j : Nat} (s : CS c b q ch cm te op no nm sg nu W M N cd hd) (hq : q ≤ 300) (hk : (tok b e q).2.2.1 = 9) : ∃ c', rLp e (j + 1) 7 c = rLp e j 4 c' ∧ CS c' b (tok b e q).1 ch cm te op no nm sg nu W M N (aRel 9 hd cd).2 (aw 9 (aRel 9 hd cd).1) := by
  have key : ∃ c2, rSt (rdT e c) 7 = (nI 4, c2) ∧ CS c2 b (tok b e q).1 ch cm te op no nm sg nu W M N (aRel 9 hd cd).2 (aw 9 (aRel 9 hd cd).1) := by
    obtain ⟨t, p4, p5, p6⟩ := CS_t (e := e) s hq
    obtain ⟨s0, s1, s2, ⟨a5, a7, a8, a9, a10, a11, a12, a13⟩, ⟨b3, b4, b5⟩, s5, s6⟩ := t
    generalize rdT e c = d at *
    refine ⟨wHo (wRel d 9) 9, ?_, ?_⟩
    · show rBo d = _
      unfold rBo; rw [p5, hk]; rfl
    · exact ⟨(SXho (wRel_ok s0 ⟨⟨_, s5.2.1, s5.1⟩, _, s5.2.2.2.1, s5.2.2.1⟩ _).1 _), (funext fun f => by rw [wHo_o _ _ _ (by decide) (by decide), wRel_o _ _ _ (by decide) (by decide)]; exact congrFun s1 f), (by rw [wHo_o _ _ _ (by decide) (by decide), wRel_o _ _ _ (by decide) (by decide)]; exact s2), ⟨(by rw [wHo_o _ _ _ (by decide) (by decide), wRel_o _ _ _ (by decide) (by decide)]; exact a5), (by rw [wHo_o _ _ _ (by decide) (by decide), wRel_o _ _ _ (by decide) (by decide)]; exact a7), (by rw [wHo_o _ _ _ (by decide) (by decide), wRel_o _ _ _ (by decide) (by decide)]; exact a8), (by rw [wHo_o _ _ _ (by decide) (by decide), wRel_o _ _ _ (by decide) (by decide)]; exact a9), (by rw [wHo_o _ _ _ (by decide) (by decide), wRel_o _ _ _ (by decide) (by decide)]; exact a10), (by rw [wHo_o _ _ _ (by decide) (by decide), wRel_o _ _ _ (by decide) (by decide)]; exact a11), (by rw [wHo_o _ _ _ (by decide) (by decide), wRel_o _ _ _ (by decide) (by decide)]; exact a12), (by rw [wHo_o _ _ _ (by decide) (by decide), wRel_o _ _ _ (by decide) (by decide)]; exact a13)⟩, ⟨(funext fun f => by rw [wHo_o _ _ _ (by decide) (by decide), wRel_o _ _ _ (by decide) (by decide)]; exact congrFun b3 f), (funext fun f => by rw [wHo_o _ _ _ (by decide) (by decide), wRel_o _ _ _ (by decide) (by decide)]; exact congrFun b4 f), (funext fun f => by rw [wHo_o _ _ _ (by decide) (by decide), wRel_o _ _ _ (by decide) (by decide)]; exact congrFun b5 f)⟩, (Wr_ho (Wr_rel s5 _) _), (by rw [wHo_o _ _ _ (by decide) (by decide), wRel_o _ _ _ (by decide) (by decide)]; exact s6)⟩
  obtain ⟨c2, k1, k2⟩ := key
  exact ⟨c2, rLp_s (by decide) k1 (by decide), k2⟩
theorem st_or {c : Hp} {b : Nat → Int32} {q ch cm te op no : Nat} {nm sg nu : Int32} {W M N : Nat → Int32} {cd hd : List Int32} {e j : Nat} (s : CS c b q ch cm te op no nm sg nu W M N cd hd) (hq : q ≤ 300) (hk : (tok b e q).2.2.1 = 8) : ∃ c', rLp e (j + 1) 7 c = rLp e j 4 c' ∧ CS c' b (tok b e q).1 ch cm te op no nm sg nu W M N (aRel 9 hd cd).2 (aw 8 (aRel 9 hd cd).1) := by
  have key : ∃ c2, rSt (rdT e c) 7 = (nI 4, c2) ∧ CS c2 b (tok b e q).1 ch cm te op no nm sg nu W M N (aRel 9 hd cd).2 (aw 8 (aRel 9 hd cd).1) := by
    obtain ⟨t, p4, p5, p6⟩ := CS_t (e := e) s hq
    obtain ⟨s0, s1, s2, ⟨a5, a7, a8, a9, a10, a11, a12, a13⟩, ⟨b3, b4, b5⟩, s5, s6⟩ := t
    generalize rdT e c = d at *
    refine ⟨wHo (wRel d 9) 8, ?_, ?_⟩
    · show rBo d = _
      unfold rBo; rw [p5, hk]; rfl
    · exact ⟨(SXho (wRel_ok s0 ⟨⟨_, s5.2.1, s5.1⟩, _, s5.2.2.2.1, s5.2.2.1⟩ _).1 _), (funext fun f => by rw [wHo_o _ _ _ (by decide) (by decide), wRel_o _ _ _ (by decide) (by decide)]; exact congrFun s1 f), (by rw [wHo_o _ _ _ (by decide) (by decide), wRel_o _ _ _ (by decide) (by decide)]; exact s2), ⟨(by rw [wHo_o _ _ _ (by decide) (by decide), wRel_o _ _ _ (by decide) (by decide)]; exact a5), (by rw [wHo_o _ _ _ (by decide) (by decide), wRel_o _ _ _ (by decide) (by decide)]; exact a7), (by rw [wHo_o _ _ _ (by decide) (by decide), wRel_o _ _ _ (by decide) (by decide)]; exact a8), (by rw [wHo_o _ _ _ (by decide) (by decide), wRel_o _ _ _ (by decide) (by decide)]; exact a9), (by rw [wHo_o _ _ _ (by decide) (by decide), wRel_o _ _ _ (by decide) (by decide)]; exact a10), (by rw [wHo_o _ _ _ (by decide) (by decide), wRel_o _ _ _ (by decide) (by decide)]; exact a11), (by rw [wHo_o _ _ _ (by decide) (by decide), wRel_o _ _ _ (by decide) (by decide)]; exact a12), (by rw [wHo_o _ _ _ (by decide) (by decide), wRel_o _ _ _ (by decide) (by decide)]; exact a13)⟩, ⟨(funext fun f => by rw [wHo_o _ _ _ (by decide) (by decide), wRel_o _ _ _ (by decide) (by decide)]; exact congrFun b3 f), (funext fun f => by rw [wHo_o _ _ _ (by decide) (by decide), wRel_o _ _ _ (by decide) (by decide)]; exact congrFun b4 f), (funext fun f => by rw [wHo_o _ _ _ (by decide) (by decide), wRel_o _ _ _ (by decide) (by decide)]; exact congrFun b5 f)⟩, (Wr_ho (Wr_rel s5 _) _), (by rw [wHo_o _ _ _ (by decide) (by decide), wRel_o _ _ _ (by decide) (by decide)]; exact s6)⟩
  obtain ⟨c2, k1, k2⟩ := key
  exact ⟨c2, rLp_s (by decide) k1 (by decide), k2⟩
def aEa (hd cd : List Int32) : List Int32 × List Int32 := aRel 8 (aRel 9 hd cd).1 (aRel 9 hd cd).2
def aCb (hd cd : List Int32) : List Int32 × List Int32 := aRel 10 (aEa hd cd).1.tail (aEa hd cd).2
theorem Wr_ea {c : Hp} {cd hd : List Int32} (w : Wr c cd hd) : Wr (wEa c) (aEa hd cd).2 (aEa hd cd).1 := Wr_rel (Wr_rel w 9) 8
theorem Wr_cb {c : Hp} {cd hd : List Int32} (w : Wr c cd hd) : Wr (wCb c) (aCb hd cd).2 (aCb hd cd).1 := Wr_rel (Wr_pop (Wr_ea w)) 10
theorem Wr_wi {c : Hp} {cd hd : List Int32} (w : Wr c cd hd) : WI c := ⟨⟨_, w.2.1, w.1⟩, _, w.2.2.2.1, w.2.2.1⟩
theorem st_close {c : Hp} {b : Nat → Int32} {q ch cm te op no : Nat} {nm sg nu : Int32} {W M N : Nat → Int32} {cd hd : List Int32} {e j : Nat} (s : CS c b q ch cm te op no nm sg nu W M N cd hd) (hq : q ≤ 300) (hk : (tok b e q).2.2.1 = 41) (ho : 1 ≤ op) (ho8 : op ≤ 8) : ∃ c', rLp e (j + 1) 7 c = rLp e j 7 c' ∧ CS c' b (tok b e q).1 ch cm te (op - 1) no nm sg nu W M N (aCb hd cd).2 (aCb hd cd).1 := by
  have key : ∃ c2, rSt (rdT e c) 7 = (nI 7, c2) ∧ CS c2 b (tok b e q).1 ch cm te (op - 1) no nm sg nu W M N (aCb hd cd).2 (aCb hd cd).1 := by
    obtain ⟨t, p4, p5, p6⟩ := CS_t (e := e) s hq
    obtain ⟨s0, s1, s2, ⟨a5, a7, a8, a9, a10, a11, a12, a13⟩, ⟨b3, b4, b5⟩, s5, s6⟩ := t
    generalize rdT e c = d at *
    have o0 : ¬ vi d (2, 0) 9 = 0 := by rw [a9]; exact nI_ne0 (by omega) (by omega)
    refine ⟨wCb (sI d (2, 0) 9 (vi d (2, 0) 9 - 1)), ?_, ?_⟩
    · show rBo d = _
      unfold rBo; rw [p5, hk, if_neg (by decide), if_neg (by decide), if_neg o0, if_pos rfl]; rfl
    · have w1 := Wr_sI s5 (a := (2, 0)) (k := 9) (x := vi d (2, 0) 9 - 1) (by decide) (by decide) (by decide)
      exact ⟨(wCb_ok (SX.sI s0) (Wr_wi w1)).1, (funext fun f => by rw [wCb_o _ _ (by decide) (by decide), vi_sI_ne _ _ _ _ (by decide)]; exact congrFun s1 f), (by rw [wCb_o _ _ (by decide) (by decide), vi_sI_ne _ _ _ _ (by decide)]; exact s2), ⟨(by rw [wCb_o _ _ (by decide) (by decide), vi_sI_nk _ _ _ (by decide)]; exact a5), (by rw [wCb_o _ _ (by decide) (by decide), vi_sI_nk _ _ _ (by decide)]; exact a7), (by rw [wCb_o _ _ (by decide) (by decide), vi_sI_nk _ _ _ (by decide)]; exact a8), (by rw [wCb_o _ _ (by decide) (by decide), vi_sI_eq]; rw [a9, show nI op = nI (op - 1 + 1) by rw [show op - 1 + 1 = op by omega], nI_pred]), (by rw [wCb_o _ _ (by decide) (by decide), vi_sI_nk _ _ _ (by decide)]; exact a10), (by rw [wCb_o _ _ (by decide) (by decide), vi_sI_nk _ _ _ (by decide)]; exact a11), (by rw [wCb_o _ _ (by decide) (by decide), vi_sI_nk _ _ _ (by decide)]; exact a12), (by rw [wCb_o _ _ (by decide) (by decide), vi_sI_nk _ _ _ (by decide)]; exact a13)⟩, ⟨(funext fun f => by rw [wCb_o _ _ (by decide) (by decide), vi_sI_ne _ _ _ _ (by decide)]; exact congrFun b3 f), (funext fun f => by rw [wCb_o _ _ (by decide) (by decide), vi_sI_ne _ _ _ _ (by decide)]; exact congrFun b4 f), (funext fun f => by rw [wCb_o _ _ (by decide) (by decide), vi_sI_ne _ _ _ _ (by decide)]; exact congrFun b5 f)⟩, (Wr_cb w1), (by rw [wCb_o _ _ (by decide) (by decide), vi_sI_nk _ _ _ (by decide)]; exact s6)⟩
  obtain ⟨c2, k1, k2⟩ := key
  exact ⟨c2, rLp_s (by decide) k1 (by decide), k2⟩
theorem ft_close {c : Hp} {b : Nat → Int32} {q ch cm te op no : Nat} {nm sg nu : Int32} {W M N : Nat → Int32} {cd hd : List Int32} {e j : Nat} (s : CS c b q ch cm te op no nm sg nu W M N cd hd) (hq : q ≤ 300) (h1 : ¬ (tok b e q).2.2.1 = 9) (h2 : ¬ (tok b e q).2.2.1 = 8) (h3 : ¬ (tok b e q).2.2.1 = 41) (ho : 1 ≤ op) (ho8 : op ≤ 8) : CE (rLp e (j + 1) 7 c) 1 (tok b e q).2.1 := by
  have key : ∃ c2, rSt (rdT e c) 7 = rFa c2 1 ∧ vi c2 (1, 0) 4 = nI (tok b e q).2.1 := by
    obtain ⟨t, p4, p5, p6⟩ := CS_t (e := e) s hq
    obtain ⟨s0, s1, s2, ⟨a5, a7, a8, a9, a10, a11, a12, a13⟩, ⟨b3, b4, b5⟩, s5, s6⟩ := t
    generalize rdT e c = d at *
    have o0 : ¬ vi d (2, 0) 9 = 0 := by rw [a9]; exact nI_ne0 (by omega) (by omega)
    refine ⟨d, ?_, p4⟩
    show rBo d = _
    unfold rBo; rw [p5, if_neg h1, if_neg h2, if_neg o0, if_neg h3]
  obtain ⟨c2, k1, k2⟩ := key
  exact CE_s (by decide) k1 k2 (by first | decide | (split <;> decide))
theorem st_ch_semi {c : Hp} {b : Nat → Int32} {q ch cm te op no : Nat} {nm sg nu : Int32} {W M N : Nat → Int32} {cd hd : List Int32} {e j : Nat} (s : CS c b q ch cm te op no nm sg nu W M N cd hd) (hq : q ≤ 300) (hc : 1 ≤ ch ∧ ch ≤ 12)  (hk : (tok b e q).2.2.1 = 59) : ∃ c', rLp e (j + 1) 3 c = rLp e j 0 c' ∧ CS c' b (tok b e q).1 ch cm te op no nm sg nu W M (fun i => if i = ch - 1 then nI cd.length else N i) cd hd := by
  have key : ∃ c2, rSt (rdT e c) 3 = (nI 0, c2) ∧ CS c2 b (tok b e q).1 ch cm te op no nm sg nu W M (fun i => if i = ch - 1 then nI cd.length else N i) cd hd := by
    obtain ⟨t, p4, p5, p6⟩ := CS_t (e := e) s hq
    obtain ⟨s0, s1, s2, ⟨a5, a7, a8, a9, a10, a11, a12, a13⟩, ⟨b3, b4, b5⟩, s5, s6⟩ := t
    generalize rdT e c = d at *
    have w1 : Wr (d) cd hd := s5
    have e5 : vi (d) (2, 0) 5 = nI ch := a5
    have k5 : vi (d) (1, 0) 5 = (tok b e q).2.2.1 := p5
    have eb : bcH (d) = sI (d) (13, 5) (ch - 1) (nI cd.length) := by unfold bcH; rw [e5, if_neg (nI_nle (by omega) (by omega)), show nI ch = nI (ch - 1 + 1) by rw [show ch - 1 + 1 = ch by omega], nI_pred, nI_clamp (by omega), w1.1]
    refine ⟨bcH (d), ?_, ?_⟩
    · show rBc d = _
      unfold rBc; rw [k5, hk, if_pos rfl]; unfold rBc1; rw [eb, vi_sI_ne _ _ _ _ (by decide), k5, hk]; rfl
    · rw [eb]
      exact ⟨(SX.sI s0), (funext fun f => by rw [vi_sI_ne _ _ _ _ (by decide)]; exact congrFun s1 f), (by rw [vi_sI_ne _ _ _ _ (by decide)]; exact s2), ⟨(by rw [vi_sI_ne _ _ _ _ (by decide)]; exact a5), (by rw [vi_sI_ne _ _ _ _ (by decide)]; exact a7), (by rw [vi_sI_ne _ _ _ _ (by decide)]; exact a8), (by rw [vi_sI_ne _ _ _ _ (by decide)]; exact a9), (by rw [vi_sI_ne _ _ _ _ (by decide)]; exact a10), (by rw [vi_sI_ne _ _ _ _ (by decide)]; exact a11), (by rw [vi_sI_ne _ _ _ _ (by decide)]; exact a12), (by rw [vi_sI_ne _ _ _ _ (by decide)]; exact a13)⟩, ⟨(funext fun f => by rw [vi_sI_ne _ _ _ _ (by decide)]; exact congrFun b3 f), (funext fun f => by rw [vi_sI_ne _ _ _ _ (by decide)]; exact congrFun b4 f), (funext fun f => by rw [vi_sI, upB]; by_cases z : f = ch - 1; (rw [if_pos z, if_pos z]); (rw [if_neg z, if_neg z]; exact congrFun b5 f))⟩, (Wr_sI w1 (by decide) (by decide) (by decide)), (by rw [vi_sI_ne _ _ _ _ (by decide)]; exact s6)⟩
  obtain ⟨c2, k1, k2⟩ := key
  exact ⟨c2, rLp_s (by decide) k1 (by decide), k2⟩
theorem st_ch_end {c : Hp} {b : Nat → Int32} {q ch cm te op no : Nat} {nm sg nu : Int32} {W M N : Nat → Int32} {cd hd : List Int32} {e j : Nat} (s : CS c b q ch cm te op no nm sg nu W M N cd hd) (hq : q ≤ 300) (hc : 1 ≤ ch ∧ ch ≤ 12)  (hk : (tok b e q).2.2.1 = 0) : ∃ c', rLp e (j + 1) 3 c = rLp e j 12 c' ∧ CS c' b (tok b e q).1 ch cm te op no nm sg nu W M (fun i => if i = ch - 1 then nI cd.length else N i) cd hd := by
  have key : ∃ c2, rSt (rdT e c) 3 = (nI 12, c2) ∧ CS c2 b (tok b e q).1 ch cm te op no nm sg nu W M (fun i => if i = ch - 1 then nI cd.length else N i) cd hd := by
    obtain ⟨t, p4, p5, p6⟩ := CS_t (e := e) s hq
    obtain ⟨s0, s1, s2, ⟨a5, a7, a8, a9, a10, a11, a12, a13⟩, ⟨b3, b4, b5⟩, s5, s6⟩ := t
    generalize rdT e c = d at *
    have w1 : Wr (d) cd hd := s5
    have e5 : vi (d) (2, 0) 5 = nI ch := a5
    have k5 : vi (d) (1, 0) 5 = (tok b e q).2.2.1 := p5
    have eb : bcH (d) = sI (d) (13, 5) (ch - 1) (nI cd.length) := by unfold bcH; rw [e5, if_neg (nI_nle (by omega) (by omega)), show nI ch = nI (ch - 1 + 1) by rw [show ch - 1 + 1 = ch by omega], nI_pred, nI_clamp (by omega), w1.1]
    refine ⟨bcH (d), ?_, ?_⟩
    · show rBc d = _
      unfold rBc; rw [k5, hk, if_neg (by decide), if_pos rfl]; unfold rBc1; rw [eb, vi_sI_ne _ _ _ _ (by decide), k5, hk]; rfl
    · rw [eb]
      exact ⟨(SX.sI s0), (funext fun f => by rw [vi_sI_ne _ _ _ _ (by decide)]; exact congrFun s1 f), (by rw [vi_sI_ne _ _ _ _ (by decide)]; exact s2), ⟨(by rw [vi_sI_ne _ _ _ _ (by decide)]; exact a5), (by rw [vi_sI_ne _ _ _ _ (by decide)]; exact a7), (by rw [vi_sI_ne _ _ _ _ (by decide)]; exact a8), (by rw [vi_sI_ne _ _ _ _ (by decide)]; exact a9), (by rw [vi_sI_ne _ _ _ _ (by decide)]; exact a10), (by rw [vi_sI_ne _ _ _ _ (by decide)]; exact a11), (by rw [vi_sI_ne _ _ _ _ (by decide)]; exact a12), (by rw [vi_sI_ne _ _ _ _ (by decide)]; exact a13)⟩, ⟨(funext fun f => by rw [vi_sI_ne _ _ _ _ (by decide)]; exact congrFun b3 f), (funext fun f => by rw [vi_sI_ne _ _ _ _ (by decide)]; exact congrFun b4 f), (funext fun f => by rw [vi_sI, upB]; by_cases z : f = ch - 1; (rw [if_pos z, if_pos z]); (rw [if_neg z, if_neg z]; exact congrFun b5 f))⟩, (Wr_sI w1 (by decide) (by decide) (by decide)), (by rw [vi_sI_ne _ _ _ _ (by decide)]; exact s6)⟩
  obtain ⟨c2, k1, k2⟩ := key
  exact ⟨c2, rLp_s (by decide) k1 (by decide), k2⟩
theorem ft_ch_else {c : Hp} {b : Nat → Int32} {q ch cm te op no : Nat} {nm sg nu : Int32} {W M N : Nat → Int32} {cd hd : List Int32} {e j : Nat} (s : CS c b q ch cm te op no nm sg nu W M N cd hd) (hq : q ≤ 300)  (n1 : ¬ (tok b e q).2.2.1 = 59) (n2 : ¬ (tok b e q).2.2.1 = 0) : CE (rLp e (j + 1) 3 c) 1 (tok b e q).2.1 := by
  have key : ∃ c2, rSt (rdT e c) 3 = rFa c2 1 ∧ vi c2 (1, 0) 4 = nI (tok b e q).2.1 := by
    obtain ⟨t, p4, p5, p6⟩ := CS_t (e := e) s hq
    obtain ⟨s0, s1, s2, ⟨a5, a7, a8, a9, a10, a11, a12, a13⟩, ⟨b3, b4, b5⟩, s5, s6⟩ := t
    generalize rdT e c = d at *
    have k5 : vi (d) (1, 0) 5 = (tok b e q).2.2.1 := p5
    refine ⟨d, ?_, p4⟩
    show rBc d = _
    unfold rBc; rw [k5, if_neg n1, if_neg n2]
  obtain ⟨c2, k1, k2⟩ := key
  exact CE_s (by decide) k1 k2 (by first | decide | (split <;> decide))
theorem st_any_semi {c : Hp} {b : Nat → Int32} {q ch cm te op no : Nat} {nm sg nu : Int32} {W M N : Nat → Int32} {cd hd : List Int32} {e j : Nat} (s : CS c b q ch cm te op no nm sg nu W M N cd hd) (hq : q ≤ 300) (hc : 1 ≤ ch ∧ ch ≤ 12) (ho : op = 0) (hk : (tok b e q).2.2.1 = 59) : ∃ c', rLp e (j + 1) 7 c = rLp e j 0 c' ∧ CS c' b (tok b e q).1 ch cm te op no nm sg nu W M (fun i => if i = ch - 1 then nI (aEa hd cd).2.length else N i) (aEa hd cd).2 (aEa hd cd).1 := by
  have key : ∃ c2, rSt (rdT e c) 7 = (nI 0, c2) ∧ CS c2 b (tok b e q).1 ch cm te op no nm sg nu W M (fun i => if i = ch - 1 then nI (aEa hd cd).2.length else N i) (aEa hd cd).2 (aEa hd cd).1 := by
    obtain ⟨t, p4, p5, p6⟩ := CS_t (e := e) s hq
    obtain ⟨s0, s1, s2, ⟨a5, a7, a8, a9, a10, a11, a12, a13⟩, ⟨b3, b4, b5⟩, s5, s6⟩ := t
    generalize rdT e c = d at *
    have w1 : Wr (wEa d) (aEa hd cd).2 (aEa hd cd).1 := (Wr_ea s5)
    have e5 : vi (wEa d) (2, 0) 5 = nI ch := (by rw [wEa_o _ _ (by decide) (by decide)]; exact a5)
    have k5 : vi (wEa d) (1, 0) 5 = (tok b e q).2.2.1 := (by rw [wEa_o _ _ (by decide) (by decide)]; exact p5)
    have eb : bcH (wEa d) = sI (wEa d) (13, 5) (ch - 1) (nI (aEa hd cd).2.length) := by unfold bcH; rw [e5, if_neg (nI_nle (by omega) (by omega)), show nI ch = nI (ch - 1 + 1) by rw [show ch - 1 + 1 = ch by omega], nI_pred, nI_clamp (by omega), w1.1]
    refine ⟨bcH (wEa d), ?_, ?_⟩
    · show rBo d = _
      unfold rBo; rw [p5, hk, if_neg (by decide), if_neg (by decide), if_pos (by rw [a9, ho]; rfl)]
      unfold rBc; rw [k5, hk, if_pos rfl]; unfold rBc1; rw [eb, vi_sI_ne _ _ _ _ (by decide), k5, hk]; rfl
    · rw [eb]
      exact ⟨(SX.sI (wEa_ok s0 (Wr_wi s5)).1), (funext fun f => by rw [vi_sI_ne _ _ _ _ (by decide), wEa_o _ _ (by decide) (by decide)]; exact congrFun s1 f), (by rw [vi_sI_ne _ _ _ _ (by decide), wEa_o _ _ (by decide) (by decide)]; exact s2), ⟨(by rw [vi_sI_ne _ _ _ _ (by decide), wEa_o _ _ (by decide) (by decide)]; exact a5), (by rw [vi_sI_ne _ _ _ _ (by decide), wEa_o _ _ (by decide) (by decide)]; exact a7), (by rw [vi_sI_ne _ _ _ _ (by decide), wEa_o _ _ (by decide) (by decide)]; exact a8), (by rw [vi_sI_ne _ _ _ _ (by decide), wEa_o _ _ (by decide) (by decide)]; exact a9), (by rw [vi_sI_ne _ _ _ _ (by decide), wEa_o _ _ (by decide) (by decide)]; exact a10), (by rw [vi_sI_ne _ _ _ _ (by decide), wEa_o _ _ (by decide) (by decide)]; exact a11), (by rw [vi_sI_ne _ _ _ _ (by decide), wEa_o _ _ (by decide) (by decide)]; exact a12), (by rw [vi_sI_ne _ _ _ _ (by decide), wEa_o _ _ (by decide) (by decide)]; exact a13)⟩, ⟨(funext fun f => by rw [vi_sI_ne _ _ _ _ (by decide), wEa_o _ _ (by decide) (by decide)]; exact congrFun b3 f), (funext fun f => by rw [vi_sI_ne _ _ _ _ (by decide), wEa_o _ _ (by decide) (by decide)]; exact congrFun b4 f), (funext fun f => by rw [vi_sI, upB]; by_cases z : f = ch - 1; (rw [if_pos z, if_pos z]); (rw [if_neg z, if_neg z, wEa_o _ _ (by decide) (by decide)]; exact congrFun b5 f))⟩, (Wr_sI w1 (by decide) (by decide) (by decide)), (by rw [vi_sI_ne _ _ _ _ (by decide), wEa_o _ _ (by decide) (by decide)]; exact s6)⟩
  obtain ⟨c2, k1, k2⟩ := key
  exact ⟨c2, rLp_s (by decide) k1 (by decide), k2⟩
theorem st_any_end {c : Hp} {b : Nat → Int32} {q ch cm te op no : Nat} {nm sg nu : Int32} {W M N : Nat → Int32} {cd hd : List Int32} {e j : Nat} (s : CS c b q ch cm te op no nm sg nu W M N cd hd) (hq : q ≤ 300) (hc : 1 ≤ ch ∧ ch ≤ 12) (ho : op = 0) (hk : (tok b e q).2.2.1 = 0) : ∃ c', rLp e (j + 1) 7 c = rLp e j 12 c' ∧ CS c' b (tok b e q).1 ch cm te op no nm sg nu W M (fun i => if i = ch - 1 then nI (aEa hd cd).2.length else N i) (aEa hd cd).2 (aEa hd cd).1 := by
  have key : ∃ c2, rSt (rdT e c) 7 = (nI 12, c2) ∧ CS c2 b (tok b e q).1 ch cm te op no nm sg nu W M (fun i => if i = ch - 1 then nI (aEa hd cd).2.length else N i) (aEa hd cd).2 (aEa hd cd).1 := by
    obtain ⟨t, p4, p5, p6⟩ := CS_t (e := e) s hq
    obtain ⟨s0, s1, s2, ⟨a5, a7, a8, a9, a10, a11, a12, a13⟩, ⟨b3, b4, b5⟩, s5, s6⟩ := t
    generalize rdT e c = d at *
    have w1 : Wr (wEa d) (aEa hd cd).2 (aEa hd cd).1 := (Wr_ea s5)
    have e5 : vi (wEa d) (2, 0) 5 = nI ch := (by rw [wEa_o _ _ (by decide) (by decide)]; exact a5)
    have k5 : vi (wEa d) (1, 0) 5 = (tok b e q).2.2.1 := (by rw [wEa_o _ _ (by decide) (by decide)]; exact p5)
    have eb : bcH (wEa d) = sI (wEa d) (13, 5) (ch - 1) (nI (aEa hd cd).2.length) := by unfold bcH; rw [e5, if_neg (nI_nle (by omega) (by omega)), show nI ch = nI (ch - 1 + 1) by rw [show ch - 1 + 1 = ch by omega], nI_pred, nI_clamp (by omega), w1.1]
    refine ⟨bcH (wEa d), ?_, ?_⟩
    · show rBo d = _
      unfold rBo; rw [p5, hk, if_neg (by decide), if_neg (by decide), if_pos (by rw [a9, ho]; rfl)]
      unfold rBc; rw [k5, hk, if_neg (by decide), if_pos rfl]; unfold rBc1; rw [eb, vi_sI_ne _ _ _ _ (by decide), k5, hk]; rfl
    · rw [eb]
      exact ⟨(SX.sI (wEa_ok s0 (Wr_wi s5)).1), (funext fun f => by rw [vi_sI_ne _ _ _ _ (by decide), wEa_o _ _ (by decide) (by decide)]; exact congrFun s1 f), (by rw [vi_sI_ne _ _ _ _ (by decide), wEa_o _ _ (by decide) (by decide)]; exact s2), ⟨(by rw [vi_sI_ne _ _ _ _ (by decide), wEa_o _ _ (by decide) (by decide)]; exact a5), (by rw [vi_sI_ne _ _ _ _ (by decide), wEa_o _ _ (by decide) (by decide)]; exact a7), (by rw [vi_sI_ne _ _ _ _ (by decide), wEa_o _ _ (by decide) (by decide)]; exact a8), (by rw [vi_sI_ne _ _ _ _ (by decide), wEa_o _ _ (by decide) (by decide)]; exact a9), (by rw [vi_sI_ne _ _ _ _ (by decide), wEa_o _ _ (by decide) (by decide)]; exact a10), (by rw [vi_sI_ne _ _ _ _ (by decide), wEa_o _ _ (by decide) (by decide)]; exact a11), (by rw [vi_sI_ne _ _ _ _ (by decide), wEa_o _ _ (by decide) (by decide)]; exact a12), (by rw [vi_sI_ne _ _ _ _ (by decide), wEa_o _ _ (by decide) (by decide)]; exact a13)⟩, ⟨(funext fun f => by rw [vi_sI_ne _ _ _ _ (by decide), wEa_o _ _ (by decide) (by decide)]; exact congrFun b3 f), (funext fun f => by rw [vi_sI_ne _ _ _ _ (by decide), wEa_o _ _ (by decide) (by decide)]; exact congrFun b4 f), (funext fun f => by rw [vi_sI, upB]; by_cases z : f = ch - 1; (rw [if_pos z, if_pos z]); (rw [if_neg z, if_neg z, wEa_o _ _ (by decide) (by decide)]; exact congrFun b5 f))⟩, (Wr_sI w1 (by decide) (by decide) (by decide)), (by rw [vi_sI_ne _ _ _ _ (by decide), wEa_o _ _ (by decide) (by decide)]; exact s6)⟩
  obtain ⟨c2, k1, k2⟩ := key
  exact ⟨c2, rLp_s (by decide) k1 (by decide), k2⟩
theorem ft_any_else {c : Hp} {b : Nat → Int32} {q ch cm te op no : Nat} {nm sg nu : Int32} {W M N : Nat → Int32} {cd hd : List Int32} {e j : Nat} (s : CS c b q ch cm te op no nm sg nu W M N cd hd) (hq : q ≤ 300) (ho : op = 0) (n1 : ¬ (tok b e q).2.2.1 = 59) (n2 : ¬ (tok b e q).2.2.1 = 0) (h1 : ¬ (tok b e q).2.2.1 = 9) (h2 : ¬ (tok b e q).2.2.1 = 8) : CE (rLp e (j + 1) 7 c) 1 (tok b e q).2.1 := by
  have key : ∃ c2, rSt (rdT e c) 7 = rFa c2 1 ∧ vi c2 (1, 0) 4 = nI (tok b e q).2.1 := by
    obtain ⟨t, p4, p5, p6⟩ := CS_t (e := e) s hq
    obtain ⟨s0, s1, s2, ⟨a5, a7, a8, a9, a10, a11, a12, a13⟩, ⟨b3, b4, b5⟩, s5, s6⟩ := t
    generalize rdT e c = d at *
    have k5 : vi (wEa d) (1, 0) 5 = (tok b e q).2.2.1 := (by rw [wEa_o _ _ (by decide) (by decide)]; exact p5)
    refine ⟨wEa d, ?_, (by rw [wEa_o _ _ (by decide) (by decide)]; exact p4)⟩
    show rBo d = _
    unfold rBo; rw [p5, if_neg h1, if_neg h2, if_pos (by rw [a9, ho]; rfl)]
    unfold rBc; rw [k5, if_neg n1, if_neg n2]
  obtain ⟨c2, k1, k2⟩ := key
  exact CE_s (by decide) k1 k2 (by first | decide | (split <;> decide))
theorem st_term_semi {c : Hp} {b : Nat → Int32} {q ch cm te op no : Nat} {nm sg nu : Int32} {W M N : Nat → Int32} {cd hd : List Int32} {e j : Nat} (s : CS c b q ch cm te op no nm sg nu W M N cd hd) (hq : q ≤ 300) (hc : 1 ≤ ch ∧ ch ≤ 12)  (hk : (tok b e q).2.2.1 = 59) : ∃ c', rLp e (j + 1) 11 c = rLp e j 0 c' ∧ CS c' b (tok b e q).1 ch cm te op no nm sg nu W M (fun i => if i = ch - 1 then nI cd.length else N i) cd hd := by
  have key : ∃ c2, rSt (rdT e c) 11 = (nI 0, c2) ∧ CS c2 b (tok b e q).1 ch cm te op no nm sg nu W M (fun i => if i = ch - 1 then nI cd.length else N i) cd hd := by
    obtain ⟨t, p4, p5, p6⟩ := CS_t (e := e) s hq
    obtain ⟨s0, s1, s2, ⟨a5, a7, a8, a9, a10, a11, a12, a13⟩, ⟨b3, b4, b5⟩, s5, s6⟩ := t
    generalize rdT e c = d at *
    have w1 : Wr (d) cd hd := s5
    have e5 : vi (d) (2, 0) 5 = nI ch := a5
    have k5 : vi (d) (1, 0) 5 = (tok b e q).2.2.1 := p5
    have eb : bcH (d) = sI (d) (13, 5) (ch - 1) (nI cd.length) := by unfold bcH; rw [e5, if_neg (nI_nle (by omega) (by omega)), show nI ch = nI (ch - 1 + 1) by rw [show ch - 1 + 1 = ch by omega], nI_pred, nI_clamp (by omega), w1.1]
    refine ⟨bcH (d), ?_, ?_⟩
    · show rBt d = _
      unfold rBt; rw [p5, hk, if_neg (by decide)]
      unfold rBc; rw [k5, hk, if_pos rfl]; unfold rBc1; rw [eb, vi_sI_ne _ _ _ _ (by decide), k5, hk]; rfl
    · rw [eb]
      exact ⟨(SX.sI s0), (funext fun f => by rw [vi_sI_ne _ _ _ _ (by decide)]; exact congrFun s1 f), (by rw [vi_sI_ne _ _ _ _ (by decide)]; exact s2), ⟨(by rw [vi_sI_ne _ _ _ _ (by decide)]; exact a5), (by rw [vi_sI_ne _ _ _ _ (by decide)]; exact a7), (by rw [vi_sI_ne _ _ _ _ (by decide)]; exact a8), (by rw [vi_sI_ne _ _ _ _ (by decide)]; exact a9), (by rw [vi_sI_ne _ _ _ _ (by decide)]; exact a10), (by rw [vi_sI_ne _ _ _ _ (by decide)]; exact a11), (by rw [vi_sI_ne _ _ _ _ (by decide)]; exact a12), (by rw [vi_sI_ne _ _ _ _ (by decide)]; exact a13)⟩, ⟨(funext fun f => by rw [vi_sI_ne _ _ _ _ (by decide)]; exact congrFun b3 f), (funext fun f => by rw [vi_sI_ne _ _ _ _ (by decide)]; exact congrFun b4 f), (funext fun f => by rw [vi_sI, upB]; by_cases z : f = ch - 1; (rw [if_pos z, if_pos z]); (rw [if_neg z, if_neg z]; exact congrFun b5 f))⟩, (Wr_sI w1 (by decide) (by decide) (by decide)), (by rw [vi_sI_ne _ _ _ _ (by decide)]; exact s6)⟩
  obtain ⟨c2, k1, k2⟩ := key
  exact ⟨c2, rLp_s (by decide) k1 (by decide), k2⟩
theorem st_term_end {c : Hp} {b : Nat → Int32} {q ch cm te op no : Nat} {nm sg nu : Int32} {W M N : Nat → Int32} {cd hd : List Int32} {e j : Nat} (s : CS c b q ch cm te op no nm sg nu W M N cd hd) (hq : q ≤ 300) (hc : 1 ≤ ch ∧ ch ≤ 12)  (hk : (tok b e q).2.2.1 = 0) : ∃ c', rLp e (j + 1) 11 c = rLp e j 12 c' ∧ CS c' b (tok b e q).1 ch cm te op no nm sg nu W M (fun i => if i = ch - 1 then nI cd.length else N i) cd hd := by
  have key : ∃ c2, rSt (rdT e c) 11 = (nI 12, c2) ∧ CS c2 b (tok b e q).1 ch cm te op no nm sg nu W M (fun i => if i = ch - 1 then nI cd.length else N i) cd hd := by
    obtain ⟨t, p4, p5, p6⟩ := CS_t (e := e) s hq
    obtain ⟨s0, s1, s2, ⟨a5, a7, a8, a9, a10, a11, a12, a13⟩, ⟨b3, b4, b5⟩, s5, s6⟩ := t
    generalize rdT e c = d at *
    have w1 : Wr (d) cd hd := s5
    have e5 : vi (d) (2, 0) 5 = nI ch := a5
    have k5 : vi (d) (1, 0) 5 = (tok b e q).2.2.1 := p5
    have eb : bcH (d) = sI (d) (13, 5) (ch - 1) (nI cd.length) := by unfold bcH; rw [e5, if_neg (nI_nle (by omega) (by omega)), show nI ch = nI (ch - 1 + 1) by rw [show ch - 1 + 1 = ch by omega], nI_pred, nI_clamp (by omega), w1.1]
    refine ⟨bcH (d), ?_, ?_⟩
    · show rBt d = _
      unfold rBt; rw [p5, hk, if_neg (by decide)]
      unfold rBc; rw [k5, hk, if_neg (by decide), if_pos rfl]; unfold rBc1; rw [eb, vi_sI_ne _ _ _ _ (by decide), k5, hk]; rfl
    · rw [eb]
      exact ⟨(SX.sI s0), (funext fun f => by rw [vi_sI_ne _ _ _ _ (by decide)]; exact congrFun s1 f), (by rw [vi_sI_ne _ _ _ _ (by decide)]; exact s2), ⟨(by rw [vi_sI_ne _ _ _ _ (by decide)]; exact a5), (by rw [vi_sI_ne _ _ _ _ (by decide)]; exact a7), (by rw [vi_sI_ne _ _ _ _ (by decide)]; exact a8), (by rw [vi_sI_ne _ _ _ _ (by decide)]; exact a9), (by rw [vi_sI_ne _ _ _ _ (by decide)]; exact a10), (by rw [vi_sI_ne _ _ _ _ (by decide)]; exact a11), (by rw [vi_sI_ne _ _ _ _ (by decide)]; exact a12), (by rw [vi_sI_ne _ _ _ _ (by decide)]; exact a13)⟩, ⟨(funext fun f => by rw [vi_sI_ne _ _ _ _ (by decide)]; exact congrFun b3 f), (funext fun f => by rw [vi_sI_ne _ _ _ _ (by decide)]; exact congrFun b4 f), (funext fun f => by rw [vi_sI, upB]; by_cases z : f = ch - 1; (rw [if_pos z, if_pos z]); (rw [if_neg z, if_neg z]; exact congrFun b5 f))⟩, (Wr_sI w1 (by decide) (by decide) (by decide)), (by rw [vi_sI_ne _ _ _ _ (by decide)]; exact s6)⟩
  obtain ⟨c2, k1, k2⟩ := key
  exact ⟨c2, rLp_s (by decide) k1 (by decide), k2⟩
theorem ft_term_else {c : Hp} {b : Nat → Int32} {q ch cm te op no : Nat} {nm sg nu : Int32} {W M N : Nat → Int32} {cd hd : List Int32} {e j : Nat} (s : CS c b q ch cm te op no nm sg nu W M N cd hd) (hq : q ≤ 300)  (n1 : ¬ (tok b e q).2.2.1 = 59) (n2 : ¬ (tok b e q).2.2.1 = 0) (n3 : ¬ (tok b e q).2.2.1 = 43) : CE (rLp e (j + 1) 11 c) 1 (tok b e q).2.1 := by
  have key : ∃ c2, rSt (rdT e c) 11 = rFa c2 1 ∧ vi c2 (1, 0) 4 = nI (tok b e q).2.1 := by
    obtain ⟨t, p4, p5, p6⟩ := CS_t (e := e) s hq
    obtain ⟨s0, s1, s2, ⟨a5, a7, a8, a9, a10, a11, a12, a13⟩, ⟨b3, b4, b5⟩, s5, s6⟩ := t
    generalize rdT e c = d at *
    have k5 : vi (d) (1, 0) 5 = (tok b e q).2.2.1 := p5
    refine ⟨d, ?_, p4⟩
    show rBt d = _
    unfold rBt; rw [p5, if_neg n3]
    unfold rBc; rw [k5, if_neg n1, if_neg n2]
  obtain ⟨c2, k1, k2⟩ := key
  exact CE_s (by decide) k1 k2 (by first | decide | (split <;> decide))
theorem st_num_semi {c : Hp} {b : Nat → Int32} {q ch cm te op no : Nat} {nm sg nu : Int32} {W M N : Nat → Int32} {cd hd : List Int32} {e j : Nat} (s : CS c b q ch cm te op no nm sg nu W M N cd hd) (hq : q ≤ 300) (hc : 1 ≤ ch ∧ ch ≤ 12)  (hk : (tok b e q).2.2.1 = 59) : ∃ c', rLp e (j + 1) 9 c = rLp e j 0 c' ∧ CS c' b (tok b e q).1 ch cm te op no nm sg nu W M (fun i => if i = ch - 1 then nI (aw (xMk 2 5 nu) cd).length else N i) (aw (xMk 2 5 nu) cd) hd := by
  have key : ∃ c2, rSt (rdT e c) 9 = (nI 0, c2) ∧ CS c2 b (tok b e q).1 ch cm te op no nm sg nu W M (fun i => if i = ch - 1 then nI (aw (xMk 2 5 nu) cd).length else N i) (aw (xMk 2 5 nu) cd) hd := by
    obtain ⟨t, p4, p5, p6⟩ := CS_t (e := e) s hq
    obtain ⟨s0, s1, s2, ⟨a5, a7, a8, a9, a10, a11, a12, a13⟩, ⟨b3, b4, b5⟩, s5, s6⟩ := t
    generalize rdT e c = d at *
    have w1 : Wr (wWr d (xMk 2 5 nu)) (aw (xMk 2 5 nu) cd) hd := (Wr_wr s5 _)
    have e5 : vi (wWr d (xMk 2 5 nu)) (2, 0) 5 = nI ch := (by rw [wWr_o _ _ _ (by decide) (by decide)]; exact a5)
    have k5 : vi (wWr d (xMk 2 5 nu)) (1, 0) 5 = (tok b e q).2.2.1 := (by rw [wWr_o _ _ _ (by decide) (by decide)]; exact p5)
    have eb : bcH (wWr d (xMk 2 5 nu)) = sI (wWr d (xMk 2 5 nu)) (13, 5) (ch - 1) (nI (aw (xMk 2 5 nu) cd).length) := by unfold bcH; rw [e5, if_neg (nI_nle (by omega) (by omega)), show nI ch = nI (ch - 1 + 1) by rw [show ch - 1 + 1 = ch by omega], nI_pred, nI_clamp (by omega), w1.1]
    refine ⟨bcH (wWr d (xMk 2 5 nu)), ?_, ?_⟩
    · show rBn d = _
      unfold rBn; rw [p5, hk, if_neg (by decide), a13]; unfold rBt; rw [k5, hk, if_neg (by decide)]
      unfold rBc; rw [k5, hk, if_pos rfl]; unfold rBc1; rw [eb, vi_sI_ne _ _ _ _ (by decide), k5, hk]; rfl
    · rw [eb]
      exact ⟨(SX.sI (SXwr s0 _)), (funext fun f => by rw [vi_sI_ne _ _ _ _ (by decide), wWr_o _ _ _ (by decide) (by decide)]; exact congrFun s1 f), (by rw [vi_sI_ne _ _ _ _ (by decide), wWr_o _ _ _ (by decide) (by decide)]; exact s2), ⟨(by rw [vi_sI_ne _ _ _ _ (by decide), wWr_o _ _ _ (by decide) (by decide)]; exact a5), (by rw [vi_sI_ne _ _ _ _ (by decide), wWr_o _ _ _ (by decide) (by decide)]; exact a7), (by rw [vi_sI_ne _ _ _ _ (by decide), wWr_o _ _ _ (by decide) (by decide)]; exact a8), (by rw [vi_sI_ne _ _ _ _ (by decide), wWr_o _ _ _ (by decide) (by decide)]; exact a9), (by rw [vi_sI_ne _ _ _ _ (by decide), wWr_o _ _ _ (by decide) (by decide)]; exact a10), (by rw [vi_sI_ne _ _ _ _ (by decide), wWr_o _ _ _ (by decide) (by decide)]; exact a11), (by rw [vi_sI_ne _ _ _ _ (by decide), wWr_o _ _ _ (by decide) (by decide)]; exact a12), (by rw [vi_sI_ne _ _ _ _ (by decide), wWr_o _ _ _ (by decide) (by decide)]; exact a13)⟩, ⟨(funext fun f => by rw [vi_sI_ne _ _ _ _ (by decide), wWr_o _ _ _ (by decide) (by decide)]; exact congrFun b3 f), (funext fun f => by rw [vi_sI_ne _ _ _ _ (by decide), wWr_o _ _ _ (by decide) (by decide)]; exact congrFun b4 f), (funext fun f => by rw [vi_sI, upB]; by_cases z : f = ch - 1; (rw [if_pos z, if_pos z]); (rw [if_neg z, if_neg z, wWr_o _ _ _ (by decide) (by decide)]; exact congrFun b5 f))⟩, (Wr_sI w1 (by decide) (by decide) (by decide)), (by rw [vi_sI_ne _ _ _ _ (by decide), wWr_o _ _ _ (by decide) (by decide)]; exact s6)⟩
  obtain ⟨c2, k1, k2⟩ := key
  exact ⟨c2, rLp_s (by decide) k1 (by decide), k2⟩
theorem st_num_end {c : Hp} {b : Nat → Int32} {q ch cm te op no : Nat} {nm sg nu : Int32} {W M N : Nat → Int32} {cd hd : List Int32} {e j : Nat} (s : CS c b q ch cm te op no nm sg nu W M N cd hd) (hq : q ≤ 300) (hc : 1 ≤ ch ∧ ch ≤ 12)  (hk : (tok b e q).2.2.1 = 0) : ∃ c', rLp e (j + 1) 9 c = rLp e j 12 c' ∧ CS c' b (tok b e q).1 ch cm te op no nm sg nu W M (fun i => if i = ch - 1 then nI (aw (xMk 2 5 nu) cd).length else N i) (aw (xMk 2 5 nu) cd) hd := by
  have key : ∃ c2, rSt (rdT e c) 9 = (nI 12, c2) ∧ CS c2 b (tok b e q).1 ch cm te op no nm sg nu W M (fun i => if i = ch - 1 then nI (aw (xMk 2 5 nu) cd).length else N i) (aw (xMk 2 5 nu) cd) hd := by
    obtain ⟨t, p4, p5, p6⟩ := CS_t (e := e) s hq
    obtain ⟨s0, s1, s2, ⟨a5, a7, a8, a9, a10, a11, a12, a13⟩, ⟨b3, b4, b5⟩, s5, s6⟩ := t
    generalize rdT e c = d at *
    have w1 : Wr (wWr d (xMk 2 5 nu)) (aw (xMk 2 5 nu) cd) hd := (Wr_wr s5 _)
    have e5 : vi (wWr d (xMk 2 5 nu)) (2, 0) 5 = nI ch := (by rw [wWr_o _ _ _ (by decide) (by decide)]; exact a5)
    have k5 : vi (wWr d (xMk 2 5 nu)) (1, 0) 5 = (tok b e q).2.2.1 := (by rw [wWr_o _ _ _ (by decide) (by decide)]; exact p5)
    have eb : bcH (wWr d (xMk 2 5 nu)) = sI (wWr d (xMk 2 5 nu)) (13, 5) (ch - 1) (nI (aw (xMk 2 5 nu) cd).length) := by unfold bcH; rw [e5, if_neg (nI_nle (by omega) (by omega)), show nI ch = nI (ch - 1 + 1) by rw [show ch - 1 + 1 = ch by omega], nI_pred, nI_clamp (by omega), w1.1]
    refine ⟨bcH (wWr d (xMk 2 5 nu)), ?_, ?_⟩
    · show rBn d = _
      unfold rBn; rw [p5, hk, if_neg (by decide), a13]; unfold rBt; rw [k5, hk, if_neg (by decide)]
      unfold rBc; rw [k5, hk, if_neg (by decide), if_pos rfl]; unfold rBc1; rw [eb, vi_sI_ne _ _ _ _ (by decide), k5, hk]; rfl
    · rw [eb]
      exact ⟨(SX.sI (SXwr s0 _)), (funext fun f => by rw [vi_sI_ne _ _ _ _ (by decide), wWr_o _ _ _ (by decide) (by decide)]; exact congrFun s1 f), (by rw [vi_sI_ne _ _ _ _ (by decide), wWr_o _ _ _ (by decide) (by decide)]; exact s2), ⟨(by rw [vi_sI_ne _ _ _ _ (by decide), wWr_o _ _ _ (by decide) (by decide)]; exact a5), (by rw [vi_sI_ne _ _ _ _ (by decide), wWr_o _ _ _ (by decide) (by decide)]; exact a7), (by rw [vi_sI_ne _ _ _ _ (by decide), wWr_o _ _ _ (by decide) (by decide)]; exact a8), (by rw [vi_sI_ne _ _ _ _ (by decide), wWr_o _ _ _ (by decide) (by decide)]; exact a9), (by rw [vi_sI_ne _ _ _ _ (by decide), wWr_o _ _ _ (by decide) (by decide)]; exact a10), (by rw [vi_sI_ne _ _ _ _ (by decide), wWr_o _ _ _ (by decide) (by decide)]; exact a11), (by rw [vi_sI_ne _ _ _ _ (by decide), wWr_o _ _ _ (by decide) (by decide)]; exact a12), (by rw [vi_sI_ne _ _ _ _ (by decide), wWr_o _ _ _ (by decide) (by decide)]; exact a13)⟩, ⟨(funext fun f => by rw [vi_sI_ne _ _ _ _ (by decide), wWr_o _ _ _ (by decide) (by decide)]; exact congrFun b3 f), (funext fun f => by rw [vi_sI_ne _ _ _ _ (by decide), wWr_o _ _ _ (by decide) (by decide)]; exact congrFun b4 f), (funext fun f => by rw [vi_sI, upB]; by_cases z : f = ch - 1; (rw [if_pos z, if_pos z]); (rw [if_neg z, if_neg z, wWr_o _ _ _ (by decide) (by decide)]; exact congrFun b5 f))⟩, (Wr_sI w1 (by decide) (by decide) (by decide)), (by rw [vi_sI_ne _ _ _ _ (by decide), wWr_o _ _ _ (by decide) (by decide)]; exact s6)⟩
  obtain ⟨c2, k1, k2⟩ := key
  exact ⟨c2, rLp_s (by decide) k1 (by decide), k2⟩
theorem ft_num_else {c : Hp} {b : Nat → Int32} {q ch cm te op no : Nat} {nm sg nu : Int32} {W M N : Nat → Int32} {cd hd : List Int32} {e j : Nat} (s : CS c b q ch cm te op no nm sg nu W M N cd hd) (hq : q ≤ 300)  (n1 : ¬ (tok b e q).2.2.1 = 59) (n2 : ¬ (tok b e q).2.2.1 = 0) (n3 : ¬ (tok b e q).2.2.1 = 43) (n4 : ¬ (tok b e q).2.2.1 = 42) : CE (rLp e (j + 1) 9 c) 1 (tok b e q).2.1 := by
  have key : ∃ c2, rSt (rdT e c) 9 = rFa c2 1 ∧ vi c2 (1, 0) 4 = nI (tok b e q).2.1 := by
    obtain ⟨t, p4, p5, p6⟩ := CS_t (e := e) s hq
    obtain ⟨s0, s1, s2, ⟨a5, a7, a8, a9, a10, a11, a12, a13⟩, ⟨b3, b4, b5⟩, s5, s6⟩ := t
    generalize rdT e c = d at *
    have k5 : vi (wWr d (xMk 2 5 nu)) (1, 0) 5 = (tok b e q).2.2.1 := (by rw [wWr_o _ _ _ (by decide) (by decide)]; exact p5)
    refine ⟨wWr d (xMk 2 5 nu), ?_, (by rw [wWr_o _ _ _ (by decide) (by decide)]; exact p4)⟩
    show rBn d = _
    unfold rBn; rw [p5, if_neg n4, a13]; unfold rBt; rw [k5, if_neg n3]
    unfold rBc; rw [k5, if_neg n1, if_neg n2]
  obtain ⟨c2, k1, k2⟩ := key
  exact CE_s (by decide) k1 k2 (by first | decide | (split <;> decide))
theorem st_plus {c : Hp} {b : Nat → Int32} {q ch cm te op no : Nat} {nm sg nu : Int32} {W M N : Nat → Int32} {cd hd : List Int32} {e j : Nat} (s : CS c b q ch cm te op no nm sg nu W M N cd hd) (hq : q ≤ 300) (hk : (tok b e q).2.2.1 = 43) : ∃ c', rLp e (j + 1) 11 c = rLp e j 8 c' ∧ CS c' b (tok b e q).1 ch cm te op no nm sg nu W M N cd hd := by
  have key : ∃ c2, rSt (rdT e c) 11 = (nI 8, c2) ∧ CS c2 b (tok b e q).1 ch cm te op no nm sg nu W M N cd hd := by
    obtain ⟨t, p4, p5, p6⟩ := CS_t (e := e) s hq
    obtain ⟨s0, s1, s2, ⟨a5, a7, a8, a9, a10, a11, a12, a13⟩, ⟨b3, b4, b5⟩, s5, s6⟩ := t
    generalize rdT e c = d at *
    refine ⟨d, ?_, ⟨s0, s1, s2, ⟨a5, a7, a8, a9, a10, a11, a12, a13⟩, ⟨b3, b4, b5⟩, s5, s6⟩⟩
    show rBt d = _
    unfold rBt; rw [p5, hk, if_pos rfl]; rfl
  obtain ⟨c2, k1, k2⟩ := key
  exact ⟨c2, rLp_s (by decide) k1 (by decide), k2⟩
theorem st_nplus {c : Hp} {b : Nat → Int32} {q ch cm te op no : Nat} {nm sg nu : Int32} {W M N : Nat → Int32} {cd hd : List Int32} {e j : Nat} (s : CS c b q ch cm te op no nm sg nu W M N cd hd) (hq : q ≤ 300) (hk : (tok b e q).2.2.1 = 43) : ∃ c', rLp e (j + 1) 9 c = rLp e j 8 c' ∧ CS c' b (tok b e q).1 ch cm te op no nm sg nu W M N (aw (xMk 2 5 nu) cd) hd := by
  have key : ∃ c2, rSt (rdT e c) 9 = (nI 8, c2) ∧ CS c2 b (tok b e q).1 ch cm te op no nm sg nu W M N (aw (xMk 2 5 nu) cd) hd := by
    obtain ⟨t, p4, p5, p6⟩ := CS_t (e := e) s hq
    obtain ⟨s0, s1, s2, ⟨a5, a7, a8, a9, a10, a11, a12, a13⟩, ⟨b3, b4, b5⟩, s5, s6⟩ := t
    generalize rdT e c = d at *
    have k5 : vi (wWr d (xMk 2 5 nu)) (1, 0) 5 = (tok b e q).2.2.1 := (by rw [wWr_o _ _ _ (by decide) (by decide)]; exact p5)
    refine ⟨wWr d (xMk 2 5 nu), ?_, ⟨(SXwr s0 _), (funext fun f => by rw [wWr_o _ _ _ (by decide) (by decide)]; exact congrFun s1 f), (by rw [wWr_o _ _ _ (by decide) (by decide)]; exact s2), ⟨(by rw [wWr_o _ _ _ (by decide) (by decide)]; exact a5), (by rw [wWr_o _ _ _ (by decide) (by decide)]; exact a7), (by rw [wWr_o _ _ _ (by decide) (by decide)]; exact a8), (by rw [wWr_o _ _ _ (by decide) (by decide)]; exact a9), (by rw [wWr_o _ _ _ (by decide) (by decide)]; exact a10), (by rw [wWr_o _ _ _ (by decide) (by decide)]; exact a11), (by rw [wWr_o _ _ _ (by decide) (by decide)]; exact a12), (by rw [wWr_o _ _ _ (by decide) (by decide)]; exact a13)⟩, ⟨(funext fun f => by rw [wWr_o _ _ _ (by decide) (by decide)]; exact congrFun b3 f), (funext fun f => by rw [wWr_o _ _ _ (by decide) (by decide)]; exact congrFun b4 f), (funext fun f => by rw [wWr_o _ _ _ (by decide) (by decide)]; exact congrFun b5 f)⟩, (Wr_wr s5 _), (by rw [wWr_o _ _ _ (by decide) (by decide)]; exact s6)⟩⟩
    show rBn d = _
    unfold rBn; rw [p5, hk, if_neg (by decide), a13]; unfold rBt; rw [k5, hk, if_pos rfl]; rfl
  obtain ⟨c2, k1, k2⟩ := key
  exact ⟨c2, rLp_s (by decide) k1 (by decide), k2⟩
theorem st_star {c : Hp} {b : Nat → Int32} {q ch cm te op no : Nat} {nm sg nu : Int32} {W M N : Nat → Int32} {cd hd : List Int32} {e j : Nat} (s : CS c b q ch cm te op no nm sg nu W M N cd hd) (hq : q ≤ 300) (hk : (tok b e q).2.2.1 = 42) : ∃ c', rLp e (j + 1) 9 c = rLp e j 10 c' ∧ CS c' b (tok b e q).1 ch cm te op no nm sg nu W M N cd hd := by
  have key : ∃ c2, rSt (rdT e c) 9 = (nI 10, c2) ∧ CS c2 b (tok b e q).1 ch cm te op no nm sg nu W M N cd hd := by
    obtain ⟨t, p4, p5, p6⟩ := CS_t (e := e) s hq
    obtain ⟨s0, s1, s2, ⟨a5, a7, a8, a9, a10, a11, a12, a13⟩, ⟨b3, b4, b5⟩, s5, s6⟩ := t
    generalize rdT e c = d at *
    refine ⟨d, ?_, ⟨s0, s1, s2, ⟨a5, a7, a8, a9, a10, a11, a12, a13⟩, ⟨b3, b4, b5⟩, s5, s6⟩⟩
    show rBn d = _
    unfold rBn; rw [p5, hk, if_pos rfl]; rfl
  obtain ⟨c2, k1, k2⟩ := key
  exact ⟨c2, rLp_s (by decide) k1 (by decide), k2⟩
theorem st_fac {c : Hp} {b : Nat → Int32} {q ch cm te op no : Nat} {nm sg nu : Int32} {W M N : Nat → Int32} {cd hd : List Int32} {e j : Nat} (s : CS c b q ch cm te op no nm sg nu W M N cd hd) (hq : q ≤ 300) (hk : (tok b e q).2.2.1 = 4) : ∃ c', rLp e (j + 1) 10 c = rLp e j 11 c' ∧ CS c' b (tok b e q).1 ch cm te op no nm sg nu W M N (aw (xMk 2 (tok b e q).2.2.2 nu) cd) hd := by
  have key : ∃ c2, rSt (rdT e c) 10 = (nI 11, c2) ∧ CS c2 b (tok b e q).1 ch cm te op no nm sg nu W M N (aw (xMk 2 (tok b e q).2.2.2 nu) cd) hd := by
    obtain ⟨t, p4, p5, p6⟩ := CS_t (e := e) s hq
    obtain ⟨s0, s1, s2, ⟨a5, a7, a8, a9, a10, a11, a12, a13⟩, ⟨b3, b4, b5⟩, s5, s6⟩ := t
    generalize rdT e c = d at *
    refine ⟨wWr d (xMk 2 (vi d (1, 0) 6) (vi d (2, 0) 13)), ?_, ?_⟩
    · show rFc d = _
      unfold rFc; rw [p5, hk, if_pos rfl]; rfl
    · rw [p6, a13]
      exact ⟨(SXwr s0 _), (funext fun f => by rw [wWr_o _ _ _ (by decide) (by decide)]; exact congrFun s1 f), (by rw [wWr_o _ _ _ (by decide) (by decide)]; exact s2), ⟨(by rw [wWr_o _ _ _ (by decide) (by decide)]; exact a5), (by rw [wWr_o _ _ _ (by decide) (by decide)]; exact a7), (by rw [wWr_o _ _ _ (by decide) (by decide)]; exact a8), (by rw [wWr_o _ _ _ (by decide) (by decide)]; exact a9), (by rw [wWr_o _ _ _ (by decide) (by decide)]; exact a10), (by rw [wWr_o _ _ _ (by decide) (by decide)]; exact a11), (by rw [wWr_o _ _ _ (by decide) (by decide)]; exact a12), (by rw [wWr_o _ _ _ (by decide) (by decide)]; exact a13)⟩, ⟨(funext fun f => by rw [wWr_o _ _ _ (by decide) (by decide)]; exact congrFun b3 f), (funext fun f => by rw [wWr_o _ _ _ (by decide) (by decide)]; exact congrFun b4 f), (funext fun f => by rw [wWr_o _ _ _ (by decide) (by decide)]; exact congrFun b5 f)⟩, (Wr_wr s5 _), (by rw [wWr_o _ _ _ (by decide) (by decide)]; exact s6)⟩
  obtain ⟨c2, k1, k2⟩ := key
  exact ⟨c2, rLp_s (by decide) k1 (by decide), k2⟩
theorem ft_fac {c : Hp} {b : Nat → Int32} {q ch cm te op no : Nat} {nm sg nu : Int32} {W M N : Nat → Int32} {cd hd : List Int32} {e j : Nat} (s : CS c b q ch cm te op no nm sg nu W M N cd hd) (hq : q ≤ 300) (h1 : ¬ (tok b e q).2.2.1 = 4) : CE (rLp e (j + 1) 10 c) (if (tok b e q).2.2.1 = 3 then 2 else 1) (tok b e q).2.1 := by
  have key : ∃ c2, rSt (rdT e c) 10 = rFa c2 (if (tok b e q).2.2.1 = 3 then 2 else 1) ∧ vi c2 (1, 0) 4 = nI (tok b e q).2.1 := by
    obtain ⟨t, p4, p5, p6⟩ := CS_t (e := e) s hq
    obtain ⟨s0, s1, s2, ⟨a5, a7, a8, a9, a10, a11, a12, a13⟩, ⟨b3, b4, b5⟩, s5, s6⟩ := t
    generalize rdT e c = d at *
    refine ⟨d, ?_, p4⟩
    show rFc d = _
    unfold rFc; rw [p5, if_neg h1]; unfold rNo; rw [p5]
  obtain ⟨c2, k1, k2⟩ := key
  exact CE_s (by decide) k1 k2 (by first | decide | (split <;> decide))
theorem st_tnum {c : Hp} {b : Nat → Int32} {q ch cm te op no : Nat} {nm sg nu : Int32} {W M N : Nat → Int32} {cd hd : List Int32} {e j : Nat} (s : CS c b q ch cm te op no nm sg nu W M N cd hd) (hq : q ≤ 300) (hk : (tok b e q).2.2.1 = 2) (hn : te + 1 ≤ 4) : ∃ c', rLp e (j + 1) 8 c = rLp e j 9 c' ∧ CS c' b (tok b e q).1 ch cm (te + 1) op no nm sg (tok b e q).2.2.2 W M N cd hd := by
  have key : ∃ c2, rSt (rdT e c) 8 = (nI 9, c2) ∧ CS c2 b (tok b e q).1 ch cm (te + 1) op no nm sg (tok b e q).2.2.2 W M N cd hd := by
    obtain ⟨t, p4, p5, p6⟩ := CS_t (e := e) s hq
    obtain ⟨s0, s1, s2, ⟨a5, a7, a8, a9, a10, a11, a12, a13⟩, ⟨b3, b4, b5⟩, s5, s6⟩ := t
    generalize rdT e c = d at *
    have e8 : vi (teH d) (2, 0) 8 = nI (te + 1) := by unfold teH; rw [vi_sI_eq, a8, nI_1]
    have e5 : vi (teH d) (1, 0) 5 = 2 := by unfold teH; rw [vi_sI_ne _ _ _ _ (by decide), p5, hk]
    have e6 : vi (teH d) (1, 0) 6 = (tok b e q).2.2.2 := by unfold teH; rw [vi_sI_ne _ _ _ _ (by decide), p6]
    refine ⟨sI (teH d) (2, 0) 13 (vi (teH d) (1, 0) 6), ?_, ?_⟩
    · show rTe d = _
      unfold rTe rTe1; rw [p5, hk, if_pos rfl, e8, if_pos (show nI (te + 1) ≤ 4 from nI_le (b := 4) hn (by decide)), e5, if_pos rfl]; rfl
    · rw [e6]; unfold teH
      exact ⟨(SX.sI (SX.sI s0)), (funext fun f => by rw [vi_sI_ne _ _ _ _ (by decide), vi_sI_ne _ _ _ _ (by decide)]; exact congrFun s1 f), (by rw [vi_sI_ne _ _ _ _ (by decide), vi_sI_ne _ _ _ _ (by decide)]; exact s2), ⟨(by rw [vi_sI_nk _ _ _ (by decide), vi_sI_nk _ _ _ (by decide)]; exact a5), (by rw [vi_sI_nk _ _ _ (by decide), vi_sI_nk _ _ _ (by decide)]; exact a7), (by rw [vi_sI_nk _ _ _ (by decide), vi_sI_eq]; rw [a8, nI_1]), (by rw [vi_sI_nk _ _ _ (by decide), vi_sI_nk _ _ _ (by decide)]; exact a9), (by rw [vi_sI_nk _ _ _ (by decide), vi_sI_nk _ _ _ (by decide)]; exact a10), (by rw [vi_sI_nk _ _ _ (by decide), vi_sI_nk _ _ _ (by decide)]; exact a11), (by rw [vi_sI_nk _ _ _ (by decide), vi_sI_nk _ _ _ (by decide)]; exact a12), (by rw [vi_sI_eq])⟩, ⟨(funext fun f => by rw [vi_sI_ne _ _ _ _ (by decide), vi_sI_ne _ _ _ _ (by decide)]; exact congrFun b3 f), (funext fun f => by rw [vi_sI_ne _ _ _ _ (by decide), vi_sI_ne _ _ _ _ (by decide)]; exact congrFun b4 f), (funext fun f => by rw [vi_sI_ne _ _ _ _ (by decide), vi_sI_ne _ _ _ _ (by decide)]; exact congrFun b5 f)⟩, (Wr_sI (Wr_sI s5 (by decide) (by decide) (by decide)) (by decide) (by decide) (by decide)), (by rw [vi_sI_nk _ _ _ (by decide), vi_sI_nk _ _ _ (by decide)]; exact s6)⟩
  obtain ⟨c2, k1, k2⟩ := key
  exact ⟨c2, rLp_s (by decide) k1 (by decide), k2⟩
theorem st_tname {c : Hp} {b : Nat → Int32} {q ch cm te op no : Nat} {nm sg nu : Int32} {W M N : Nat → Int32} {cd hd : List Int32} {e j : Nat} (s : CS c b q ch cm te op no nm sg nu W M N cd hd) (hq : q ≤ 300) (hk : (tok b e q).2.2.1 = 4) (hn : te + 1 ≤ 4) : ∃ c', rLp e (j + 1) 8 c = rLp e j 11 c' ∧ CS c' b (tok b e q).1 ch cm (te + 1) op no nm sg nu W M N (aw (xMk 2 (tok b e q).2.2.2 1) cd) hd := by
  have key : ∃ c2, rSt (rdT e c) 8 = (nI 11, c2) ∧ CS c2 b (tok b e q).1 ch cm (te + 1) op no nm sg nu W M N (aw (xMk 2 (tok b e q).2.2.2 1) cd) hd := by
    obtain ⟨t, p4, p5, p6⟩ := CS_t (e := e) s hq
    obtain ⟨s0, s1, s2, ⟨a5, a7, a8, a9, a10, a11, a12, a13⟩, ⟨b3, b4, b5⟩, s5, s6⟩ := t
    generalize rdT e c = d at *
    have e8 : vi (teH d) (2, 0) 8 = nI (te + 1) := by unfold teH; rw [vi_sI_eq, a8, nI_1]
    have e5 : vi (teH d) (1, 0) 5 = 4 := by unfold teH; rw [vi_sI_ne _ _ _ _ (by decide), p5, hk]
    have e6 : vi (teH d) (1, 0) 6 = (tok b e q).2.2.2 := by unfold teH; rw [vi_sI_ne _ _ _ _ (by decide), p6]
    refine ⟨wWr (teH d) (xMk 2 (vi (teH d) (1, 0) 6) 1), ?_, ?_⟩
    · show rTe d = _
      unfold rTe rTe1; rw [p5, hk, if_neg (by decide), if_pos rfl, e8, if_pos (show nI (te + 1) ≤ 4 from nI_le (b := 4) hn (by decide)), e5, if_neg (by decide)]; rfl
    · rw [e6]; unfold teH
      exact ⟨(SXwr (SX.sI s0) _), (funext fun f => by rw [wWr_o _ _ _ (by decide) (by decide), vi_sI_ne _ _ _ _ (by decide)]; exact congrFun s1 f), (by rw [wWr_o _ _ _ (by decide) (by decide), vi_sI_ne _ _ _ _ (by decide)]; exact s2), ⟨(by rw [wWr_o _ _ _ (by decide) (by decide), vi_sI_nk _ _ _ (by decide)]; exact a5), (by rw [wWr_o _ _ _ (by decide) (by decide), vi_sI_nk _ _ _ (by decide)]; exact a7), (by rw [wWr_o _ _ _ (by decide) (by decide), vi_sI_eq]; rw [a8, nI_1]), (by rw [wWr_o _ _ _ (by decide) (by decide), vi_sI_nk _ _ _ (by decide)]; exact a9), (by rw [wWr_o _ _ _ (by decide) (by decide), vi_sI_nk _ _ _ (by decide)]; exact a10), (by rw [wWr_o _ _ _ (by decide) (by decide), vi_sI_nk _ _ _ (by decide)]; exact a11), (by rw [wWr_o _ _ _ (by decide) (by decide), vi_sI_nk _ _ _ (by decide)]; exact a12), (by rw [wWr_o _ _ _ (by decide) (by decide), vi_sI_nk _ _ _ (by decide)]; exact a13)⟩, ⟨(funext fun f => by rw [wWr_o _ _ _ (by decide) (by decide), vi_sI_ne _ _ _ _ (by decide)]; exact congrFun b3 f), (funext fun f => by rw [wWr_o _ _ _ (by decide) (by decide), vi_sI_ne _ _ _ _ (by decide)]; exact congrFun b4 f), (funext fun f => by rw [wWr_o _ _ _ (by decide) (by decide), vi_sI_ne _ _ _ _ (by decide)]; exact congrFun b5 f)⟩, (Wr_wr (Wr_sI s5 (by decide) (by decide) (by decide)) _), (by rw [wWr_o _ _ _ (by decide) (by decide), vi_sI_nk _ _ _ (by decide)]; exact s6)⟩
  obtain ⟨c2, k1, k2⟩ := key
  exact ⟨c2, rLp_s (by decide) k1 (by decide), k2⟩
theorem ft_tmany {c : Hp} {b : Nat → Int32} {q ch cm te op no : Nat} {nm sg nu : Int32} {W M N : Nat → Int32} {cd hd : List Int32} {e j : Nat} (s : CS c b q ch cm te op no nm sg nu W M N cd hd) (hq : q ≤ 300) (hk : (tok b e q).2.2.1 = 2 ∨ (tok b e q).2.2.1 = 4) (hn : te = 4) : CE (rLp e (j + 1) 8 c) 4 (tok b e q).2.1 := by
  have key : ∃ c2, rSt (rdT e c) 8 = rFa c2 4 ∧ vi c2 (1, 0) 4 = nI (tok b e q).2.1 := by
    obtain ⟨t, p4, p5, p6⟩ := CS_t (e := e) s hq
    obtain ⟨s0, s1, s2, ⟨a5, a7, a8, a9, a10, a11, a12, a13⟩, ⟨b3, b4, b5⟩, s5, s6⟩ := t
    generalize rdT e c = d at *
    have e8 : vi (teH d) (2, 0) 8 = nI 5 := by unfold teH; rw [vi_sI_eq, a8, nI_1, hn]
    refine ⟨teH d, ?_, ?_⟩
    · show rTe d = _
      unfold rTe rTe1; rw [p5, e8, if_neg (show ¬ nI 5 ≤ 4 by decide)]; rcases hk with z | z <;> (rw [z]; rfl)
    · unfold teH; rw [vi_sI_ne _ _ _ _ (by decide)]; exact p4
  obtain ⟨c2, k1, k2⟩ := key
  exact CE_s (by decide) k1 k2 (by first | decide | (split <;> decide))
theorem ft_term {c : Hp} {b : Nat → Int32} {q ch cm te op no : Nat} {nm sg nu : Int32} {W M N : Nat → Int32} {cd hd : List Int32} {e j : Nat} (s : CS c b q ch cm te op no nm sg nu W M N cd hd) (hq : q ≤ 300) (h1 : ¬ (tok b e q).2.2.1 = 2) (h2 : ¬ (tok b e q).2.2.1 = 4) : CE (rLp e (j + 1) 8 c) (if (tok b e q).2.2.1 = 3 then 2 else 1) (tok b e q).2.1 := by
  have key : ∃ c2, rSt (rdT e c) 8 = rFa c2 (if (tok b e q).2.2.1 = 3 then 2 else 1) ∧ vi c2 (1, 0) 4 = nI (tok b e q).2.1 := by
    obtain ⟨t, p4, p5, p6⟩ := CS_t (e := e) s hq
    obtain ⟨s0, s1, s2, ⟨a5, a7, a8, a9, a10, a11, a12, a13⟩, ⟨b3, b4, b5⟩, s5, s6⟩ := t
    generalize rdT e c = d at *
    refine ⟨d, ?_, p4⟩
    show rTe d = _
    unfold rTe; rw [p5, if_neg h1, if_neg h2]; unfold rNo; rw [p5]
  obtain ⟨c2, k1, k2⟩ := key
  exact CE_s (by decide) k1 k2 (by first | decide | (split <;> decide))
