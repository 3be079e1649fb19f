theorem st_not {c : Hp} {b : Nat → Int32} {q ch cm te op no : Nat} {nm sg nu : Int32} {W M N : Nat → Int32} {cd hd : List Int32} {e j : Nat} (s : CS c b q ch cm te op no nm sg nu W M N cd hd) (hq : q ≤ 300) (hk : (tok b e q).2.2.1 = 10) (hn : no + 1 ≤ 8) : ∃ c', rLp e (j + 1) 4 c = rLp e j 4 c' ∧ CS c' b (tok b e q).1 ch cm te op (no + 1) nm sg nu W M N cd (aw 10 hd) := by
  have key : ∃ c2, rSt (rdT e c) 4 = (nI 4, c2) ∧ CS c2 b (tok b e q).1 ch cm te op (no + 1) nm sg nu W M N cd (aw 10 hd) := by
    obtain ⟨t, p4, p5, p6⟩ := CS_t (e := e) s hq
    obtain ⟨s0, s1, s2, ⟨a5, a7, a8, a9, a10, a11, a12, a13⟩, ⟨b3, b4, b5⟩, s5, s6⟩ := t
    generalize rdT e c = d at *
    refine ⟨onN d, ?_, ?_⟩
    · show rOn d = _
      have e1 : vi (onN d) (2, 0) 10 = nI (no + 1) := by unfold onN; rw [wHo_o _ _ _ (by decide) (by decide), vi_sI_eq, a10, nI_1]
      unfold rOn; rw [p5, hk, if_pos rfl, e1, if_pos (nI_le (b := 8) hn (by decide))]; rfl
    · unfold onN
      exact ⟨(SXho (SX.sI s0) _), (funext fun f => by rw [wHo_o _ _ _ (by decide) (by decide), vi_sI_ne _ _ _ _ (by decide)]; exact congrFun s1 f), (by rw [wHo_o _ _ _ (by decide) (by decide), vi_sI_ne _ _ _ _ (by decide)]; exact s2), ⟨(by rw [wHo_o _ _ _ (by decide) (by decide), vi_sI_nk _ _ _ (by decide)]; exact a5), (by rw [wHo_o _ _ _ (by decide) (by decide), vi_sI_nk _ _ _ (by decide)]; exact a7), (by rw [wHo_o _ _ _ (by decide) (by decide), vi_sI_nk _ _ _ (by decide)]; exact a8), (by rw [wHo_o _ _ _ (by decide) (by decide), vi_sI_nk _ _ _ (by decide)]; exact a9), (by rw [wHo_o _ _ _ (by decide) (by decide), vi_sI_eq]; rw [a10, nI_1]), (by rw [wHo_o _ _ _ (by decide) (by decide), vi_sI_nk _ _ _ (by decide)]; exact a11), (by rw [wHo_o _ _ _ (by decide) (by decide), vi_sI_nk _ _ _ (by decide)]; exact a12), (by rw [wHo_o _ _ _ (by decide) (by decide), vi_sI_nk _ _ _ (by decide)]; exact a13)⟩, ⟨(funext fun f => by rw [wHo_o _ _ _ (by decide) (by decide), vi_sI_ne _ _ _ _ (by decide)]; exact congrFun b3 f), (funext fun f => by rw [wHo_o _ _ _ (by decide) (by decide), vi_sI_ne _ _ _ _ (by decide)]; exact congrFun b4 f), (funext fun f => by rw [wHo_o _ _ _ (by decide) (by decide), vi_sI_ne _ _ _ _ (by decide)]; exact congrFun b5 f)⟩, (Wr_ho (Wr_sI s5 (by decide) (by decide) (by decide)) _), (by rw [wHo_o _ _ _ (by decide) (by decide), vi_sI_nk _ _ _ (by decide)]; exact s6)⟩
  obtain ⟨c2, k1, k2⟩ := key
  exact ⟨c2, rLp_s (by decide) k1 (by decide), k2⟩
theorem ft_not {c : Hp} {b : Nat → Int32} {q ch cm te op no : Nat} {nm sg nu : Int32} {W M N : Nat → Int32} {cd hd : List Int32} {e j : Nat} (s : CS c b q ch cm te op no nm sg nu W M N cd hd) (hq : q ≤ 300) (hk : (tok b e q).2.2.1 = 10) (hn : no = 8) : CE (rLp e (j + 1) 4 c) 4 (tok b e q).2.1 := by
  have key : ∃ c2, rSt (rdT e c) 4 = rFa c2 4 ∧ vi c2 (1, 0) 4 = nI (tok b e q).2.1 := by
    obtain ⟨t, p4, p5, p6⟩ := CS_t (e := e) s hq
    obtain ⟨s0, s1, s2, ⟨a5, a7, a8, a9, a10, a11, a12, a13⟩, ⟨b3, b4, b5⟩, s5, s6⟩ := t
    generalize rdT e c = d at *
    refine ⟨onN d, ?_, ?_⟩
    · show rOn d = _
      have e1 : vi (onN d) (2, 0) 10 = nI (no + 1) := by unfold onN; rw [wHo_o _ _ _ (by decide) (by decide), vi_sI_eq, a10, nI_1]
      unfold rOn; rw [p5, hk, if_pos rfl, e1, hn, if_neg (by decide)]
    · unfold onN; rw [wHo_o _ _ _ (by decide) (by decide), vi_sI_ne _ _ _ _ (by decide)]; exact p4
  obtain ⟨c2, k1, k2⟩ := key
  exact CE_s (by decide) k1 k2
theorem st_br {c : Hp} {b : Nat → Int32} {q ch cm te op no : Nat} {nm sg nu : Int32} {W M N : Nat → Int32} {cd hd : List Int32} {e j : Nat} (s : CS c b q ch cm te op no nm sg nu W M N cd hd) (hq : q ≤ 300) (hk : (tok b e q).2.2.1 = 40) (hn : op + 1 ≤ 8) : ∃ c', rLp e (j + 1) 4 c = rLp e j 4 c' ∧ CS c' b (tok b e q).1 ch cm te (op + 1) 0 nm sg nu W M N cd (aw 40 hd) := by
  have key : ∃ c2, rSt (rdT e c) 4 = (nI 4, c2) ∧ CS c2 b (tok b e q).1 ch cm te (op + 1) 0 nm sg nu W M N cd (aw 40 hd) := by
    obtain ⟨t, p4, p5, p6⟩ := CS_t (e := e) s hq
    obtain ⟨s0, s1, s2, ⟨a5, a7, a8, a9, a10, a11, a12, a13⟩, ⟨b3, b4, b5⟩, s5, s6⟩ := t
    generalize rdT e c = d at *
    refine ⟨onB d, ?_, ?_⟩
    · show rOn d = _
      have e1 : vi (onB d) (2, 0) 9 = nI (op + 1) := by unfold onB onB0; rw [wHo_o _ _ _ (by decide) (by decide), vi_sI_eq, a9, nI_1]
      unfold rOn; rw [p5, hk, if_neg (by decide), if_pos rfl, e1, if_pos (nI_le (b := 8) hn (by decide))]; rfl
    · unfold onB onB0
      exact ⟨(SXho (SX.sI (SX.sI s0)) _), (funext fun f => by rw [wHo_o _ _ _ (by decide) (by decide), vi_sI_ne _ _ _ _ (by decide), vi_sI_ne _ _ _ _ (by decide)]; exact congrFun s1 f), (by rw [wHo_o _ _ _ (by decide) (by decide), vi_sI_ne _ _ _ _ (by decide), vi_sI_ne _ _ _ _ (by decide)]; exact s2), ⟨(by rw [wHo_o _ _ _ (by decide) (by decide), vi_sI_nk _ _ _ (by decide), vi_sI_nk _ _ _ (by decide)]; exact a5), (by rw [wHo_o _ _ _ (by decide) (by decide), vi_sI_nk _ _ _ (by decide), vi_sI_nk _ _ _ (by decide)]; exact a7), (by rw [wHo_o _ _ _ (by decide) (by decide), vi_sI_nk _ _ _ (by decide), vi_sI_nk _ _ _ (by decide)]; exact a8), (by rw [wHo_o _ _ _ (by decide) (by decide), vi_sI_eq]; rw [a9, nI_1]), (by rw [wHo_o _ _ _ (by decide) (by decide), vi_sI_nk _ _ _ (by decide), vi_sI_eq]; rfl), (by rw [wHo_o _ _ _ (by decide) (by decide), vi_sI_nk _ _ _ (by decide), vi_sI_nk _ _ _ (by decide)]; exact a11), (by rw [wHo_o _ _ _ (by decide) (by decide), vi_sI_nk _ _ _ (by decide), vi_sI_nk _ _ _ (by decide)]; exact a12), (by rw [wHo_o _ _ _ (by decide) (by decide), vi_sI_nk _ _ _ (by decide), vi_sI_nk _ _ _ (by decide)]; exact a13)⟩, ⟨(funext fun f => by rw [wHo_o _ _ _ (by decide) (by decide), vi_sI_ne _ _ _ _ (by decide), vi_sI_ne _ _ _ _ (by decide)]; exact congrFun b3 f), (funext fun f => by rw [wHo_o _ _ _ (by decide) (by decide), vi_sI_ne _ _ _ _ (by decide), vi_sI_ne _ _ _ _ (by decide)]; exact congrFun b4 f), (funext fun f => by rw [wHo_o _ _ _ (by decide) (by decide), vi_sI_ne _ _ _ _ (by decide), vi_sI_ne _ _ _ _ (by decide)]; exact congrFun b5 f)⟩, (Wr_ho (Wr_sI (Wr_sI s5 (by decide) (by decide) (by decide)) (by decide) (by decide) (by decide)) _), (by rw [wHo_o _ _ _ (by decide) (by decide), vi_sI_nk _ _ _ (by decide), vi_sI_nk _ _ _ (by decide)]; exact s6)⟩
  obtain ⟨c2, k1, k2⟩ := key
  exact ⟨c2, rLp_s (by decide) k1 (by decide), k2⟩
theorem ft_br {c : Hp} {b : Nat → Int32} {q ch cm te op no : Nat} {nm sg nu : Int32} {W M N : Nat → Int32} {cd hd : List Int32} {e j : Nat} (s : CS c b q ch cm te op no nm sg nu W M N cd hd) (hq : q ≤ 300) (hk : (tok b e q).2.2.1 = 40) (hn : op = 8) : CE (rLp e (j + 1) 4 c) 4 (tok b e q).2.1 := by
  have key : ∃ c2, rSt (rdT e c) 4 = rFa c2 4 ∧ vi c2 (1, 0) 4 = nI (tok b e q).2.1 := by
    obtain ⟨t, p4, p5, p6⟩ := CS_t (e := e) s hq
    obtain ⟨s0, s1, s2, ⟨a5, a7, a8, a9, a10, a11, a12, a13⟩, ⟨b3, b4, b5⟩, s5, s6⟩ := t
    generalize rdT e c = d at *
    refine ⟨onB d, ?_, ?_⟩
    · show rOn d = _
      have e1 : vi (onB d) (2, 0) 9 = nI (op + 1) := by unfold onB onB0; rw [wHo_o _ _ _ (by decide) (by decide), vi_sI_eq, a9, nI_1]
      unfold rOn; rw [p5, hk, if_neg (by decide), if_pos rfl, e1, hn, if_neg (by decide)]
    · unfold onB onB0; rw [wHo_o _ _ _ (by decide) (by decide), vi_sI_ne _ _ _ _ (by decide), vi_sI_ne _ _ _ _ (by decide)]; exact p4
  obtain ⟨c2, k1, k2⟩ := key
  exact CE_s (by decide) k1 k2
theorem st_name {c : Hp} {b : Nat → Int32} {q ch cm te op no : Nat} {nm sg nu : Int32} {W M N : Nat → Int32} {cd hd : List Int32} {e j : Nat} (s : CS c b q ch cm te op no nm sg nu W M N cd hd) (hq : q ≤ 300) (hk : (tok b e q).2.2.1 = 4) (hn : cm + 1 ≤ 20) : ∃ c', rLp e (j + 1) 4 c = rLp e j 5 c' ∧ CS c' b (tok b e q).1 ch (cm + 1) te op 0 (tok b e q).2.2.2 sg nu W M N cd hd := by
  have key : ∃ c2, rSt (rdT e c) 4 = (nI 5, c2) ∧ CS c2 b (tok b e q).1 ch (cm + 1) te op 0 (tok b e q).2.2.2 sg nu W M N cd hd := by
    obtain ⟨t, p4, p5, p6⟩ := CS_t (e := e) s hq
    obtain ⟨s0, s1, s2, ⟨a5, a7, a8, a9, a10, a11, a12, a13⟩, ⟨b3, b4, b5⟩, s5, s6⟩ := t
    generalize rdT e c = d at *
    refine ⟨onC d, ?_, ?_⟩
    · show rOn d = _
      have e1 : vi (onC d) (2, 0) 7 = nI (cm + 1) := by unfold onC; rw [vi_sI_nk _ _ _ (by decide), vi_sI_eq, a7, nI_1]
      unfold rOn; rw [p5, hk, if_neg (by decide), if_neg (by decide), if_pos rfl, e1, if_pos (nI_le (b := 20) hn (by decide))]; rfl
    · unfold onC
      exact ⟨(SX.sI (SX.sI (SX.sI s0))), (funext fun f => by rw [vi_sI_ne _ _ _ _ (by decide), vi_sI_ne _ _ _ _ (by decide), vi_sI_ne _ _ _ _ (by decide)]; exact congrFun s1 f), (by rw [vi_sI_ne _ _ _ _ (by decide), vi_sI_ne _ _ _ _ (by decide), vi_sI_ne _ _ _ _ (by decide)]; exact s2), ⟨(by rw [vi_sI_nk _ _ _ (by decide), vi_sI_nk _ _ _ (by decide), vi_sI_nk _ _ _ (by decide)]; exact a5), (by rw [vi_sI_nk _ _ _ (by decide), vi_sI_eq]; rw [a7, nI_1]), (by rw [vi_sI_nk _ _ _ (by decide), vi_sI_nk _ _ _ (by decide), vi_sI_nk _ _ _ (by decide)]; exact a8), (by rw [vi_sI_nk _ _ _ (by decide), vi_sI_nk _ _ _ (by decide), vi_sI_nk _ _ _ (by decide)]; exact a9), (by rw [vi_sI_nk _ _ _ (by decide), vi_sI_nk _ _ _ (by decide), vi_sI_eq]; rfl), (by rw [vi_sI_eq]; exact p6), (by rw [vi_sI_nk _ _ _ (by decide), vi_sI_nk _ _ _ (by decide), vi_sI_nk _ _ _ (by decide)]; exact a12), (by rw [vi_sI_nk _ _ _ (by decide), vi_sI_nk _ _ _ (by decide), vi_sI_nk _ _ _ (by decide)]; exact a13)⟩, ⟨(funext fun f => by rw [vi_sI_ne _ _ _ _ (by decide), vi_sI_ne _ _ _ _ (by decide), vi_sI_ne _ _ _ _ (by decide)]; exact congrFun b3 f), (funext fun f => by rw [vi_sI_ne _ _ _ _ (by decide), vi_sI_ne _ _ _ _ (by decide), vi_sI_ne _ _ _ _ (by decide)]; exact congrFun b4 f), (funext fun f => by rw [vi_sI_ne _ _ _ _ (by decide), vi_sI_ne _ _ _ _ (by decide), vi_sI_ne _ _ _ _ (by decide)]; exact congrFun b5 f)⟩, (Wr_sI (Wr_sI (Wr_sI s5 (by decide) (by decide) (by decide)) (by decide) (by decide) (by decide)) (by decide) (by decide) (by decide)), (by rw [vi_sI_nk _ _ _ (by decide), vi_sI_nk _ _ _ (by decide), vi_sI_nk _ _ _ (by decide)]; exact s6)⟩
  obtain ⟨c2, k1, k2⟩ := key
  exact ⟨c2, rLp_s (by decide) k1 (by decide), k2⟩
theorem ft_name {c : Hp} {b : Nat → Int32} {q ch cm te op no : Nat} {nm sg nu : Int32} {W M N : Nat → Int32} {cd hd : List Int32} {e j : Nat} (s : CS c b q ch cm te op no nm sg nu W M N cd hd) (hq : q ≤ 300) (hk : (tok b e q).2.2.1 = 4) (hn : cm = 20) : CE (rLp e (j + 1) 4 c) 4 (tok b e q).2.1 := by
  have key : ∃ c2, rSt (rdT e c) 4 = rFa c2 4 ∧ vi c2 (1, 0) 4 = nI (tok b e q).2.1 := by
    obtain ⟨t, p4, p5, p6⟩ := CS_t (e := e) s hq
    obtain ⟨s0, s1, s2, ⟨a5, a7, a8, a9, a10, a11, a12, a13⟩, ⟨b3, b4, b5⟩, s5, s6⟩ := t
    generalize rdT e c = d at *
    refine ⟨onC d, ?_, ?_⟩
    · show rOn d = _
      have e1 : vi (onC d) (2, 0) 7 = nI (cm + 1) := by unfold onC; rw [vi_sI_nk _ _ _ (by decide), vi_sI_eq, a7, nI_1]
      unfold rOn; rw [p5, hk, if_neg (by decide), if_neg (by decide), if_pos rfl, e1, hn, if_neg (by decide)]
    · unfold onC; rw [vi_sI_ne _ _ _ _ (by decide), vi_sI_ne _ _ _ _ (by decide), vi_sI_ne _ _ _ _ (by decide)]; exact p4
  obtain ⟨c2, k1, k2⟩ := key
  exact CE_s (by decide) k1 k2
theorem ft_one {c : Hp} {b : Nat → Int32} {q ch cm te op no : Nat} {nm sg nu : Int32} {W M N : Nat → Int32} {cd hd : List Int32} {e j : Nat} (s : CS c b q ch cm te op no nm sg nu W M N cd hd) (hq : q ≤ 300) (h1 : ¬ (tok b e q).2.2.1 = 10) (h2 : ¬ (tok b e q).2.2.1 = 40) (h3 : ¬ (tok b e q).2.2.1 = 4) : CE (rLp e (j + 1) 4 c) (if (tok b e q).2.2.1 = 3 then 2 else 1) (tok b e q).2.1 := by
  have key : ∃ c2, rSt (rdT e c) 4 = rFa c2 (if (tok b e q).2.2.1 = 3 then 2 else 1) ∧ vi c2 (1, 0) 4 = nI (tok b e q).2.1 := by
    obtain ⟨t, p4, p5, p6⟩ := CS_t (e := e) s hq
    obtain ⟨s0, s1, s2, ⟨a5, a7, a8, a9, a10, a11, a12, a13⟩, ⟨b3, b4, b5⟩, s5, s6⟩ := t
    generalize rdT e c = d at *
    refine ⟨d, ?_, p4⟩
    show rOn d = _
    unfold rOn; rw [p5, if_neg h1, if_neg h2, if_neg h3]; unfold rNo; rw [p5]
  obtain ⟨c2, k1, k2⟩ := key
  exact CE_s (by decide) k1 k2
theorem st_sign {c : Hp} {b : Nat → Int32} {q ch cm te op no : Nat} {nm sg nu : Int32} {W M N : Nat → Int32} {cd hd : List Int32} {e j : Nat} (s : CS c b q ch cm te op no nm sg nu W M N cd hd) (hq : q ≤ 300) (hk : (tok b e q).2.2.1 = 60 ∨ (tok b e q).2.2.1 = 62 ∨ (tok b e q).2.2.1 = 61) : ∃ c', rLp e (j + 1) 5 c = rLp e j 6 c' ∧ CS c' b (tok b e q).1 ch cm te op no nm (tok b e q).2.2.1 nu W M N cd hd := by
  have key : ∃ c2, rSt (rdT e c) 5 = (nI 6, c2) ∧ CS c2 b (tok b e q).1 ch cm te op no nm (tok b e q).2.2.1 nu W M N cd hd := by
    obtain ⟨t, p4, p5, p6⟩ := CS_t (e := e) s hq
    obtain ⟨s0, s1, s2, ⟨a5, a7, a8, a9, a10, a11, a12, a13⟩, ⟨b3, b4, b5⟩, s5, s6⟩ := t
    generalize rdT e c = d at *
    refine ⟨sgH d, ?_, ?_⟩
    · show rSg d = _
      have e1 : vi (sgH d) (2, 0) 12 = (tok b e q).2.2.1 := by unfold sgH; rw [vi_sI_eq, p5]
      unfold rSg; rw [e1]; rcases hk with z | z | z <;> (rw [z]; rfl)
    · unfold sgH
      exact ⟨(SX.sI s0), (funext fun f => by rw [vi_sI_ne _ _ _ _ (by decide)]; exact congrFun s1 f), (by rw [vi_sI_ne _ _ _ _ (by decide)]; exact s2), ⟨(by rw [vi_sI_nk _ _ _ (by decide)]; exact a5), (by rw [vi_sI_nk _ _ _ (by decide)]; exact a7), (by rw [vi_sI_nk _ _ _ (by decide)]; exact a8), (by rw [vi_sI_nk _ _ _ (by decide)]; exact a9), (by rw [vi_sI_nk _ _ _ (by decide)]; exact a10), (by rw [vi_sI_nk _ _ _ (by decide)]; exact a11), (by rw [vi_sI_eq]; exact p5), (by rw [vi_sI_nk _ _ _ (by decide)]; exact a13)⟩, ⟨(funext fun f => by rw [vi_sI_ne _ _ _ _ (by decide)]; exact congrFun b3 f), (funext fun f => by rw [vi_sI_ne _ _ _ _ (by decide)]; exact congrFun b4 f), (funext fun f => by rw [vi_sI_ne _ _ _ _ (by decide)]; exact congrFun b5 f)⟩, (Wr_sI s5 (by decide) (by decide) (by decide)), (by rw [vi_sI_nk _ _ _ (by decide)]; exact s6)⟩
  obtain ⟨c2, k1, k2⟩ := key
  exact ⟨c2, rLp_s (by decide) k1 (by decide), k2⟩
theorem ft_sign {c : Hp} {b : Nat → Int32} {q ch cm te op no : Nat} {nm sg nu : Int32} {W M N : Nat → Int32} {cd hd : List Int32} {e j : Nat} (s : CS c b q ch cm te op no nm sg nu W M N cd hd) (hq : q ≤ 300) (hk : ¬ ((tok b e q).2.2.1 = 60 ∨ (tok b e q).2.2.1 = 62 ∨ (tok b e q).2.2.1 = 61)) : CE (rLp e (j + 1) 5 c) 1 (tok b e q).2.1 := by
  have key : ∃ c2, rSt (rdT e c) 5 = rFa c2 1 ∧ vi c2 (1, 0) 4 = nI (tok b e q).2.1 := by
    obtain ⟨t, p4, p5, p6⟩ := CS_t (e := e) s hq
    obtain ⟨s0, s1, s2, ⟨a5, a7, a8, a9, a10, a11, a12, a13⟩, ⟨b3, b4, b5⟩, s5, s6⟩ := t
    generalize rdT e c = d at *
    refine ⟨sgH d, ?_, ?_⟩
    · show rSg d = _
      have e1 : vi (sgH d) (2, 0) 12 = (tok b e q).2.2.1 := by unfold sgH; rw [vi_sI_eq, p5]
      unfold rSg; rw [e1, if_neg (fun z => hk (Or.inl z)), if_neg (fun z => hk (Or.inr (Or.inl z))), if_neg (fun z => hk (Or.inr (Or.inr z)))]
    · unfold sgH; rw [vi_sI_ne _ _ _ _ (by decide)]; exact p4
  obtain ⟨c2, k1, k2⟩ := key
  exact CE_s (by decide) k1 k2
theorem st_value {c : Hp} {b : Nat → Int32} {q ch cm te op no : Nat} {nm sg nu : Int32} {W M N : Nat → Int32} {cd hd : List Int32} {e j : Nat} (s : CS c b q ch cm te op no nm sg nu W M N cd hd) (hq : q ≤ 300) (hk : (tok b e q).2.2.1 = 2) : ∃ c', rLp e (j + 1) 6 c = rLp e j 7 c' ∧ CS c' b (tok b e q).1 ch cm te op no nm sg nu W M N (aRel 10 hd (aw (xMk sg nm (tok b e q).2.2.2) cd)).2 (aRel 10 hd (aw (xMk sg nm (tok b e q).2.2.2) cd)).1 := by
  have key : ∃ c2, rSt (rdT e c) 6 = (nI 7, c2) ∧ CS c2 b (tok b e q).1 ch cm te op no nm sg nu W M N (aRel 10 hd (aw (xMk sg nm (tok b e q).2.2.2) cd)).2 (aRel 10 hd (aw (xMk sg nm (tok b e q).2.2.2) cd)).1 := by
    obtain ⟨t, p4, p5, p6⟩ := CS_t (e := e) s hq
    obtain ⟨s0, s1, s2, ⟨a5, a7, a8, a9, a10, a11, a12, a13⟩, ⟨b3, b4, b5⟩, s5, s6⟩ := t
    generalize rdT e c = d at *
    refine ⟨wRel (vaH d) 10, ?_, ?_⟩
    · show rVa d = _
      unfold rVa; rw [p5, hk, if_pos rfl]; rfl
    · unfold vaH; rw [a12, a11, p6]
      exact ⟨(wRel_ok (SXwr s0 _) (WIwr ⟨⟨_, s5.2.1, s5.1⟩, _, s5.2.2.2.1, s5.2.2.1⟩ _) _).1, (funext fun f => by rw [wRel_o _ _ _ (by decide) (by decide), wWr_o _ _ _ (by decide) (by decide)]; exact congrFun s1 f), (by rw [wRel_o _ _ _ (by decide) (by decide), wWr_o _ _ _ (by decide) (by decide)]; exact s2), ⟨(by rw [wRel_o _ _ _ (by decide) (by decide), wWr_o _ _ _ (by decide) (by decide)]; exact a5), (by rw [wRel_o _ _ _ (by decide) (by decide), wWr_o _ _ _ (by decide) (by decide)]; exact a7), (by rw [wRel_o _ _ _ (by decide) (by decide), wWr_o _ _ _ (by decide) (by decide)]; exact a8), (by rw [wRel_o _ _ _ (by decide) (by decide), wWr_o _ _ _ (by decide) (by decide)]; exact a9), (by rw [wRel_o _ _ _ (by decide) (by decide), wWr_o _ _ _ (by decide) (by decide)]; exact a10), (by rw [wRel_o _ _ _ (by decide) (by decide), wWr_o _ _ _ (by decide) (by decide)]; exact a11), (by rw [wRel_o _ _ _ (by decide) (by decide), wWr_o _ _ _ (by decide) (by decide)]; exact a12), (by rw [wRel_o _ _ _ (by decide) (by decide), wWr_o _ _ _ (by decide) (by decide)]; exact a13)⟩, ⟨(funext fun f => by rw [wRel_o _ _ _ (by decide) (by decide), wWr_o _ _ _ (by decide) (by decide)]; exact congrFun b3 f), (funext fun f => by rw [wRel_o _ _ _ (by decide) (by decide), wWr_o _ _ _ (by decide) (by decide)]; exact congrFun b4 f), (funext fun f => by rw [wRel_o _ _ _ (by decide) (by decide), wWr_o _ _ _ (by decide) (by decide)]; exact congrFun b5 f)⟩, (Wr_rel (Wr_wr s5 _) _), (by rw [wRel_o _ _ _ (by decide) (by decide), wWr_o _ _ _ (by decide) (by decide)]; exact s6)⟩
  obtain ⟨c2, k1, k2⟩ := key
  exact ⟨c2, rLp_s (by decide) k1 (by decide), k2⟩
theorem ft_value {c : Hp} {b : Nat → Int32} {q ch cm te op no : Nat} {nm sg nu : Int32} {W M N : Nat → Int32} {cd hd : List Int32} {e j : Nat} (s : CS c b q ch cm te op no nm sg nu W M N cd hd) (hq : q ≤ 300) (hk : ¬ (tok b e q).2.2.1 = 2) : CE (rLp e (j + 1) 6 c) 1 (tok b e q).2.1 := by
  have key : ∃ c2, rSt (rdT e c) 6 = rFa c2 1 ∧ vi c2 (1, 0) 4 = nI (tok b e q).2.1 := by
    obtain ⟨t, p4, p5, p6⟩ := CS_t (e := e) s hq
    obtain ⟨s0, s1, s2, ⟨a5, a7, a8, a9, a10, a11, a12, a13⟩, ⟨b3, b4, b5⟩, s5, s6⟩ := t
    generalize rdT e c = d at *
    refine ⟨d, ?_, p4⟩
    show rVa d = _
    unfold rVa; rw [p5, if_neg hk]
  obtain ⟨c2, k1, k2⟩ := key
  exact CE_s (by decide) k1 k2
