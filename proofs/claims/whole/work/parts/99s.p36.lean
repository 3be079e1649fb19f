/-! the class's reading alone: where it ends without a fault, its ends stand in order below 300 -/
theorem aw_len (x : Int32) (l : List Int32) : l.length ≤ (aw x l).length ∧ (aw x l).length ≤ l.length + 1 := by
  unfold aw; split
  · exact ⟨Nat.le_refl _, Nat.le_succ _⟩
  · exact ⟨Nat.le_succ _, Nat.le_refl _⟩
theorem aRel_len (x : Int32) : ∀ (hd cd : List Int32), cd.length ≤ (aRel x hd cd).2.length ∧ (aRel x hd cd).1.length + (aRel x hd cd).2.length ≤ hd.length + cd.length
  | [], cd => ⟨Nat.le_refl _, Nat.le_refl _⟩
  | y :: r, cd => by
    rw [aRel]; split
    · have a := aw_len x cd
      have i := aRel_len x r (aw x cd)
      rw [List.length_cons]; omega
    · exact ⟨Nat.le_refl _, Nat.le_refl _⟩
theorem aEa_len (hd cd : List Int32) : cd.length ≤ (aEa hd cd).2.length ∧ (aEa hd cd).1.length + (aEa hd cd).2.length ≤ hd.length + cd.length := by
  unfold aEa
  have a := aRel_len 9 hd cd
  have b := aRel_len 8 (aRel 9 hd cd).1 (aRel 9 hd cd).2
  omega
theorem aCb_len (hd cd : List Int32) : cd.length ≤ (aCb hd cd).2.length ∧ (aCb hd cd).1.length + (aCb hd cd).2.length ≤ hd.length + cd.length := by
  unfold aCb
  have a := aEa_len hd cd
  have b := aRel_len 10 (aEa hd cd).1.tail (aEa hd cd).2
  have t : (aEa hd cd).1.tail.length ≤ (aEa hd cd).1.length := by rw [List.length_tail]; omega
  omega
def EN (N : Nat → Int32) (n l : Nat) : Prop := ∃ T : Nat → Nat, ∀ i, i < n → N i = nI (T i) ∧ fromT T i ≤ T i ∧ T i ≤ l
theorem EN.le {N : Nat → Int32} {n l l' : Nat} (h : EN N n l) (hl : l ≤ l') : EN N n l' := by
  obtain ⟨T, hT⟩ := h
  exact ⟨T, fun i hi => ⟨(hT i hi).1, (hT i hi).2.1, Nat.le_trans (hT i hi).2.2 hl⟩⟩
theorem EN.fin {N : Nat → Int32} {n l l' : Nat} (h : EN N n l) (hl : l ≤ l') : EN (fun i => if i = n + 1 - 1 then nI l' else N i) (n + 1) l' := by
  obtain ⟨T, hT⟩ := h
  rw [Nat.add_sub_cancel]
  refine ⟨fun i => if i = n then l' else T i, fun i hi => ?_⟩
  by_cases z : i = n
  · subst z
    refine ⟨by show (if i = i then nI l' else N i) = nI (if i = i then l' else T i); rw [if_pos rfl, if_pos rfl], ?_, by show (if i = i then l' else T i) ≤ l'; rw [if_pos rfl]; exact Nat.le_refl _⟩
    cases i with
    | zero => exact Nat.zero_le _
    | succ i =>
      show (if i = i + 1 then l' else T i) ≤ (if i + 1 = i + 1 then l' else T (i + 1))
      rw [if_neg (by omega), if_pos rfl]
      exact Nat.le_trans (hT i (by omega)).2.2 hl
  · have hi2 : i < n := by omega
    obtain ⟨a, b, c⟩ := hT i hi2
    refine ⟨by show (if i = n then nI l' else N i) = nI (if i = n then l' else T i); rw [if_neg z, if_neg z]; exact a, ?_, by show (if i = n then l' else T i) ≤ l'; rw [if_neg z]; exact Nat.le_trans c hl⟩
    cases i with
    | zero => exact Nat.zero_le _
    | succ i =>
      show (if i = n then l' else T i) ≤ (if i + 1 = n then l' else T (i + 1))
      rw [if_neg (by omega), if_neg z]; exact b
def FI (b : Nat → Int32) (s n : Nat) (c : Hp) (q : Nat) : Prop := ∃ (ch cm te op no : Nat) (nm sg nu : Int32) (W M N : Nat → Int32) (cd hd : List Int32), CS c b q ch cm te op no nm sg nu W M N cd hd ∧ cm ≤ 20 ∧ (s = 0 ∨ te ≤ 4) ∧ op ≤ 8 ∧ no ≤ 8 ∧ ch ≤ 12 ∧ ((s = 0 ∧ ch = n) ∨ (¬ s = 0 ∧ ch = n + 1)) ∧ EN N n cd.length ∧ (cd.length + hd.length + 2 ≤ q ∨ (s = 0 ∧ cd.length + hd.length = 0))
def FE (b : Nat → Int32) (Z : Hp) : Prop := (∃ k p, CE Z k p ∧ ¬ k = 0) ∨ ∃ (q ch cm te op no : Nat) (nm sg nu : Int32) (W M N : Nat → Int32) (cd hd : List Int32), CS Z b q ch cm te op no nm sg nu W M N cd hd ∧ 1 ≤ ch ∧ ch ≤ 12 ∧ EN N ch 299
def FO (b : Nat → Int32) (e j s : Nat) (c : Hp) (q : Nat) : Prop := (∃ s' n' c' q', rLp e (j + 1) s c = rLp e j s' c' ∧ FI b s' n' c' q' ∧ q + 1 ≤ q' ∧ q' ≤ e ∧ s' ≤ 11) ∨ FE b (rLp e (j + 1) s c)
theorem fs0 {b : Nat → Int32} {e j n q : Nat} {c : Hp} (he : e ≤ 300) (hq : q ≤ e) (f : FI b 0 n c q) : FO b e j 0 c q := by
  obtain ⟨ch, cm, te, op, no, nm, sg, nu, W, M, N, cd, hd, cs, h1, h2, h3, h4, h5, h6, h7, h8⟩ := f
  by_cases k5 : (tok b e q).2.2.1 = 5
  · have ad : q + 3 ≤ (tok b e q).1 := tok_w (j := 0) he hq (by decide) k5
    by_cases nn : ch = 12
    · exact Or.inr (Or.inl ⟨_, _, ft_chmany cs (by omega) (Or.inl k5) nn, by decide⟩)
    · obtain ⟨c1, z1, s1⟩ := st_put (j := j) cs (by omega) k5 (by omega)
      exact Or.inl ⟨1, n, c1, _, z1, ⟨_, _, _, _, _, _, _, _, _, _, _, _, _, s1, by omega, by omega, by omega, by omega, by omega, by omega, h7.le (by omega), Or.inl (by omega)⟩, by omega, tok_end he hq, by decide⟩
  by_cases k6 : (tok b e q).2.2.1 = 6
  · have ad : q + 6 ≤ (tok b e q).1 := tok_w (j := 1) he hq (by decide) k6
    by_cases nn : ch = 12
    · exact Or.inr (Or.inl ⟨_, _, ft_chmany cs (by omega) (Or.inr (Or.inl k6)) nn, by decide⟩)
    · obtain ⟨c1, z1, s1⟩ := st_strike (j := j) cs (by omega) k6 (by omega)
      exact Or.inl ⟨2, n, c1, _, z1, ⟨_, _, _, _, _, _, _, _, _, _, _, _, _, s1, by omega, by omega, by omega, by omega, by omega, by omega, h7.le (by omega), Or.inl (by omega)⟩, by omega, tok_end he hq, by decide⟩
  by_cases k7 : (tok b e q).2.2.1 = 7
  · have ad : q + 5 ≤ (tok b e q).1 := tok_w (j := 2) he hq (by decide) k7
    by_cases nn : ch = 12
    · exact Or.inr (Or.inl ⟨_, _, ft_chmany cs (by omega) (Or.inr (Or.inr k7)) nn, by decide⟩)
    · obtain ⟨c1, z1, s1⟩ := st_order (j := j) cs (by omega) k7 (by omega)
      exact Or.inl ⟨8, n, c1, _, z1, ⟨_, _, _, _, _, _, _, _, _, _, _, _, _, s1, by omega, by omega, by omega, by omega, by omega, by omega, h7.le (by omega), Or.inl (by omega)⟩, by omega, tok_end he hq, by decide⟩
  exact Or.inr (Or.inl ⟨_, _, ft_chform cs (by omega) k5 k6 k7, by decide⟩)
theorem fs1 {b : Nat → Int32} {e j n q : Nat} {c : Hp} (he : e ≤ 300) (hq : q ≤ e) (f : FI b 1 n c q) : FO b e j 1 c q := by
  obtain ⟨ch, cm, te, op, no, nm, sg, nu, W, M, N, cd, hd, cs, h1, h2, h3, h4, h5, h6, h7, h8⟩ := f
  by_cases k2 : (tok b e q).2.2.1 = 2
  · have ad := tok_adv he hq (by rw [k2]; decide)
    by_cases v1 : (tok b e q).2.2.2 < 1
    · exact Or.inr (Or.inl ⟨_, _, ft_pnum3 cs (by omega) k2 (Or.inl v1), by decide⟩)
    by_cases v2 : 12 < (tok b e q).2.2.2
    · exact Or.inr (Or.inl ⟨_, _, ft_pnum3 cs (by omega) k2 (Or.inr v2), by decide⟩)
    obtain ⟨c1, z1, s1⟩ := st_pnum (j := j) cs (by omega) (by omega) k2 v1 (Int32.not_lt.mp v2)
    exact Or.inl ⟨4, n, c1, _, z1, ⟨_, _, _, _, _, _, _, _, _, _, _, _, _, s1, by omega, by omega, by omega, by omega, by omega, by omega, h7.le (by omega), Or.inl (by omega)⟩, by omega, tok_end he hq, by decide⟩
  exact Or.inr (Or.inl ⟨_, _, ft_pnum1 cs (by omega) k2, by decide⟩)
theorem fs2 {b : Nat → Int32} {e j n q : Nat} {c : Hp} (he : e ≤ 300) (hq : q ≤ e) (f : FI b 2 n c q) : FO b e j 2 c q := by
  obtain ⟨ch, cm, te, op, no, nm, sg, nu, W, M, N, cd, hd, cs, h1, h2, h3, h4, h5, h6, h7, h8⟩ := f
  by_cases k2 : (tok b e q).2.2.1 = 2
  · have ad := tok_adv he hq (by rw [k2]; decide)
    by_cases v1 : (tok b e q).2.2.2 < 1
    · exact Or.inr (Or.inl ⟨_, _, ft_snum3 cs (by omega) k2 (Or.inl v1), by decide⟩)
    by_cases v2 : 12 < (tok b e q).2.2.2
    · exact Or.inr (Or.inl ⟨_, _, ft_snum3 cs (by omega) k2 (Or.inr v2), by decide⟩)
    obtain ⟨c1, z1, s1⟩ := st_snum (j := j) cs (by omega) (by omega) k2 v1 (Int32.not_lt.mp v2)
    exact Or.inl ⟨3, n, c1, _, z1, ⟨_, _, _, _, _, _, _, _, _, _, _, _, _, s1, by omega, by omega, by omega, by omega, by omega, by omega, h7.le (by omega), Or.inl (by omega)⟩, by omega, tok_end he hq, by decide⟩
  exact Or.inr (Or.inl ⟨_, _, ft_snum1 cs (by omega) k2, by decide⟩)
theorem fs3 {b : Nat → Int32} {e j n q : Nat} {c : Hp} (he : e ≤ 300) (hq : q ≤ e) (f : FI b 3 n c q) : FO b e j 3 c q := by
  obtain ⟨ch, cm, te, op, no, nm, sg, nu, W, M, N, cd, hd, cs, h1, h2, h3, h4, h5, h6, h7, h8⟩ := f
  by_cases k59 : (tok b e q).2.2.1 = 59
  · have ad := tok_adv he hq (by rw [k59]; decide)
    obtain ⟨c1, z1, s1⟩ := st_ch_semi (j := j) cs (by omega) (by omega) k59
    have ec : ch = n + 1 := by omega
    subst ec
    exact Or.inl ⟨0, n + 1, c1, _, z1, ⟨_, _, _, _, _, _, _, _, _, _, _, _, _, s1, by omega, by omega, by omega, by omega, by omega, by omega, EN.fin h7 (Nat.le_refl _), Or.inl (by omega)⟩, by omega, tok_end he hq, by decide⟩
  by_cases k0 : (tok b e q).2.2.1 = 0
  · obtain ⟨c1, z1, s1⟩ := st_ch_end (j := j) cs (by omega) (by omega) k0
    rw [rLp12] at z1
    have ec : ch = n + 1 := by omega
    subst ec
    exact Or.inr (Or.inr ⟨_, _, _, _, _, _, _, _, _, _, _, _, _, _, by rw [z1]; exact s1, by omega, by omega, (EN.fin h7 (Nat.le_refl _)).le (by omega)⟩)
  exact Or.inr (Or.inl ⟨_, _, ft_ch_else cs (by omega) k59 k0, by decide⟩)
theorem fs4 {b : Nat → Int32} {e j n q : Nat} {c : Hp} (he : e ≤ 300) (hq : q ≤ e) (f : FI b 4 n c q) : FO b e j 4 c q := by
  obtain ⟨ch, cm, te, op, no, nm, sg, nu, W, M, N, cd, hd, cs, h1, h2, h3, h4, h5, h6, h7, h8⟩ := f
  by_cases k10 : (tok b e q).2.2.1 = 10
  · have ad := tok_adv he hq (by rw [k10]; decide)
    by_cases nn : no = 8
    · exact Or.inr (Or.inl ⟨_, _, ft_not cs (by omega) k10 nn, by decide⟩)
    · obtain ⟨c1, z1, s1⟩ := st_not (j := j) cs (by omega) k10 (by omega)
      have a := aw_len 10 hd
      exact Or.inl ⟨4, n, c1, _, z1, ⟨_, _, _, _, _, _, _, _, _, _, _, _, _, s1, by omega, by omega, by omega, by omega, by omega, by omega, h7.le (by omega), Or.inl (by omega)⟩, by omega, tok_end he hq, by decide⟩
  by_cases k40 : (tok b e q).2.2.1 = 40
  · have ad := tok_adv he hq (by rw [k40]; decide)
    by_cases nn : op = 8
    · exact Or.inr (Or.inl ⟨_, _, ft_br cs (by omega) k40 nn, by decide⟩)
    · obtain ⟨c1, z1, s1⟩ := st_br (j := j) cs (by omega) k40 (by omega)
      have a := aw_len 40 hd
      exact Or.inl ⟨4, n, c1, _, z1, ⟨_, _, _, _, _, _, _, _, _, _, _, _, _, s1, by omega, by omega, by omega, by omega, by omega, by omega, h7.le (by omega), Or.inl (by omega)⟩, by omega, tok_end he hq, by decide⟩
  by_cases k4 : (tok b e q).2.2.1 = 4
  · have ad := tok_adv he hq (by rw [k4]; decide)
    by_cases nn : cm = 20
    · exact Or.inr (Or.inl ⟨_, _, ft_name cs (by omega) k4 nn, by decide⟩)
    · obtain ⟨c1, z1, s1⟩ := st_name (j := j) cs (by omega) k4 (by omega)
      exact Or.inl ⟨5, n, c1, _, z1, ⟨_, _, _, _, _, _, _, _, _, _, _, _, _, s1, by omega, by omega, by omega, by omega, by omega, by omega, h7.le (by omega), Or.inl (by omega)⟩, by omega, tok_end he hq, by decide⟩
  exact Or.inr (Or.inl ⟨_, _, ft_one cs (by omega) k10 k40 k4, by split <;> decide⟩)
theorem fs5 {b : Nat → Int32} {e j n q : Nat} {c : Hp} (he : e ≤ 300) (hq : q ≤ e) (f : FI b 5 n c q) : FO b e j 5 c q := by
  obtain ⟨ch, cm, te, op, no, nm, sg, nu, W, M, N, cd, hd, cs, h1, h2, h3, h4, h5, h6, h7, h8⟩ := f
  by_cases kk : ((tok b e q).2.2.1 = 60 ∨ (tok b e q).2.2.1 = 62 ∨ (tok b e q).2.2.1 = 61)
  · have ad := tok_adv he hq (by rcases kk with z | z | z <;> (rw [z]; decide))
    obtain ⟨c1, z1, s1⟩ := st_sign (j := j) cs (by omega) kk
    exact Or.inl ⟨6, n, c1, _, z1, ⟨_, _, _, _, _, _, _, _, _, _, _, _, _, s1, by omega, by omega, by omega, by omega, by omega, by omega, h7.le (by omega), Or.inl (by omega)⟩, by omega, tok_end he hq, by decide⟩
  exact Or.inr (Or.inl ⟨_, _, ft_sign cs (by omega) kk, by decide⟩)
theorem fs6 {b : Nat → Int32} {e j n q : Nat} {c : Hp} (he : e ≤ 300) (hq : q ≤ e) (f : FI b 6 n c q) : FO b e j 6 c q := by
  obtain ⟨ch, cm, te, op, no, nm, sg, nu, W, M, N, cd, hd, cs, h1, h2, h3, h4, h5, h6, h7, h8⟩ := f
  by_cases k2 : (tok b e q).2.2.1 = 2
  · have ad := tok_adv he hq (by rw [k2]; decide)
    obtain ⟨c1, z1, s1⟩ := st_value (j := j) cs (by omega) k2
    have a := aw_len (xMk sg nm (tok b e q).2.2.2) cd
    have a2 := aRel_len 10 hd (aw (xMk sg nm (tok b e q).2.2.2) cd)
    exact Or.inl ⟨7, n, c1, _, z1, ⟨_, _, _, _, _, _, _, _, _, _, _, _, _, s1, by omega, by omega, by omega, by omega, by omega, by omega, h7.le (by omega), Or.inl (by omega)⟩, by omega, tok_end he hq, by decide⟩
  exact Or.inr (Or.inl ⟨_, _, ft_value cs (by omega) k2, by decide⟩)
theorem fs7 {b : Nat → Int32} {e j n q : Nat} {c : Hp} (he : e ≤ 300) (hq : q ≤ e) (f : FI b 7 n c q) : FO b e j 7 c q := by
  obtain ⟨ch, cm, te, op, no, nm, sg, nu, W, M, N, cd, hd, cs, h1, h2, h3, h4, h5, h6, h7, h8⟩ := f
  by_cases k9 : (tok b e q).2.2.1 = 9
  · have ad := tok_adv he hq (by rw [k9]; decide)
    obtain ⟨c1, z1, s1⟩ := st_and (j := j) cs (by omega) k9
    have a := aRel_len 9 hd cd
    have a2 := aw_len 9 (aRel 9 hd cd).1
    exact Or.inl ⟨4, n, c1, _, z1, ⟨_, _, _, _, _, _, _, _, _, _, _, _, _, s1, by omega, by omega, by omega, by omega, by omega, by omega, h7.le (by omega), Or.inl (by omega)⟩, by omega, tok_end he hq, by decide⟩
  by_cases k8 : (tok b e q).2.2.1 = 8
  · have ad := tok_adv he hq (by rw [k8]; decide)
    obtain ⟨c1, z1, s1⟩ := st_or (j := j) cs (by omega) k8
    have a := aRel_len 9 hd cd
    have a2 := aw_len 8 (aRel 9 hd cd).1
    exact Or.inl ⟨4, n, c1, _, z1, ⟨_, _, _, _, _, _, _, _, _, _, _, _, _, s1, by omega, by omega, by omega, by omega, by omega, by omega, h7.le (by omega), Or.inl (by omega)⟩, by omega, tok_end he hq, by decide⟩
  by_cases ho : op = 0
  · by_cases k59 : (tok b e q).2.2.1 = 59
    · have ad := tok_adv he hq (by rw [k59]; decide)
      obtain ⟨c1, z1, s1⟩ := st_any_semi (j := j) cs (by omega) (by omega) ho k59
      have a := aEa_len hd cd
      have ec : ch = n + 1 := by omega
      subst ec
      exact Or.inl ⟨0, n + 1, c1, _, z1, ⟨_, _, _, _, _, _, _, _, _, _, _, _, _, s1, by omega, by omega, by omega, by omega, by omega, by omega, EN.fin h7 (aEa_len hd cd).1, Or.inl (by omega)⟩, by omega, tok_end he hq, by decide⟩
    by_cases k0 : (tok b e q).2.2.1 = 0
    · obtain ⟨c1, z1, s1⟩ := st_any_end (j := j) cs (by omega) (by omega) ho k0
      have a := aEa_len hd cd
      rw [rLp12] at z1
      have ec : ch = n + 1 := by omega
      subst ec
      exact Or.inr (Or.inr ⟨_, _, _, _, _, _, _, _, _, _, _, _, _, _, by rw [z1]; exact s1, by omega, by omega, (EN.fin h7 (aEa_len hd cd).1).le (by omega)⟩)
    exact Or.inr (Or.inl ⟨_, _, ft_any_else cs (by omega) ho k59 k0 k9 k8, by decide⟩)
  by_cases k41 : (tok b e q).2.2.1 = 41
  · have ad := tok_adv he hq (by rw [k41]; decide)
    obtain ⟨c1, z1, s1⟩ := st_close (j := j) cs (by omega) k41 (by omega) (by omega)
    have a := aCb_len hd cd
    exact Or.inl ⟨7, n, c1, _, z1, ⟨_, _, _, _, _, _, _, _, _, _, _, _, _, s1, by omega, by omega, by omega, by omega, by omega, by omega, h7.le (by omega), Or.inl (by omega)⟩, by omega, tok_end he hq, by decide⟩
  exact Or.inr (Or.inl ⟨_, _, ft_close cs (by omega) k9 k8 k41 (by omega) (by omega), by decide⟩)
theorem fs8 {b : Nat → Int32} {e j n q : Nat} {c : Hp} (he : e ≤ 300) (hq : q ≤ e) (f : FI b 8 n c q) : FO b e j 8 c q := by
  obtain ⟨ch, cm, te, op, no, nm, sg, nu, W, M, N, cd, hd, cs, h1, h2, h3, h4, h5, h6, h7, h8⟩ := f
  by_cases k2 : (tok b e q).2.2.1 = 2
  · have ad := tok_adv he hq (by rw [k2]; decide)
    by_cases nn : te = 4
    · exact Or.inr (Or.inl ⟨_, _, ft_tmany cs (by omega) (Or.inl k2) nn, by decide⟩)
    · obtain ⟨c1, z1, s1⟩ := st_tnum (j := j) cs (by omega) k2 (by omega)
      exact Or.inl ⟨9, n, c1, _, z1, ⟨_, _, _, _, _, _, _, _, _, _, _, _, _, s1, by omega, by omega, by omega, by omega, by omega, by omega, h7.le (by omega), Or.inl (by omega)⟩, by omega, tok_end he hq, by decide⟩
  by_cases k4 : (tok b e q).2.2.1 = 4
  · have ad := tok_adv he hq (by rw [k4]; decide)
    by_cases nn : te = 4
    · exact Or.inr (Or.inl ⟨_, _, ft_tmany cs (by omega) (Or.inr k4) nn, by decide⟩)
    · obtain ⟨c1, z1, s1⟩ := st_tname (j := j) cs (by omega) k4 (by omega)
      have a := aw_len (xMk 2 (tok b e q).2.2.2 1) cd
      exact Or.inl ⟨11, n, c1, _, z1, ⟨_, _, _, _, _, _, _, _, _, _, _, _, _, s1, by omega, by omega, by omega, by omega, by omega, by omega, h7.le (by omega), Or.inl (by omega)⟩, by omega, tok_end he hq, by decide⟩
  exact Or.inr (Or.inl ⟨_, _, ft_term cs (by omega) k2 k4, by split <;> decide⟩)
theorem fs9 {b : Nat → Int32} {e j n q : Nat} {c : Hp} (he : e ≤ 300) (hq : q ≤ e) (f : FI b 9 n c q) : FO b e j 9 c q := by
  obtain ⟨ch, cm, te, op, no, nm, sg, nu, W, M, N, cd, hd, cs, h1, h2, h3, h4, h5, h6, h7, h8⟩ := f
  by_cases k59 : (tok b e q).2.2.1 = 59
  · have ad := tok_adv he hq (by rw [k59]; decide)
    obtain ⟨c1, z1, s1⟩ := st_num_semi (j := j) cs (by omega) (by omega) k59
    have a := aw_len (xMk 2 5 nu) cd
    have ec : ch = n + 1 := by omega
    subst ec
    exact Or.inl ⟨0, n + 1, c1, _, z1, ⟨_, _, _, _, _, _, _, _, _, _, _, _, _, s1, by omega, by omega, by omega, by omega, by omega, by omega, EN.fin h7 (aw_len _ _).1, Or.inl (by omega)⟩, by omega, tok_end he hq, by decide⟩
  by_cases k0 : (tok b e q).2.2.1 = 0
  · obtain ⟨c1, z1, s1⟩ := st_num_end (j := j) cs (by omega) (by omega) k0
    have a := aw_len (xMk 2 5 nu) cd
    rw [rLp12] at z1
    have ec : ch = n + 1 := by omega
    subst ec
    exact Or.inr (Or.inr ⟨_, _, _, _, _, _, _, _, _, _, _, _, _, _, by rw [z1]; exact s1, by omega, by omega, (EN.fin h7 (aw_len _ _).1).le (by omega)⟩)
  by_cases k43 : (tok b e q).2.2.1 = 43
  · have ad := tok_adv he hq (by rw [k43]; decide)
    obtain ⟨c1, z1, s1⟩ := st_nplus (j := j) cs (by omega) k43
    have a := aw_len (xMk 2 5 nu) cd
    exact Or.inl ⟨8, n, c1, _, z1, ⟨_, _, _, _, _, _, _, _, _, _, _, _, _, s1, by omega, by omega, by omega, by omega, by omega, by omega, h7.le (by omega), Or.inl (by omega)⟩, by omega, tok_end he hq, by decide⟩
  by_cases k42 : (tok b e q).2.2.1 = 42
  · have ad := tok_adv he hq (by rw [k42]; decide)
    obtain ⟨c1, z1, s1⟩ := st_star (j := j) cs (by omega) k42
    exact Or.inl ⟨10, n, c1, _, z1, ⟨_, _, _, _, _, _, _, _, _, _, _, _, _, s1, by omega, by omega, by omega, by omega, by omega, by omega, h7.le (by omega), Or.inl (by omega)⟩, by omega, tok_end he hq, by decide⟩
  exact Or.inr (Or.inl ⟨_, _, ft_num_else cs (by omega) k59 k0 k43 k42, by decide⟩)
theorem fs10 {b : Nat → Int32} {e j n q : Nat} {c : Hp} (he : e ≤ 300) (hq : q ≤ e) (f : FI b 10 n c q) : FO b e j 10 c q := by
  obtain ⟨ch, cm, te, op, no, nm, sg, nu, W, M, N, cd, hd, cs, h1, h2, h3, h4, h5, h6, h7, h8⟩ := f
  by_cases k4 : (tok b e q).2.2.1 = 4
  · have ad := tok_adv he hq (by rw [k4]; decide)
    obtain ⟨c1, z1, s1⟩ := st_fac (j := j) cs (by omega) k4
    have a := aw_len (xMk 2 (tok b e q).2.2.2 nu) cd
    exact Or.inl ⟨11, n, c1, _, z1, ⟨_, _, _, _, _, _, _, _, _, _, _, _, _, s1, by omega, by omega, by omega, by omega, by omega, by omega, h7.le (by omega), Or.inl (by omega)⟩, by omega, tok_end he hq, by decide⟩
  exact Or.inr (Or.inl ⟨_, _, ft_fac cs (by omega) k4, by split <;> decide⟩)
theorem fs11 {b : Nat → Int32} {e j n q : Nat} {c : Hp} (he : e ≤ 300) (hq : q ≤ e) (f : FI b 11 n c q) : FO b e j 11 c q := by
  obtain ⟨ch, cm, te, op, no, nm, sg, nu, W, M, N, cd, hd, cs, h1, h2, h3, h4, h5, h6, h7, h8⟩ := f
  by_cases k59 : (tok b e q).2.2.1 = 59
  · have ad := tok_adv he hq (by rw [k59]; decide)
    obtain ⟨c1, z1, s1⟩ := st_term_semi (j := j) cs (by omega) (by omega) k59
    have ec : ch = n + 1 := by omega
    subst ec
    exact Or.inl ⟨0, n + 1, c1, _, z1, ⟨_, _, _, _, _, _, _, _, _, _, _, _, _, s1, by omega, by omega, by omega, by omega, by omega, by omega, EN.fin h7 (Nat.le_refl _), Or.inl (by omega)⟩, by omega, tok_end he hq, by decide⟩
  by_cases k0 : (tok b e q).2.2.1 = 0
  · obtain ⟨c1, z1, s1⟩ := st_term_end (j := j) cs (by omega) (by omega) k0
    rw [rLp12] at z1
    have ec : ch = n + 1 := by omega
    subst ec
    exact Or.inr (Or.inr ⟨_, _, _, _, _, _, _, _, _, _, _, _, _, _, by rw [z1]; exact s1, by omega, by omega, (EN.fin h7 (Nat.le_refl _)).le (by omega)⟩)
  by_cases k43 : (tok b e q).2.2.1 = 43
  · have ad := tok_adv he hq (by rw [k43]; decide)
    obtain ⟨c1, z1, s1⟩ := st_plus (j := j) cs (by omega) k43
    exact Or.inl ⟨8, n, c1, _, z1, ⟨_, _, _, _, _, _, _, _, _, _, _, _, _, s1, by omega, by omega, by omega, by omega, by omega, by omega, h7.le (by omega), Or.inl (by omega)⟩, by omega, tok_end he hq, by decide⟩
  exact Or.inr (Or.inl ⟨_, _, ft_term_else cs (by omega) k59 k0 k43, by decide⟩)
theorem fs_any {b : Nat → Int32} {e j s n q : Nat} {c : Hp} (hs : s ≤ 11) (he : e ≤ 300) (hq : q ≤ e) (f : FI b s n c q) : FO b e j s c q := by
  match s, hs, f with
  | 0, _, f => exact fs0 he hq f
  | 1, _, f => exact fs1 he hq f
  | 2, _, f => exact fs2 he hq f
  | 3, _, f => exact fs3 he hq f
  | 4, _, f => exact fs4 he hq f
  | 5, _, f => exact fs5 he hq f
  | 6, _, f => exact fs6 he hq f
  | 7, _, f => exact fs7 he hq f
  | 8, _, f => exact fs8 he hq f
  | 9, _, f => exact fs9 he hq f
  | 10, _, f => exact fs10 he hq f
  | 11, _, f => exact fs11 he hq f
theorem f_all {b : Nat → Int32} {e : Nat} (he : e ≤ 300) : ∀ (j s n : Nat) (c : Hp) (q : Nat), s ≤ 11 → q ≤ e → e + 1 ≤ q + j → FI b s n c q → FE b (rLp e j s c)
  | 0, _, _, _, _, _, hq, hj, _ => absurd hj (by omega)
  | j + 1, s, n, c, q, hs, hq, hj, f => by
    rcases fs_any (j := j) hs he hq f with ⟨s', n', c', q', z, f', h1, h2, h3⟩ | h
    · rw [z]; exact f_all he j s' n' c' q' h3 h2 (by omega) f'
    · exact h
theorem f_read {b : Nat → Int32} {e j te : Nat} (he : e ≤ 300) {c : Hp} {nm sg nu : Int32} {W M N : Nat → Int32} (hj : e + 1 ≤ j) (cs : CS c b 0 0 0 te 0 0 nm sg nu W M N [] []) : FE b (rLp e j 0 c) := f_all he j 0 0 c 0 (by decide) (Nat.zero_le e) (by omega) ⟨0, 0, te, 0, 0, nm, sg, nu, W, M, N, [], [], cs, by decide, Or.inl rfl, by decide, by decide, by decide, Or.inl ⟨rfl, rfl⟩, ⟨fun _ => 0, fun i hi => absurd hi (by omega)⟩, Or.inr ⟨rfl, rfl⟩⟩
