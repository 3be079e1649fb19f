/-- a change is read but for the token behind it -/
def TS_s (b : Nat → Int32) (e : Nat) (Z : Hp) (cp k n : Nat) (h : Hp) (q : Nat) (rl : List mOp) : Prop :=
  ((tok b e q).2.2.1 = 59 → ∃ (c : Hp) (j te : Nat) (nm sg nu : Int32) (W M N : Nat → Int32) (cd : List Int32), CS c b (tok b e q).1 (n + 1) cp te 0 0 nm sg nu W M N cd [] ∧ Z = rLp e j 0 c ∧ e + 1 ≤ (tok b e q).1 + j ∧ DL_s h k W M N (n + 1) cd rl ∧ cd.length ≤ (tok b e q).1) ∧
  ((tok b e q).2.2.1 = 0 → ∃ (te : Nat) (nm sg nu : Int32) (W M N : Nat → Int32) (cd : List Int32), CS Z b (tok b e q).1 (n + 1) cp te 0 0 nm sg nu W M N cd [] ∧ DL_s h k W M N (n + 1) cd rl) ∧
  (¬ (tok b e q).2.2.1 = 59 → ¬ (tok b e q).2.2.1 = 0 → CE Z 1 (tok b e q).2.1)
theorem DF_N_s {k n : Nat} {h : Hp} {W M N : Nat → Int32} {x : Int32} : DF_s k n h h W M N W M (fun i => if i = n then x else N i) := ⟨fun _ _ _ _ => rfl, fun _ _ => rfl, fun _ _ => rfl, fun _ _ => rfl, fun _ _ => rfl, fun i hi => if_neg (by omega)⟩
/-- a strike -/
theorem TS_strike_s {b : Nat → Int32} {e : Nat} {Z : Hp} {cp k n : Nat} {h : Hp} {q : Nat} {rl : List mOp} {c : Hp} {j te m : Nat} {nm sg nu : Int32} {W M N : Nat → Int32} {cd : List Int32} (he : e ≤ 300) (hq : q ≤ e) (hn : n < 12) (cs : CS c b q (n + 1) cp te 0 0 nm sg nu W M N cd []) (hZ : Z = rLp e j 3 c) (hj : e + 1 ≤ q + j) (hl : cd.length ≤ q) (d : DL_s h k W M N n cd rl) (w : W n = 6) (h40 : vi h (50, 0) n = 1) (h41 : vi h (51, 0) n = M n) (m1 : 1 ≤ m) (m2 : m ≤ 12) (hm : M n = nI m) (h42 : vi h (52, 0) n = nI rl.length) (h43 : vi h (53, 0) n = nI rl.length) : TS_s b e Z cp k n h q rl := by
  obtain ⟨j, rfl⟩ : ∃ j2, j = j2 + 1 := ⟨j - 1, by omega⟩
  have dd : DL_s h k W M (fun i => if i = n then nI cd.length else N i) (n + 1) cd rl := ⟨[], [], cd, rl, rfl, rfl, ⟨if_pos rfl, h42, h43, h41, Or.inl ⟨m, m1, m2, hm, Or.inr ⟨w, h40⟩⟩⟩, DL_c_s n cd rl DF_N_s d⟩
  refine ⟨fun hk => ?_, fun hk => ?_, fun a1 a2 => ?_⟩
  · have ad := tok_adv he hq (by rw [hk]; decide)
    obtain ⟨c1, z1, s1⟩ := st_ch_semi (j := j) cs (by omega) (by omega) hk
    exact ⟨c1, j, te, nm, sg, nu, _, _, _, cd, s1, hZ.trans z1, by omega, dd, by omega⟩
  · obtain ⟨c1, z1, s1⟩ := st_ch_end (j := j) cs (by omega) (by omega) hk
    rw [rLp12] at z1
    exact ⟨te, nm, sg, nu, _, _, _, cd, by rw [hZ, z1]; exact s1, dd⟩
  · rw [hZ]; exact ft_ch_else cs (by omega) a1 a2
