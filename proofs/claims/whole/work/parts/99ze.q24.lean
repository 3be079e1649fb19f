/-- an order -/
theorem TS_order_s {b : Nat → Int32} {e : Nat} {Z : Hp} {cp k n : Nat} {h : Hp} {q : Nat} {rl : List mOp} {te : Nat} {W M N : Nat → Int32} {cd : List Int32} (he : e ≤ 300) (hq : q ≤ e) (hn : n < 12) (s : SE_s b e Z (n + 1) cp 0 W M N cd [] k n h q te) (ht : te ≤ 4) (n43 : ¬ (tok b e q).2.2.1 = 43) (d : DL_s h k W M N n cd rl) (w : W n = 7) (h40 : vi h (50, 0) n = 2) (h41 : vi h (51, 0) n = M n) (hm : M n = 0) (h42 : vi h (52, 0) n = nI rl.length) (h43 : vi h (53, 0) n = nI rl.length) (h44 : vi h (54, 0) n = nI te) : TS_s b e Z cp k n h q rl := by
  have dd : ∀ T : List Int32, T.length = te → TmR_s h k n T → DL_s h k W M (fun i => if i = n then nI (T ++ cd).length else N i) (n + 1) (T ++ cd) rl := fun T hT t => ⟨T, [], cd, rl, rfl, rfl, ⟨if_pos rfl, h42, h43, h41, Or.inr ⟨w, h40, hm, by omega, by rw [hT]; exact h44, t⟩⟩, DL_c_s n cd rl DF_N_s d⟩
  obtain ⟨c, j, nm, sg, nu, T, cs, hj, ⟨hZ, hT, t, hl⟩ | ⟨hZ, hT, t, hl, n42⟩⟩ := s
  · obtain ⟨j, rfl⟩ : ∃ j2, j = j2 + 1 := ⟨j - 1, by omega⟩
    have l0 : ([] : List Int32).length = 0 := rfl
    refine ⟨fun hk => ?_, fun hk => ?_, fun a1 a2 => ?_⟩
    · have ad := tok_adv he hq (by rw [hk]; decide)
      obtain ⟨c1, z1, s1⟩ := st_term_semi (j := j) cs (by omega) (by omega) hk
      exact ⟨c1, j, te, nm, sg, nu, _, _, _, _, s1, hZ.trans z1, by omega, dd T hT t, by rw [List.length_append]; omega⟩
    · obtain ⟨c1, z1, s1⟩ := st_term_end (j := j) cs (by omega) (by omega) hk
      rw [rLp12] at z1
      exact ⟨te, nm, sg, nu, _, _, _, _, by rw [hZ, z1]; exact s1, dd T hT t⟩
    · rw [hZ]; exact ft_term_else cs (by omega) a1 a2 n43
  · obtain ⟨j, rfl⟩ : ∃ j2, j = j2 + 1 := ⟨j - 1, by omega⟩
    have l0 : ([] : List Int32).length = 0 := rfl
    have aa : aw (xMk 2 5 nu) (T ++ cd) = (xMk 2 5 nu :: T) ++ cd := aw_lt (by rw [List.length_append]; omega)
    refine ⟨fun hk => ?_, fun hk => ?_, fun a1 a2 => ?_⟩
    · have ad := tok_adv he hq (by rw [hk]; decide)
      obtain ⟨c1, z1, s1⟩ := st_num_semi (j := j) cs (by omega) (by omega) hk
      rw [aa] at s1
      exact ⟨c1, j, te, nm, sg, nu, _, _, _, _, s1, hZ.trans z1, by omega, dd (xMk 2 5 nu :: T) hT t, by rw [List.length_append, List.length_cons]; omega⟩
    · obtain ⟨c1, z1, s1⟩ := st_num_end (j := j) cs (by omega) (by omega) hk
      rw [aa] at s1
      rw [rLp12] at z1
      exact ⟨te, nm, sg, nu, _, _, _, _, by rw [hZ, z1]; exact s1, dd (xMk 2 5 nu :: T) hT t⟩
    · rw [hZ]; exact ft_num_else cs (by omega) a1 a2 n43 n42
