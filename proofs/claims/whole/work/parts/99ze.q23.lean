/-- a put -/
theorem TS_put_s {b : Nat → Int32} {e : Nat} {Z : Hp} {cp k n : Nat} {h : Hp} {q : Nat} {rl Bm : List mOp} {c : Hp} {j te m o : Nat} {nm sg nu : Int32} {W M N : Nat → Int32} {cd Bc P : List Int32} (he : e ≤ 300) (hq : q ≤ e) (hn : n < 12) (cs : CS c b q (n + 1) cp te 0 0 nm sg nu W M N (Bc ++ cd) (P ++ (List.replicate o 8 ++ []))) (hZ : Z = rLp e j 7 c) (hj : e + 1 ≤ q + j) (hP : P = [] ∨ P = [9]) (bl : OrB o (P ++ Bc) Bm) (ok : opsOK Bm) (hc : nPs Bc ≤ 20) (hl : Bc.length + cd.length + P.length + o + 3 ≤ q) (n9 : ¬ (tok b e q).2.2.1 = 9) (n8 : ¬ (tok b e q).2.2.1 = 8) (d : DL_s h k W M N n cd rl) (w : W n = 5) (h40 : vi h (50, 0) n = 0) (h41 : vi h (51, 0) n = M n) (m1 : 1 ≤ m) (m2 : m ≤ 12) (hm : M n = nI m) (h42 : vi h (52, 0) n = nI rl.length) (h43 : vi h (53, 0) n = nI (Bm ++ rl).length) : TS_s b e Z cp k n h q (Bm ++ rl) := by
  obtain ⟨j, rfl⟩ : ∃ j2, j = j2 + 1 := ⟨j - 1, by omega⟩
  have ea : aEa (P ++ (List.replicate o 8 ++ [])) (Bc ++ cd) = ([], List.replicate o 8 ++ (P ++ (Bc ++ cd))) := aEa_eq hP (fun z => (by cases z)) (fun z => (by cases z)) (by rw [List.length_append]; omega)
  have as : List.replicate o 8 ++ (P ++ (Bc ++ cd)) = (List.replicate o 8 ++ (P ++ Bc)) ++ cd := by rw [List.append_assoc, List.append_assoc]
  have dd : DL_s h k W M (fun i => if i = n then nI (List.replicate o 8 ++ (P ++ (Bc ++ cd))).length else N i) (n + 1) (List.replicate o 8 ++ (P ++ (Bc ++ cd))) (Bm ++ rl) := ⟨List.replicate o 8 ++ (P ++ Bc), Bm, cd, rl, as, rfl, ⟨if_pos rfl, h42, h43, h41, Or.inl ⟨m, m1, m2, hm, Or.inl ⟨w, h40, bl.fin, ok, by rw [nPs_rep8, nPs_P hP]; exact hc⟩⟩⟩, DL_c_s n cd rl DF_N_s d⟩
  have ll : (List.replicate o (8 : Int32) ++ (P ++ (Bc ++ cd))).length = o + (P.length + (Bc.length + cd.length)) := by rw [List.length_append, List.length_append, List.length_append, List.length_replicate]
  refine ⟨fun hk => ?_, fun hk => ?_, fun a1 a2 => ?_⟩
  · have ad := tok_adv he hq (by rw [hk]; decide)
    obtain ⟨c1, z1, s1⟩ := st_any_semi (j := j) cs (by omega) (by omega) rfl hk
    rw [ea] at s1
    exact ⟨c1, j, te, nm, sg, nu, _, _, _, _, s1, hZ.trans z1, by omega, dd, by rw [ll]; omega⟩
  · obtain ⟨c1, z1, s1⟩ := st_any_end (j := j) cs (by omega) (by omega) rfl hk
    rw [ea] at s1
    rw [rLp12] at z1
    exact ⟨te, nm, sg, nu, _, _, _, _, by rw [hZ, z1]; exact s1, dd⟩
  · rw [hZ]; exact ft_any_else cs (by omega) rfl a1 a2 n9 n8
