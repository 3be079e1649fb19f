set_option maxRecDepth 20000 in
theorem one_how_s (g : G0) {k : Nat} {b : Nat → Int32} {e : Nat} {Z : Hp} {ch te dp : Nat} {nu : Int32} {W M N : Nat → Int32} {h0 : Hp} {q0 cp : Nat} {rl : List mOp} {cd hd : List Int32} {d i n : Nat} {h c : Hp} {j q cp' : Nat} {sg : Int32} (he : e ≤ 300) (hi : i ≤ 8) (hn : n < 5) (r : RS_s h k b e q dp cp' rl) (cs : CS c b q ch cp' te dp 0 (nI n) sg nu W M N cd (List.replicate i 10 ++ hd)) (hh : hd.head? ≠ some 10) (hZ : Z = rLp e j 5 c) (hj : e + 1 ≤ q + j) (hq : q ≤ e) (hp : 1 + cp = cp') (hq0 : q0 + 3 * i + 3 ≤ q) (hl : cd.length + i + hd.length + 2 ≤ q) (hc : cp' ≤ 20) (hr : 3 * rl.length ≤ q0) (E0 : Eqv (fPs_s k) h0 h) {w : Int32} (hw : (∃ s, (s = 60 ∨ s = 62 ∨ s = 61) ∧ (tok b e q).2.2.1 = nI s ∧ w = mSg (nI s)) ∨ (w = -1 ∧ ¬ ((tok b e q).2.2.1 = 60 ∨ (tok b e q).2.2.1 = 62 ∨ (tok b e q).2.2.1 = 61))) : V g kfX14_readOne (d + 8) 0 0 182 [(3, pI (nI n)), (2, pI (nI i)), (0, pR (32, 0)), (1, pR (34, 0))] [pI w] h (PQ1_s k b e Z ch te dp nu W M N h0 q0 cp rl cd hd) (fun _ _ a h' => PX_s k Z h0 a h') := by
  have hM := r.1
  refine v_istore dX14_readOne_182 (by decide) ?_
  refine v_iload dX14_readOne_184 rfl ?_
  refine v_iconst (-1) dX14_readOne_186 (by decide) ?_
  refine v_icmp_ne 196 dX14_readOne_187 (by decide) (fun c187 => ?_) (fun c187 => ?_)
  · rcases hw with ⟨s, hs, hk, rfl⟩ | ⟨rfl, -⟩
    · exact one_val_s g (d := d + 6) he hi hn hs hk r cs hh hZ hj hq hp hq0 hl hc hr E0
    · exact absurd rfl c187
  · refine v_aload_n dX14_readOne_190 rfl ?_
    refine v_iconst (1) dX14_readOne_191 (by decide) ?_
    refine v_invVE (M_stop g h hM) dX14_readOne_192 cwX14_stop mlX14_196 (ob_32 _) rfl rfl (by omega) (by decide) (Nat.le_of_ble_eq_true rfl) ?_
    refine v_athrow dX14_readOne_195 ?_
    rcases hw with ⟨s, hs, hk, rfl⟩ | ⟨rfl, ns⟩
    · exact absurd c187 (by rcases hs with z | z | z <;> (rw [z]; decide))
    · obtain ⟨j, rfl⟩ : ∃ j2, j = j2 + 1 := ⟨j - 1, by omega⟩
      exact PX_st_s E0 r.2.2.2.2.1 (by rw [hZ]; exact ft_sign cs (by omega) ns)
set_option maxRecDepth 20000 in
theorem one_sgn_s (g : G0) {k : Nat} {b : Nat → Int32} {e : Nat} {Z : Hp} {ch te dp : Nat} {nu : Int32} {W M N : Nat → Int32} {h0 : Hp} {q0 cp : Nat} {rl : List mOp} {cd hd : List Int32} {d i n : Nat} {h c : Hp} {j q cp' : Nat} {sg : Int32} (he : e ≤ 300) (hi : i ≤ 8) (hn : n < 5) (r : RS_s h k b e q dp cp' rl) (cs : CS c b q ch cp' te dp 0 (nI n) sg nu W M N cd (List.replicate i 10 ++ hd)) (hh : hd.head? ≠ some 10) (hZ : Z = rLp e j 5 c) (hj : e + 1 ≤ q + j) (hq : q ≤ e) (hp : 1 + cp = cp') (hq0 : q0 + 3 * i + 3 ≤ q) (hl : cd.length + i + hd.length + 2 ≤ q) (hc : cp' ≤ 20) (hr : 3 * rl.length ≤ q0) (E0 : Eqv (fPs_s k) h0 h) : V g kfX14_readOne (d + 8) 0 0 142 [(3, pI (nI n)), (2, pI (nI i)), (0, pR (32, 0)), (1, pR (34, 0))] [] h (PQ1_s k b e Z ch te dp nu W M N h0 q0 cp rl cd hd) (fun _ _ a h' => PX_s k Z h0 a h') := by
  have hM := r.1
  have t := r.2.2.2.2.1
  refine v_aload_n dX14_readOne_142 rfl ?_
  refine v_bipush (60) dX14_readOne_143 (by decide) ?_
  refine v_invVE (M_is g h hM) dX14_readOne_145 cwX14_is mlX14_249 (ob_32 _) rfl rfl (by omega) (by decide) (Nat.le_of_ble_eq_true rfl) ?_
  refine v_if_eq 155 dX14_readOne_148 (by decide) (fun c148 => ?_) (fun c148 => ?_)
  · refine v_aload_n dX14_readOne_155 rfl ?_
    refine v_bipush (62) dX14_readOne_156 (by decide) ?_
    refine v_invVE (M_is g h hM) dX14_readOne_158 cwX14_is mlX14_249 (ob_32 _) rfl rfl (by omega) (by decide) (Nat.le_of_ble_eq_true rfl) ?_
    refine v_if_eq 168 dX14_readOne_161 (by decide) (fun c161 => ?_) (fun c161 => ?_)
    · refine v_aload_n dX14_readOne_168 rfl ?_
      refine v_bipush (61) dX14_readOne_169 (by decide) ?_
      refine v_invVE (M_is g h hM) dX14_readOne_171 cwX14_is mlX14_249 (ob_32 _) rfl rfl (by omega) (by decide) (Nat.le_of_ble_eq_true rfl) ?_
      refine v_if_eq 181 dX14_readOne_174 (by decide) (fun c174 => ?_) (fun c174 => ?_)
      · refine v_iconst (-1) dX14_readOne_181 (by decide) ?_
        first
         | exact one_how_s g he hi hn r cs hh hZ hj hq hp hq0 hl hc hr E0 (Or.inl ⟨60, Or.inl rfl, (t.mi rfl).mp c148, by decide⟩)
         | exact one_how_s g he hi hn r cs hh hZ hj hq hp hq0 hl hc hr E0 (Or.inl ⟨62, Or.inr (Or.inl rfl), (t.mi rfl).mp c161, by decide⟩)
         | exact one_how_s g he hi hn r cs hh hZ hj hq hp hq0 hl hc hr E0 (Or.inl ⟨61, Or.inr (Or.inr rfl), (t.mi rfl).mp c174, by decide⟩)
         | exact one_how_s g he hi hn r cs hh hZ hj hq hp hq0 hl hc hr E0 (Or.inr ⟨rfl, fun z => z.elim (fun z => (t.mi rfl).mpr z c148) (fun z => z.elim (fun z => (t.mi rfl).mpr z c161) (fun z => (t.mi rfl).mpr z c174))⟩)
      · refine v_iconst (2) dX14_readOne_177 (by decide) ?_
        refine v_goto 182 dX14_readOne_178 (by decide) ?_
        first
         | exact one_how_s g he hi hn r cs hh hZ hj hq hp hq0 hl hc hr E0 (Or.inl ⟨60, Or.inl rfl, (t.mi rfl).mp c148, by decide⟩)
         | exact one_how_s g he hi hn r cs hh hZ hj hq hp hq0 hl hc hr E0 (Or.inl ⟨62, Or.inr (Or.inl rfl), (t.mi rfl).mp c161, by decide⟩)
         | exact one_how_s g he hi hn r cs hh hZ hj hq hp hq0 hl hc hr E0 (Or.inl ⟨61, Or.inr (Or.inr rfl), (t.mi rfl).mp c174, by decide⟩)
         | exact one_how_s g he hi hn r cs hh hZ hj hq hp hq0 hl hc hr E0 (Or.inr ⟨rfl, fun z => z.elim (fun z => (t.mi rfl).mpr z c148) (fun z => z.elim (fun z => (t.mi rfl).mpr z c161) (fun z => (t.mi rfl).mpr z c174))⟩)
    · refine v_iconst (1) dX14_readOne_164 (by decide) ?_
      refine v_goto 182 dX14_readOne_165 (by decide) ?_
      first
       | exact one_how_s g he hi hn r cs hh hZ hj hq hp hq0 hl hc hr E0 (Or.inl ⟨60, Or.inl rfl, (t.mi rfl).mp c148, by decide⟩)
       | exact one_how_s g he hi hn r cs hh hZ hj hq hp hq0 hl hc hr E0 (Or.inl ⟨62, Or.inr (Or.inl rfl), (t.mi rfl).mp c161, by decide⟩)
       | exact one_how_s g he hi hn r cs hh hZ hj hq hp hq0 hl hc hr E0 (Or.inl ⟨61, Or.inr (Or.inr rfl), (t.mi rfl).mp c174, by decide⟩)
       | exact one_how_s g he hi hn r cs hh hZ hj hq hp hq0 hl hc hr E0 (Or.inr ⟨rfl, fun z => z.elim (fun z => (t.mi rfl).mpr z c148) (fun z => z.elim (fun z => (t.mi rfl).mpr z c161) (fun z => (t.mi rfl).mpr z c174))⟩)
  · refine v_iconst (0) dX14_readOne_151 (by decide) ?_
    refine v_goto 182 dX14_readOne_152 (by decide) ?_
    first
     | exact one_how_s g he hi hn r cs hh hZ hj hq hp hq0 hl hc hr E0 (Or.inl ⟨60, Or.inl rfl, (t.mi rfl).mp c148, by decide⟩)
     | exact one_how_s g he hi hn r cs hh hZ hj hq hp hq0 hl hc hr E0 (Or.inl ⟨62, Or.inr (Or.inl rfl), (t.mi rfl).mp c161, by decide⟩)
     | exact one_how_s g he hi hn r cs hh hZ hj hq hp hq0 hl hc hr E0 (Or.inl ⟨61, Or.inr (Or.inr rfl), (t.mi rfl).mp c174, by decide⟩)
     | exact one_how_s g he hi hn r cs hh hZ hj hq hp hq0 hl hc hr E0 (Or.inr ⟨rfl, fun z => z.elim (fun z => (t.mi rfl).mpr z c148) (fun z => z.elim (fun z => (t.mi rfl).mpr z c161) (fun z => (t.mi rfl).mpr z c174))⟩)
