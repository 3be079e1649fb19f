/-! what a token says to the reference -/
theorem mK_iff {h : Hp} (j : Nat) : (¬ mK j h = 0) ↔ (vi h (32, 0) 13 = 2 ∧ vl h (32, 0) 19 = wv j) := by
  unfold mK
  by_cases c : vi h (32, 0) 13 = 2
  · rw [if_pos c]
    by_cases d : vl h (32, 0) 19 = wv j
    · rw [if_pos d]; exact ⟨fun _ => ⟨c, d⟩, fun _ => by decide⟩
    · rw [if_neg d]; exact ⟨fun z => absurd rfl z, fun z => absurd z.2 d⟩
  · rw [if_neg c]; exact ⟨fun z => absurd rfl z, fun z => absurd z.1 c⟩
theorem isK_rng {j : Nat} {k v : Int32} (hj : j < 11) (h : isK j k v) : k = 4 ∨ k = 5 ∨ k = 6 ∨ k = 7 ∨ k = 8 ∨ k = 9 ∨ k = 10 := by
  match j, hj, h with
  | 0, _, h => exact Or.inr (Or.inl h)
  | 1, _, h => exact Or.inr (Or.inr (Or.inl h))
  | 2, _, h => exact Or.inr (Or.inr (Or.inr (Or.inl h)))
  | 3, _, h => exact Or.inr (Or.inr (Or.inr (Or.inr (Or.inl h))))
  | 4, _, h => exact Or.inr (Or.inr (Or.inr (Or.inr (Or.inr (Or.inl h)))))
  | 5, _, h => exact Or.inr (Or.inr (Or.inr (Or.inr (Or.inr (Or.inr h)))))
  | 6, _, h => exact Or.inl h.1
  | 7, _, h => exact Or.inl h.1
  | 8, _, h => exact Or.inl h.1
  | 9, _, h => exact Or.inl h.1
  | 10, _, h => exact Or.inl h.1
theorem nisK {j : Nat} {k v : Int32} (hj : j < 11) (n : ¬ (k = 4 ∨ k = 5 ∨ k = 6 ∨ k = 7 ∨ k = 8 ∨ k = 9 ∨ k = 10)) : ¬ isK j k v := fun h => n (isK_rng hj h)
theorem sgn_ge {k : Int32} (h : xSgn k = 1) : k = 60 ∨ k = 62 ∨ k = 61 ∨ k = 40 ∨ k = 41 ∨ k = 43 ∨ k = 42 ∨ k = 59 := (sgn_iff k).mp (by rw [h]; decide)
theorem TR.mk {h : Hp} {b : Nat → Int32} {e q : Nat} (t : TR h b e q) {j : Nat} (hj : j < 11) : (¬ mK j h = 0) ↔ isK j (tok b e q).2.2.1 (tok b e q).2.2.2 := by
  rw [mK_iff]
  rcases t.2.2 with ⟨a, k⟩ | ⟨a, k⟩ | ⟨a, k, -⟩ | ⟨a, ⟨i, hi, w1, w2, w3⟩ | ⟨w1, k⟩⟩ | ⟨a, -, k⟩
  · exact ⟨fun z => absurd (a.symm.trans z.1) (by decide), fun z => absurd z (nisK hj (by rw [k]; decide))⟩
  · exact ⟨fun z => absurd (a.symm.trans z.1) (by decide), fun z => absurd z (nisK hj (by rw [k]; decide))⟩
  · exact ⟨fun z => absurd (a.symm.trans z.1) (by decide), fun z => absurd z (nisK hj (by rw [k]; decide))⟩
  · constructor
    · rintro ⟨-, z⟩
      by_cases y : j = i
      · rw [y]; exact w3
      · exact absurd z (w2 j hj y)
    · intro z
      have : j = i := isK_un hi hj w3 z
      exact ⟨a, by rw [this]; exact w1⟩
  · exact ⟨fun z => absurd z.2 (w1 j hj), fun z => absurd z (nisK hj (by rw [k]; decide))⟩
  · exact ⟨fun z => absurd (a.symm.trans z.1) (by decide), fun z => absurd z (nisK hj (by rcases sgn_ge k with y | y | y | y | y | y | y | y <;> (rw [y]; decide)))⟩
theorem TR.mi {h : Hp} {b : Nat → Int32} {e q : Nat} (t : TR h b e q) {c : Int32} (hc : xSgn c = 1) : (¬ mI c h = 0) ↔ (tok b e q).2.2.1 = c := by
  have key : (¬ mI c h = 0) ↔ (vi h (32, 0) 13 = 4 ∧ vi h (32, 0) 15 = c) := by
    unfold mI
    by_cases x : vi h (32, 0) 13 = 4
    · rw [if_pos x]
      by_cases d : vi h (32, 0) 15 = c
      · rw [if_pos d]; exact ⟨fun _ => ⟨x, d⟩, fun _ => by decide⟩
      · rw [if_neg d]; exact ⟨fun z => absurd rfl z, fun z => absurd z.2 d⟩
    · rw [if_neg x]; exact ⟨fun z => absurd rfl z, fun z => absurd z.1 x⟩
  rw [key]
  have no : ∀ {k : Int32}, (k = 0 ∨ k = 1 ∨ k = 2 ∨ k = 3 ∨ k = 4 ∨ k = 5 ∨ k = 6 ∨ k = 7 ∨ k = 8 ∨ k = 9 ∨ k = 10) → ¬ k = c := by
    intro k hk z
    rw [← z] at hc
    rcases hk with y | y | y | y | y | y | y | y | y | y | y <;> (rw [y] at hc; exact absurd hc (by decide))
  rcases t.2.2 with ⟨a, k⟩ | ⟨a, k⟩ | ⟨a, k, -⟩ | ⟨a, ⟨i, hi, w1, w2, w3⟩ | ⟨w1, k⟩⟩ | ⟨a, k, -⟩
  · exact ⟨fun z => absurd (a.symm.trans z.1) (by decide), fun z => absurd z (no (Or.inl k))⟩
  · exact ⟨fun z => absurd (a.symm.trans z.1) (by decide), fun z => absurd z (no (Or.inr (Or.inl k)))⟩
  · exact ⟨fun z => absurd (a.symm.trans z.1) (by decide), fun z => absurd z (no (Or.inr (Or.inr (Or.inl k))))⟩
  · exact ⟨fun z => absurd (a.symm.trans z.1) (by decide), fun z => absurd z (no (Or.inr (Or.inr (Or.inr (Or.inr (isK_rng hi w3))))))⟩
  · exact ⟨fun z => absurd (a.symm.trans z.1) (by decide), fun z => absurd z (no (Or.inr (Or.inr (Or.inr (Or.inl k)))))⟩
  · exact ⟨fun z => k.symm.trans z.2, fun z => ⟨a, k.trans z⟩⟩
theorem TR.word {h : Hp} {b : Nat → Int32} {e q : Nat} (t : TR h b e q) (n : ¬ vi h (32, 0) 13 = 2) : ¬ (tok b e q).2.2.1 = 3 ∧ ¬ (tok b e q).2.2.1 = 4 := by
  rcases t.2.2 with ⟨a, k⟩ | ⟨a, k⟩ | ⟨a, k, -⟩ | ⟨a, -⟩ | ⟨a, -, k⟩
  · rw [k]; exact ⟨by decide, by decide⟩
  · rw [k]; exact ⟨by decide, by decide⟩
  · rw [k]; exact ⟨by decide, by decide⟩
  · exact absurd a n
  · rcases sgn_ge k with y | y | y | y | y | y | y | y <;> (rw [y]; exact ⟨by decide, by decide⟩)
theorem TR.num {h : Hp} {b : Nat → Int32} {e q : Nat} (t : TR h b e q) : vi h (32, 0) 13 = 3 ↔ (tok b e q).2.2.1 = 2 := by
  rcases t.2.2 with ⟨a, k⟩ | ⟨a, k⟩ | ⟨a, k, -⟩ | ⟨a, ⟨i, hi, -, -, w3⟩ | ⟨-, k⟩⟩ | ⟨a, -, k⟩
  · rw [a, k]; decide
  · rw [a, k]; decide
  · rw [a, k]; decide
  · rw [a]; refine ⟨fun z => absurd z (by decide), fun z => ?_⟩
    rcases isK_rng hi w3 with y | y | y | y | y | y | y <;> (rw [y] at z; exact absurd z (by decide))
  · rw [a, k]; decide
  · rw [a]; refine ⟨fun z => absurd z (by decide), fun z => ?_⟩
    rcases sgn_ge k with y | y | y | y | y | y | y | y <;> (rw [y] at z; exact absurd z (by decide))
theorem TR.numv {h : Hp} {b : Nat → Int32} {e q : Nat} (t : TR h b e q) (hk : (tok b e q).2.2.1 = 2) : vi h (32, 0) 16 = (tok b e q).2.2.2 := by
  have s := t.num.mpr hk
  rcases t.2.2 with ⟨a, k⟩ | ⟨a, k⟩ | ⟨a, k, n⟩ | ⟨a, -⟩ | ⟨a, -, k⟩
  · exact absurd (a.symm.trans s) (by decide)
  · exact absurd (a.symm.trans s) (by decide)
  · exact n
  · exact absurd (a.symm.trans s) (by decide)
  · exact absurd (a.symm.trans s) (by decide)
theorem TR.fin {h : Hp} {b : Nat → Int32} {e q : Nat} (t : TR h b e q) : vi h (32, 0) 13 = 1 ↔ (tok b e q).2.2.1 = 0 := by
  rcases t.2.2 with ⟨a, k⟩ | ⟨a, k⟩ | ⟨a, k, -⟩ | ⟨a, ⟨i, hi, -, -, w3⟩ | ⟨-, k⟩⟩ | ⟨a, -, k⟩
  · rw [a, k]; decide
  · rw [a, k]; decide
  · rw [a, k]; decide
  · rw [a]; refine ⟨fun z => absurd z (by decide), fun z => ?_⟩
    rcases isK_rng hi w3 with y | y | y | y | y | y | y <;> (rw [y] at z; exact absurd z (by decide))
  · rw [a, k]; decide
  · rw [a]; refine ⟨fun z => absurd z (by decide), fun z => ?_⟩
    rcases sgn_ge k with y | y | y | y | y | y | y | y <;> (rw [y] at z; exact absurd z (by decide))
set_option maxRecDepth 20000 in
theorem M_nh1 (g : G0) (h : Hp) (hM : SM h) {b : Nat → Int32} {e q : Nat} (t : TR h b e q) (n3 : ¬ (tok b e q).2.2.1 = 3) (n4 : ¬ (tok b e q).2.2.1 = 4) : V g kfX14_nameHere 7 0 0 59 [(0, pR (32, 0))] [pI 1] h (fun r h' => (tok b e q).2.2.1 = 4 ∧ r = some (pI (tok b e q).2.2.2) ∧ h' = h) (fun _ _ a h' => a = (35, 0) ∧ h' = mSt h (if (tok b e q).2.2.1 = 3 then 2 else 1) ∧ ¬ (tok b e q).2.2.1 = 4) := by
  refine v_istore_n dX14_nameHere_59 (by decide) ?_
  refine v_aload_n dX14_nameHere_60 rfl ?_
  refine v_getI fl_X14_156 dX14_nameHere_61 rfl rfl (Nat.le_of_ble_eq_true rfl) (mh_32_0 hM) ?_
  refine v_iconst (2) dX14_nameHere_64 (by decide) ?_
  refine v_icmp_ne 72 dX14_nameHere_65 (by decide) (fun c65 => ?_) (fun c65 => ?_)
  · refine v_aload_n dX14_nameHere_72 rfl ?_
    refine v_iconst (1) dX14_nameHere_73 (by decide) ?_
    refine v_invVE (M_stop g h hM) dX14_nameHere_74 cwX14_stop mlX14_196 (ob_32 _) rfl rfl (by decide) (by decide) (Nat.le_of_ble_eq_true rfl) ?_
    refine v_athrow dX14_nameHere_77 ?_
    exact ⟨rfl, by rw [if_neg n3], n4⟩
  · refine v_iload_n dX14_nameHere_68 rfl ?_
    refine v_if_eq 78 dX14_nameHere_69 (by decide) (fun z => absurd z (by decide)) (fun _ => ?_)
    refine v_aload_n dX14_nameHere_72 rfl ?_
    refine v_iconst (1) dX14_nameHere_73 (by decide) ?_
    refine v_invVE (M_stop g h hM) dX14_nameHere_74 cwX14_stop mlX14_196 (ob_32 _) rfl rfl (by decide) (by decide) (Nat.le_of_ble_eq_true rfl) ?_
    refine v_athrow dX14_nameHere_77 ?_
    exact ⟨rfl, by rw [if_neg n3], n4⟩
theorem names_no {h : Hp} {b : Nat → Int32} {e q : Nat} (t : TR h b e q) (c : vi h (32, 0) 13 = 2) (c6 : mK 6 h = 0) (c7 : mK 7 h = 0) (c8 : mK 8 h = 0) (c9 : mK 9 h = 0) (c10 : mK 10 h = 0) (nk : (tok b e q).2.2.1 = 3 ∨ (tok b e q).2.2.1 = 4 ∨ ¬ vi h (32, 0) 13 = 2) : (tok b e q).2.2.1 = 3 := by
  rcases nk with z | z | z
  · exact z
  · exfalso
    have no : ∀ j, j < 11 → ¬ isK j (tok b e q).2.2.1 (tok b e q).2.2.2 := by
      intro j hj hk
      have hm := (t.mk hj).mpr hk
      match j, hj, hk, hm with
      | 0, _, hk, _ => exact absurd (z.symm.trans hk) (by decide)
      | 1, _, hk, _ => exact absurd (z.symm.trans hk) (by decide)
      | 2, _, hk, _ => exact absurd (z.symm.trans hk) (by decide)
      | 3, _, hk, _ => exact absurd (z.symm.trans hk) (by decide)
      | 4, _, hk, _ => exact absurd (z.symm.trans hk) (by decide)
      | 5, _, hk, _ => exact absurd (z.symm.trans hk) (by decide)
      | 6, _, _, hm => exact hm c6
      | 7, _, _, hm => exact hm c7
      | 8, _, _, hm => exact hm c8
      | 9, _, _, hm => exact hm c9
      | 10, _, _, hm => exact hm c10
    rcases t.2.2 with ⟨a, -⟩ | ⟨a, -⟩ | ⟨a, -⟩ | ⟨a, ⟨i, hi, -, -, w3⟩ | ⟨-, k⟩⟩ | ⟨a, -⟩
    · exact absurd (a.symm.trans c) (by decide)
    · exact absurd (a.symm.trans c) (by decide)
    · exact absurd (a.symm.trans c) (by decide)
    · exact no i hi w3
    · exact absurd (k.symm.trans z) (by decide)
    · exact absurd (a.symm.trans c) (by decide)
  · exact absurd c z
set_option maxRecDepth 20000 in
theorem M_nh0 (g : G0) (h : Hp) (hM : SM h) {b : Nat → Int32} {e q : Nat} (t : TR h b e q) (nk : (tok b e q).2.2.1 = 3 ∨ (tok b e q).2.2.1 = 4 ∨ ¬ vi h (32, 0) 13 = 2) : V g kfX14_nameHere 7 0 0 59 [(0, pR (32, 0))] [pI 0] h (fun r h' => (tok b e q).2.2.1 = 4 ∧ r = some (pI (tok b e q).2.2.2) ∧ h' = h) (fun _ _ a h' => a = (35, 0) ∧ h' = mSt h (if (tok b e q).2.2.1 = 3 then 2 else 1) ∧ ¬ (tok b e q).2.2.1 = 4) := by
  refine v_istore_n dX14_nameHere_59 (by decide) ?_
  refine v_aload_n dX14_nameHere_60 rfl ?_
  refine v_getI fl_X14_156 dX14_nameHere_61 rfl rfl (Nat.le_of_ble_eq_true rfl) (mh_32_0 hM) ?_
  refine v_iconst (2) dX14_nameHere_64 (by decide) ?_
  refine v_icmp_ne 72 dX14_nameHere_65 (by decide) (fun c65 => ?_) (fun c65 => ?_)
  · refine v_aload_n dX14_nameHere_72 rfl ?_
    refine v_iconst (1) dX14_nameHere_73 (by decide) ?_
    refine v_invVE (M_stop g h hM) dX14_nameHere_74 cwX14_stop mlX14_196 (ob_32 _) rfl rfl (by decide) (by decide) (Nat.le_of_ble_eq_true rfl) ?_
    refine v_athrow dX14_nameHere_77 ?_
    exact ⟨rfl, by rw [if_neg (t.word c65).1], (t.word c65).2⟩
  · refine v_iload_n dX14_nameHere_68 rfl ?_
    refine v_if_eq 78 dX14_nameHere_69 (by decide) (fun _ => ?_) (fun z => absurd rfl z)
    refine v_aload_n dX14_nameHere_78 rfl ?_
    refine v_ldcS (j := 6) (tx := "age") dX14_nameHere_79 (by decide) ?_
    refine v_invVE (M_isWord g h hM (j := 6) (by decide)) dX14_nameHere_81 cwX14_isWord mlX14_182 (ob_32 _) rfl rfl (by decide) (by decide) (Nat.le_of_ble_eq_true rfl) ?_
    refine v_if_eq 91 dX14_nameHere_84 (by decide) (fun c84 => ?_) (fun c84 => ?_)
    · refine v_aload_n dX14_nameHere_91 rfl ?_
      refine v_ldcS (j := 7) (tx := "years") dX14_nameHere_92 (by decide) ?_
      refine v_invVE (M_isWord g h hM (j := 7) (by decide)) dX14_nameHere_94 cwX14_isWord mlX14_182 (ob_32 _) rfl rfl (by decide) (by decide) (Nat.le_of_ble_eq_true rfl) ?_
      refine v_if_eq 104 dX14_nameHere_97 (by decide) (fun c97 => ?_) (fun c97 => ?_)
      · refine v_aload_n dX14_nameHere_104 rfl ?_
        refine v_ldcS (j := 8) (tx := "means") dX14_nameHere_105 (by decide) ?_
        refine v_invVE (M_isWord g h hM (j := 8) (by decide)) dX14_nameHere_107 cwX14_isWord mlX14_182 (ob_32 _) rfl rfl (by decide) (by decide) (Nat.le_of_ble_eq_true rfl) ?_
        refine v_if_eq 117 dX14_nameHere_110 (by decide) (fun c110 => ?_) (fun c110 => ?_)
        · refine v_aload_n dX14_nameHere_117 rfl ?_
          refine v_ldcS (j := 9) (tx := "kin") dX14_nameHere_118 (by decide) ?_
          refine v_invVE (M_isWord g h hM (j := 9) (by decide)) dX14_nameHere_120 cwX14_isWord mlX14_182 (ob_32 _) rfl rfl (by decide) (by decide) (Nat.le_of_ble_eq_true rfl) ?_
          refine v_if_eq 130 dX14_nameHere_123 (by decide) (fun c123 => ?_) (fun c123 => ?_)
          · refine v_aload_n dX14_nameHere_130 rfl ?_
            refine v_ldcS (j := 10) (tx := "waits") dX14_nameHere_131 (by decide) ?_
            refine v_invVE (M_isWord g h hM (j := 10) (by decide)) dX14_nameHere_133 cwX14_isWord mlX14_182 (ob_32 _) rfl rfl (by decide) (by decide) (Nat.le_of_ble_eq_true rfl) ?_
            refine v_if_eq 143 dX14_nameHere_136 (by decide) (fun c136 => ?_) (fun c136 => ?_)
            · refine v_iconst (-1) dX14_nameHere_143 (by decide) ?_
              refine v_istore_n dX14_nameHere_144 (by decide) ?_
              refine v_iload_n dX14_nameHere_145 rfl ?_
              refine v_iconst (-1) dX14_nameHere_146 (by decide) ?_
              refine v_icmp_ne 156 dX14_nameHere_147 (by decide) (fun c147 => ?_) (fun c147 => ?_)
              · refine v_iload_n dX14_nameHere_156 rfl ?_
                refine v_ireturn dX14_nameHere_157 rfl rfl ?_
                first | exact ⟨((t.mk (j := 6) (by decide)).mp c84).1, by rw [((t.mk (j := 6) (by decide)).mp c84).2], rfl⟩ | exact ⟨((t.mk (j := 7) (by decide)).mp c97).1, by rw [((t.mk (j := 7) (by decide)).mp c97).2], rfl⟩ | exact ⟨((t.mk (j := 8) (by decide)).mp c110).1, by rw [((t.mk (j := 8) (by decide)).mp c110).2], rfl⟩ | exact ⟨((t.mk (j := 9) (by decide)).mp c123).1, by rw [((t.mk (j := 9) (by decide)).mp c123).2], rfl⟩ | exact ⟨((t.mk (j := 10) (by decide)).mp c136).1, by rw [((t.mk (j := 10) (by decide)).mp c136).2], rfl⟩ | exact absurd rfl c147 | exact absurd c147 (by decide)
              · refine v_aload_n dX14_nameHere_150 rfl ?_
                refine v_iconst (2) dX14_nameHere_151 (by decide) ?_
                refine v_invVE (M_stop g h hM) dX14_nameHere_152 cwX14_stop mlX14_196 (ob_32 _) rfl rfl (by decide) (by decide) (Nat.le_of_ble_eq_true rfl) ?_
                refine v_athrow dX14_nameHere_155 ?_
                first | exact absurd c147 (by decide) | (have k3 := names_no t c65 c84 c97 c110 c123 c136 nk; exact ⟨rfl, by rw [if_pos k3], by rw [k3]; decide⟩)
            · refine v_iconst (4) dX14_nameHere_139 (by decide) ?_
              refine v_goto 144 dX14_nameHere_140 (by decide) ?_
              refine v_istore_n dX14_nameHere_144 (by decide) ?_
              refine v_iload_n dX14_nameHere_145 rfl ?_
              refine v_iconst (-1) dX14_nameHere_146 (by decide) ?_
              refine v_icmp_ne 156 dX14_nameHere_147 (by decide) (fun c147 => ?_) (fun c147 => ?_)
              · refine v_iload_n dX14_nameHere_156 rfl ?_
                refine v_ireturn dX14_nameHere_157 rfl rfl ?_
                first | exact ⟨((t.mk (j := 6) (by decide)).mp c84).1, by rw [((t.mk (j := 6) (by decide)).mp c84).2], rfl⟩ | exact ⟨((t.mk (j := 7) (by decide)).mp c97).1, by rw [((t.mk (j := 7) (by decide)).mp c97).2], rfl⟩ | exact ⟨((t.mk (j := 8) (by decide)).mp c110).1, by rw [((t.mk (j := 8) (by decide)).mp c110).2], rfl⟩ | exact ⟨((t.mk (j := 9) (by decide)).mp c123).1, by rw [((t.mk (j := 9) (by decide)).mp c123).2], rfl⟩ | exact ⟨((t.mk (j := 10) (by decide)).mp c136).1, by rw [((t.mk (j := 10) (by decide)).mp c136).2], rfl⟩ | exact absurd rfl c147 | exact absurd c147 (by decide)
              · refine v_aload_n dX14_nameHere_150 rfl ?_
                refine v_iconst (2) dX14_nameHere_151 (by decide) ?_
                refine v_invVE (M_stop g h hM) dX14_nameHere_152 cwX14_stop mlX14_196 (ob_32 _) rfl rfl (by decide) (by decide) (Nat.le_of_ble_eq_true rfl) ?_
                refine v_athrow dX14_nameHere_155 ?_
                first | exact absurd c147 (by decide) | (have k3 := names_no t c65 c84 c97 c110 c123 c136 nk; exact ⟨rfl, by rw [if_pos k3], by rw [k3]; decide⟩)
          · refine v_iconst (3) dX14_nameHere_126 (by decide) ?_
            refine v_goto 144 dX14_nameHere_127 (by decide) ?_
            refine v_istore_n dX14_nameHere_144 (by decide) ?_
            refine v_iload_n dX14_nameHere_145 rfl ?_
            refine v_iconst (-1) dX14_nameHere_146 (by decide) ?_
            refine v_icmp_ne 156 dX14_nameHere_147 (by decide) (fun c147 => ?_) (fun c147 => ?_)
            · refine v_iload_n dX14_nameHere_156 rfl ?_
              refine v_ireturn dX14_nameHere_157 rfl rfl ?_
              first | exact ⟨((t.mk (j := 6) (by decide)).mp c84).1, by rw [((t.mk (j := 6) (by decide)).mp c84).2], rfl⟩ | exact ⟨((t.mk (j := 7) (by decide)).mp c97).1, by rw [((t.mk (j := 7) (by decide)).mp c97).2], rfl⟩ | exact ⟨((t.mk (j := 8) (by decide)).mp c110).1, by rw [((t.mk (j := 8) (by decide)).mp c110).2], rfl⟩ | exact ⟨((t.mk (j := 9) (by decide)).mp c123).1, by rw [((t.mk (j := 9) (by decide)).mp c123).2], rfl⟩ | exact ⟨((t.mk (j := 10) (by decide)).mp c136).1, by rw [((t.mk (j := 10) (by decide)).mp c136).2], rfl⟩ | exact absurd rfl c147 | exact absurd c147 (by decide)
            · refine v_aload_n dX14_nameHere_150 rfl ?_
              refine v_iconst (2) dX14_nameHere_151 (by decide) ?_
              refine v_invVE (M_stop g h hM) dX14_nameHere_152 cwX14_stop mlX14_196 (ob_32 _) rfl rfl (by decide) (by decide) (Nat.le_of_ble_eq_true rfl) ?_
              refine v_athrow dX14_nameHere_155 ?_
              first | exact absurd c147 (by decide) | (have k3 := names_no t c65 c84 c97 c110 c123 c136 nk; exact ⟨rfl, by rw [if_pos k3], by rw [k3]; decide⟩)
        · refine v_iconst (2) dX14_nameHere_113 (by decide) ?_
          refine v_goto 144 dX14_nameHere_114 (by decide) ?_
          refine v_istore_n dX14_nameHere_144 (by decide) ?_
          refine v_iload_n dX14_nameHere_145 rfl ?_
          refine v_iconst (-1) dX14_nameHere_146 (by decide) ?_
          refine v_icmp_ne 156 dX14_nameHere_147 (by decide) (fun c147 => ?_) (fun c147 => ?_)
          · refine v_iload_n dX14_nameHere_156 rfl ?_
            refine v_ireturn dX14_nameHere_157 rfl rfl ?_
            first | exact ⟨((t.mk (j := 6) (by decide)).mp c84).1, by rw [((t.mk (j := 6) (by decide)).mp c84).2], rfl⟩ | exact ⟨((t.mk (j := 7) (by decide)).mp c97).1, by rw [((t.mk (j := 7) (by decide)).mp c97).2], rfl⟩ | exact ⟨((t.mk (j := 8) (by decide)).mp c110).1, by rw [((t.mk (j := 8) (by decide)).mp c110).2], rfl⟩ | exact ⟨((t.mk (j := 9) (by decide)).mp c123).1, by rw [((t.mk (j := 9) (by decide)).mp c123).2], rfl⟩ | exact ⟨((t.mk (j := 10) (by decide)).mp c136).1, by rw [((t.mk (j := 10) (by decide)).mp c136).2], rfl⟩ | exact absurd rfl c147 | exact absurd c147 (by decide)
          · refine v_aload_n dX14_nameHere_150 rfl ?_
            refine v_iconst (2) dX14_nameHere_151 (by decide) ?_
            refine v_invVE (M_stop g h hM) dX14_nameHere_152 cwX14_stop mlX14_196 (ob_32 _) rfl rfl (by decide) (by decide) (Nat.le_of_ble_eq_true rfl) ?_
            refine v_athrow dX14_nameHere_155 ?_
            first | exact absurd c147 (by decide) | (have k3 := names_no t c65 c84 c97 c110 c123 c136 nk; exact ⟨rfl, by rw [if_pos k3], by rw [k3]; decide⟩)
      · refine v_iconst (1) dX14_nameHere_100 (by decide) ?_
        refine v_goto 144 dX14_nameHere_101 (by decide) ?_
        refine v_istore_n dX14_nameHere_144 (by decide) ?_
        refine v_iload_n dX14_nameHere_145 rfl ?_
        refine v_iconst (-1) dX14_nameHere_146 (by decide) ?_
        refine v_icmp_ne 156 dX14_nameHere_147 (by decide) (fun c147 => ?_) (fun c147 => ?_)
        · refine v_iload_n dX14_nameHere_156 rfl ?_
          refine v_ireturn dX14_nameHere_157 rfl rfl ?_
          first | exact ⟨((t.mk (j := 6) (by decide)).mp c84).1, by rw [((t.mk (j := 6) (by decide)).mp c84).2], rfl⟩ | exact ⟨((t.mk (j := 7) (by decide)).mp c97).1, by rw [((t.mk (j := 7) (by decide)).mp c97).2], rfl⟩ | exact ⟨((t.mk (j := 8) (by decide)).mp c110).1, by rw [((t.mk (j := 8) (by decide)).mp c110).2], rfl⟩ | exact ⟨((t.mk (j := 9) (by decide)).mp c123).1, by rw [((t.mk (j := 9) (by decide)).mp c123).2], rfl⟩ | exact ⟨((t.mk (j := 10) (by decide)).mp c136).1, by rw [((t.mk (j := 10) (by decide)).mp c136).2], rfl⟩ | exact absurd rfl c147 | exact absurd c147 (by decide)
        · refine v_aload_n dX14_nameHere_150 rfl ?_
          refine v_iconst (2) dX14_nameHere_151 (by decide) ?_
          refine v_invVE (M_stop g h hM) dX14_nameHere_152 cwX14_stop mlX14_196 (ob_32 _) rfl rfl (by decide) (by decide) (Nat.le_of_ble_eq_true rfl) ?_
          refine v_athrow dX14_nameHere_155 ?_
          first | exact absurd c147 (by decide) | (have k3 := names_no t c65 c84 c97 c110 c123 c136 nk; exact ⟨rfl, by rw [if_pos k3], by rw [k3]; decide⟩)
    · refine v_iconst (0) dX14_nameHere_87 (by decide) ?_
      refine v_goto 144 dX14_nameHere_88 (by decide) ?_
      refine v_istore_n dX14_nameHere_144 (by decide) ?_
      refine v_iload_n dX14_nameHere_145 rfl ?_
      refine v_iconst (-1) dX14_nameHere_146 (by decide) ?_
      refine v_icmp_ne 156 dX14_nameHere_147 (by decide) (fun c147 => ?_) (fun c147 => ?_)
      · refine v_iload_n dX14_nameHere_156 rfl ?_
        refine v_ireturn dX14_nameHere_157 rfl rfl ?_
        first | exact ⟨((t.mk (j := 6) (by decide)).mp c84).1, by rw [((t.mk (j := 6) (by decide)).mp c84).2], rfl⟩ | exact ⟨((t.mk (j := 7) (by decide)).mp c97).1, by rw [((t.mk (j := 7) (by decide)).mp c97).2], rfl⟩ | exact ⟨((t.mk (j := 8) (by decide)).mp c110).1, by rw [((t.mk (j := 8) (by decide)).mp c110).2], rfl⟩ | exact ⟨((t.mk (j := 9) (by decide)).mp c123).1, by rw [((t.mk (j := 9) (by decide)).mp c123).2], rfl⟩ | exact ⟨((t.mk (j := 10) (by decide)).mp c136).1, by rw [((t.mk (j := 10) (by decide)).mp c136).2], rfl⟩ | exact absurd rfl c147 | exact absurd c147 (by decide)
      · refine v_aload_n dX14_nameHere_150 rfl ?_
        refine v_iconst (2) dX14_nameHere_151 (by decide) ?_
        refine v_invVE (M_stop g h hM) dX14_nameHere_152 cwX14_stop mlX14_196 (ob_32 _) rfl rfl (by decide) (by decide) (Nat.le_of_ble_eq_true rfl) ?_
        refine v_athrow dX14_nameHere_155 ?_
        first | exact absurd c147 (by decide) | (have k3 := names_no t c65 c84 c97 c110 c123 c136 nk; exact ⟨rfl, by rw [if_pos k3], by rw [k3]; decide⟩)
theorem names_kw {h : Hp} {b : Nat → Int32} {e q : Nat} (t : TR h b e q) (c0 : mK 0 h = 0) (c1 : mK 1 h = 0) (c2 : mK 2 h = 0) (c3 : mK 3 h = 0) (c4 : mK 4 h = 0) (c5 : mK 5 h = 0) : (tok b e q).2.2.1 = 3 ∨ (tok b e q).2.2.1 = 4 ∨ ¬ vi h (32, 0) 13 = 2 := by
  rcases t.2.2 with ⟨a, -⟩ | ⟨a, -⟩ | ⟨a, -⟩ | ⟨a, ⟨i, hi, -, -, w3⟩ | ⟨-, k⟩⟩ | ⟨a, -⟩
  · exact Or.inr (Or.inr (by rw [a]; decide))
  · exact Or.inr (Or.inr (by rw [a]; decide))
  · exact Or.inr (Or.inr (by rw [a]; decide))
  · have hm := (t.mk hi).mpr w3
    match i, hi, w3, hm with
    | 0, _, _, hm => exact absurd c0 hm
    | 1, _, _, hm => exact absurd c1 hm
    | 2, _, _, hm => exact absurd c2 hm
    | 3, _, _, hm => exact absurd c3 hm
    | 4, _, _, hm => exact absurd c4 hm
    | 5, _, _, hm => exact absurd c5 hm
    | 6, _, w3, _ => exact Or.inr (Or.inl w3.1)
    | 7, _, w3, _ => exact Or.inr (Or.inl w3.1)
    | 8, _, w3, _ => exact Or.inr (Or.inl w3.1)
    | 9, _, w3, _ => exact Or.inr (Or.inl w3.1)
    | 10, _, w3, _ => exact Or.inr (Or.inl w3.1)
  · exact Or.inl k
  · exact Or.inr (Or.inr (by rw [a]; decide))
set_option maxRecDepth 20000 in
theorem M_nameHere (g : G0) (h : Hp) (hM : SM h) {b : Nat → Int32} {e q : Nat} (t : TR h b e q) : Mx g yX14_nameHere wX14_nameHere 7 [pR (32, 0)] h 0 0 (fun r h' => (tok b e q).2.2.1 = 4 ∧ r = some (pI (tok b e q).2.2.2) ∧ h' = h) (fun a h' => a = (35, 0) ∧ h' = mSt h (if (tok b e q).2.2.1 = 3 then 2 else 1) ∧ ¬ (tok b e q).2.2.1 = 4) := by
  refine Mx.by kfX14_nameHere rfl (by decide) (Nat.le_of_ble_eq_true rfl) ?_
  have kw : ∀ j, j < 6 → ¬ mK j h = 0 → ¬ (tok b e q).2.2.1 = 3 ∧ ¬ (tok b e q).2.2.1 = 4 := by
    intro j hj hm
    have hk := (t.mk (j := j) (by omega)).mp hm
    match j, hj, hk with
    | 0, _, hk => rw [show (tok b e q).2.2.1 = 5 from hk]; exact ⟨by decide, by decide⟩
    | 1, _, hk => rw [show (tok b e q).2.2.1 = 6 from hk]; exact ⟨by decide, by decide⟩
    | 2, _, hk => rw [show (tok b e q).2.2.1 = 7 from hk]; exact ⟨by decide, by decide⟩
    | 3, _, hk => rw [show (tok b e q).2.2.1 = 8 from hk]; exact ⟨by decide, by decide⟩
    | 4, _, hk => rw [show (tok b e q).2.2.1 = 9 from hk]; exact ⟨by decide, by decide⟩
    | 5, _, hk => rw [show (tok b e q).2.2.1 = 10 from hk]; exact ⟨by decide, by decide⟩
  refine v_aload_n dX14_nameHere_0 rfl ?_
  refine v_ldcS (j := 0) (tx := "put") dX14_nameHere_1 (by decide) ?_
  refine v_invVE (M_isWord g h hM (j := 0) (by decide)) dX14_nameHere_3 cwX14_isWord mlX14_182 (ob_32 _) rfl rfl (by decide) (by decide) (Nat.le_of_ble_eq_true rfl) ?_
  refine v_if_ne 54 dX14_nameHere_6 (by decide) (fun c6 => ?_) (fun c6 => ?_)
  · refine v_iconst (1) dX14_nameHere_54 (by decide) ?_
    refine v_goto 59 dX14_nameHere_55 (by decide) ?_
    first | exact M_nh1 g h hM t (kw 0 (by decide) c6).1 (kw 0 (by decide) c6).2 | exact M_nh1 g h hM t (kw 1 (by decide) c15).1 (kw 1 (by decide) c15).2 | exact M_nh1 g h hM t (kw 2 (by decide) c24).1 (kw 2 (by decide) c24).2 | exact M_nh1 g h hM t (kw 3 (by decide) c33).1 (kw 3 (by decide) c33).2 | exact M_nh1 g h hM t (kw 4 (by decide) c42).1 (kw 4 (by decide) c42).2 | exact M_nh1 g h hM t (kw 5 (by decide) c51).1 (kw 5 (by decide) c51).2 | exact M_nh0 g h hM t (names_kw t c6 c15 c24 c33 c42 c51)
  · refine v_aload_n dX14_nameHere_9 rfl ?_
    refine v_ldcS (j := 1) (tx := "strike") dX14_nameHere_10 (by decide) ?_
    refine v_invVE (M_isWord g h hM (j := 1) (by decide)) dX14_nameHere_12 cwX14_isWord mlX14_182 (ob_32 _) rfl rfl (by decide) (by decide) (Nat.le_of_ble_eq_true rfl) ?_
    refine v_if_ne 54 dX14_nameHere_15 (by decide) (fun c15 => ?_) (fun c15 => ?_)
    · refine v_iconst (1) dX14_nameHere_54 (by decide) ?_
      refine v_goto 59 dX14_nameHere_55 (by decide) ?_
      first | exact M_nh1 g h hM t (kw 0 (by decide) c6).1 (kw 0 (by decide) c6).2 | exact M_nh1 g h hM t (kw 1 (by decide) c15).1 (kw 1 (by decide) c15).2 | exact M_nh1 g h hM t (kw 2 (by decide) c24).1 (kw 2 (by decide) c24).2 | exact M_nh1 g h hM t (kw 3 (by decide) c33).1 (kw 3 (by decide) c33).2 | exact M_nh1 g h hM t (kw 4 (by decide) c42).1 (kw 4 (by decide) c42).2 | exact M_nh1 g h hM t (kw 5 (by decide) c51).1 (kw 5 (by decide) c51).2 | exact M_nh0 g h hM t (names_kw t c6 c15 c24 c33 c42 c51)
    · refine v_aload_n dX14_nameHere_18 rfl ?_
      refine v_ldcS (j := 2) (tx := "order") dX14_nameHere_19 (by decide) ?_
      refine v_invVE (M_isWord g h hM (j := 2) (by decide)) dX14_nameHere_21 cwX14_isWord mlX14_182 (ob_32 _) rfl rfl (by decide) (by decide) (Nat.le_of_ble_eq_true rfl) ?_
      refine v_if_ne 54 dX14_nameHere_24 (by decide) (fun c24 => ?_) (fun c24 => ?_)
      · refine v_iconst (1) dX14_nameHere_54 (by decide) ?_
        refine v_goto 59 dX14_nameHere_55 (by decide) ?_
        first | exact M_nh1 g h hM t (kw 0 (by decide) c6).1 (kw 0 (by decide) c6).2 | exact M_nh1 g h hM t (kw 1 (by decide) c15).1 (kw 1 (by decide) c15).2 | exact M_nh1 g h hM t (kw 2 (by decide) c24).1 (kw 2 (by decide) c24).2 | exact M_nh1 g h hM t (kw 3 (by decide) c33).1 (kw 3 (by decide) c33).2 | exact M_nh1 g h hM t (kw 4 (by decide) c42).1 (kw 4 (by decide) c42).2 | exact M_nh1 g h hM t (kw 5 (by decide) c51).1 (kw 5 (by decide) c51).2 | exact M_nh0 g h hM t (names_kw t c6 c15 c24 c33 c42 c51)
      · refine v_aload_n dX14_nameHere_27 rfl ?_
        refine v_ldcS (j := 3) (tx := "or") dX14_nameHere_28 (by decide) ?_
        refine v_invVE (M_isWord g h hM (j := 3) (by decide)) dX14_nameHere_30 cwX14_isWord mlX14_182 (ob_32 _) rfl rfl (by decide) (by decide) (Nat.le_of_ble_eq_true rfl) ?_
        refine v_if_ne 54 dX14_nameHere_33 (by decide) (fun c33 => ?_) (fun c33 => ?_)
        · refine v_iconst (1) dX14_nameHere_54 (by decide) ?_
          refine v_goto 59 dX14_nameHere_55 (by decide) ?_
          first | exact M_nh1 g h hM t (kw 0 (by decide) c6).1 (kw 0 (by decide) c6).2 | exact M_nh1 g h hM t (kw 1 (by decide) c15).1 (kw 1 (by decide) c15).2 | exact M_nh1 g h hM t (kw 2 (by decide) c24).1 (kw 2 (by decide) c24).2 | exact M_nh1 g h hM t (kw 3 (by decide) c33).1 (kw 3 (by decide) c33).2 | exact M_nh1 g h hM t (kw 4 (by decide) c42).1 (kw 4 (by decide) c42).2 | exact M_nh1 g h hM t (kw 5 (by decide) c51).1 (kw 5 (by decide) c51).2 | exact M_nh0 g h hM t (names_kw t c6 c15 c24 c33 c42 c51)
        · refine v_aload_n dX14_nameHere_36 rfl ?_
          refine v_ldcS (j := 4) (tx := "and") dX14_nameHere_37 (by decide) ?_
          refine v_invVE (M_isWord g h hM (j := 4) (by decide)) dX14_nameHere_39 cwX14_isWord mlX14_182 (ob_32 _) rfl rfl (by decide) (by decide) (Nat.le_of_ble_eq_true rfl) ?_
          refine v_if_ne 54 dX14_nameHere_42 (by decide) (fun c42 => ?_) (fun c42 => ?_)
          · refine v_iconst (1) dX14_nameHere_54 (by decide) ?_
            refine v_goto 59 dX14_nameHere_55 (by decide) ?_
            first | exact M_nh1 g h hM t (kw 0 (by decide) c6).1 (kw 0 (by decide) c6).2 | exact M_nh1 g h hM t (kw 1 (by decide) c15).1 (kw 1 (by decide) c15).2 | exact M_nh1 g h hM t (kw 2 (by decide) c24).1 (kw 2 (by decide) c24).2 | exact M_nh1 g h hM t (kw 3 (by decide) c33).1 (kw 3 (by decide) c33).2 | exact M_nh1 g h hM t (kw 4 (by decide) c42).1 (kw 4 (by decide) c42).2 | exact M_nh1 g h hM t (kw 5 (by decide) c51).1 (kw 5 (by decide) c51).2 | exact M_nh0 g h hM t (names_kw t c6 c15 c24 c33 c42 c51)
          · refine v_aload_n dX14_nameHere_45 rfl ?_
            refine v_ldcS (j := 5) (tx := "not") dX14_nameHere_46 (by decide) ?_
            refine v_invVE (M_isWord g h hM (j := 5) (by decide)) dX14_nameHere_48 cwX14_isWord mlX14_182 (ob_32 _) rfl rfl (by decide) (by decide) (Nat.le_of_ble_eq_true rfl) ?_
            refine v_if_eq 58 dX14_nameHere_51 (by decide) (fun c51 => ?_) (fun c51 => ?_)
            · refine v_iconst (0) dX14_nameHere_58 (by decide) ?_
              first | exact M_nh1 g h hM t (kw 0 (by decide) c6).1 (kw 0 (by decide) c6).2 | exact M_nh1 g h hM t (kw 1 (by decide) c15).1 (kw 1 (by decide) c15).2 | exact M_nh1 g h hM t (kw 2 (by decide) c24).1 (kw 2 (by decide) c24).2 | exact M_nh1 g h hM t (kw 3 (by decide) c33).1 (kw 3 (by decide) c33).2 | exact M_nh1 g h hM t (kw 4 (by decide) c42).1 (kw 4 (by decide) c42).2 | exact M_nh1 g h hM t (kw 5 (by decide) c51).1 (kw 5 (by decide) c51).2 | exact M_nh0 g h hM t (names_kw t c6 c15 c24 c33 c42 c51)
            · refine v_iconst (1) dX14_nameHere_54 (by decide) ?_
              refine v_goto 59 dX14_nameHere_55 (by decide) ?_
              first | exact M_nh1 g h hM t (kw 0 (by decide) c6).1 (kw 0 (by decide) c6).2 | exact M_nh1 g h hM t (kw 1 (by decide) c15).1 (kw 1 (by decide) c15).2 | exact M_nh1 g h hM t (kw 2 (by decide) c24).1 (kw 2 (by decide) c24).2 | exact M_nh1 g h hM t (kw 3 (by decide) c33).1 (kw 3 (by decide) c33).2 | exact M_nh1 g h hM t (kw 4 (by decide) c42).1 (kw 4 (by decide) c42).2 | exact M_nh1 g h hM t (kw 5 (by decide) c51).1 (kw 5 (by decide) c51).2 | exact M_nh0 g h hM t (names_kw t c6 c15 c24 c33 c42 c51)
