theorem tp_13 (h : Hp) (a p k v : Int32) (i f : Nat) : vi (tp h a p k v) (13, i) f = vi h (13, i) f := tp_o h a p k v f (by show (13 : Nat) ≠ 1; decide)
def tnA (b : Nat → Int32) : Nat → Nat → Int32 → Nat × Int32
  | 0, q, v => (q, v)
  | j + 1, q, v => if xDig (b q) = 0 then (q, v) else tnA b j (q + 1) (v * 10 + b q - 48)
theorem tnA_le (b : Nat → Int32) : ∀ (j q : Nat) (v : Int32), q ≤ (tnA b j q v).1 ∧ (tnA b j q v).1 ≤ q + j
  | 0, q, v => ⟨Nat.le_refl _, Nat.le_refl _⟩
  | j + 1, q, v => by
    rw [tnA]
    split
    · exact ⟨Nat.le_refl _, Nat.le_add_right _ _⟩
    · have := tnA_le b j (q + 1) (v * 10 + b q - 48)
      omega
def tnF (h : Hp) (s : Nat) (t : Nat × Int32) : Hp := tp h (nI t.1) (nI s) (if 4 < nI (t.1 - s) then 1 else 2) t.2
set_option maxRecDepth 20000 in
theorem takeNum (g : G0) (h : Hp) (hS : SX h) {s e : Nat} (he : vi h (1, 0) 2 = nI e) (he3 : e ≤ 300) : ∀ (j q : Nat) (k v : Int32), q + j = e → s ≤ q → V g kfX8_takeNumber 1 0 0 0 (pA 0 [pR (1, 0)]) [] (tp h (nI q) (nI s) k v) (qE none (tnF h s (tnA (vi h (13, 0)) j q v))) (fun _ _ a h' => noX a h') := by
  intro j
  induction j with
  | zero =>
    intro q k v hij hsq
    refine v_aload_n dX8_takeNumber_0 rfl ?_
    refine v_getI fl_X8_22 dX8_takeNumber_1 rfl rfl (Nat.le_of_ble_eq_true rfl) (xh_1_0 (SXtp hS _ _ _ _)) ?_
    rw [tp_3]
    refine v_aload_n dX8_takeNumber_4 rfl ?_
    refine v_getI fl_X8_19 dX8_takeNumber_5 rfl rfl (Nat.le_of_ble_eq_true rfl) (xh_1_0 (SXtp hS _ _ _ _)) ?_
    rw [tp_2, he]
    refine v_icmp_ge 61 dX8_takeNumber_8 (by decide) (fun _ => ?_) (fun z => absurd (nI_le (by omega) (by omega)) z)
    refine v_aload_n dX8_takeNumber_61 rfl ?_
    refine v_aload_n dX8_takeNumber_62 rfl ?_
    refine v_getI fl_X8_22 dX8_takeNumber_63 rfl rfl (Nat.le_of_ble_eq_true rfl) (xh_1_0 (SXtp hS _ _ _ _)) ?_
    rw [tp_3]
    refine v_aload_n dX8_takeNumber_66 rfl ?_
    refine v_getI fl_X8_29 dX8_takeNumber_67 rfl rfl (Nat.le_of_ble_eq_true rfl) (xh_1_0 (SXtp hS _ _ _ _)) ?_
    rw [tp_4]
    refine v_isub dX8_takeNumber_70 ?_
    rw [nI_sub hsq]
    refine v_iconst (4) dX8_takeNumber_71 (by decide) ?_
    refine v_icmp_gt 79 dX8_takeNumber_72 (by decide) (fun c72 => ?_) (fun c72 => ?_)
    · refine v_iconst (1) dX8_takeNumber_79 (by decide) ?_
      refine v_putI fl_X8_35 (fun z => by cases z) dX8_takeNumber_80 rfl rfl (Nat.le_of_ble_eq_true rfl) rfl rfl (xh_1_0 (SXtp hS _ _ _ _)) ?_
      rw [tp_k]
      refine v_return dX8_takeNumber_83 rfl ?_
      exact ⟨rfl, by show _ = tnF h s (q, v); simp only [tnF, if_pos c72]⟩
    · refine v_iconst (2) dX8_takeNumber_75 (by decide) ?_
      refine v_goto 80 dX8_takeNumber_76 (by decide) ?_
      refine v_putI fl_X8_35 (fun z => by cases z) dX8_takeNumber_80 rfl rfl (Nat.le_of_ble_eq_true rfl) rfl rfl (xh_1_0 (SXtp hS _ _ _ _)) ?_
      rw [tp_k]
      refine v_return dX8_takeNumber_83 rfl ?_
      exact ⟨rfl, by show _ = tnF h s (q, v); simp only [tnF, if_neg c72]⟩
  | succ j ih =>
    intro q k v hij hsq
    refine v_aload_n dX8_takeNumber_0 rfl ?_
    refine v_getI fl_X8_22 dX8_takeNumber_1 rfl rfl (Nat.le_of_ble_eq_true rfl) (xh_1_0 (SXtp hS _ _ _ _)) ?_
    rw [tp_3]
    refine v_aload_n dX8_takeNumber_4 rfl ?_
    refine v_getI fl_X8_19 dX8_takeNumber_5 rfl rfl (Nat.le_of_ble_eq_true rfl) (xh_1_0 (SXtp hS _ _ _ _)) ?_
    rw [tp_2, he]
    refine v_icmp_ge 61 dX8_takeNumber_8 (by decide) (fun z => absurd z (nI_ge (by omega) (by omega))) (fun _ => ?_)
    refine v_aload_n dX8_takeNumber_11 rfl ?_
    refine v_aload_n dX8_takeNumber_12 rfl ?_
    refine v_getI fl_X8_22 dX8_takeNumber_13 rfl rfl (Nat.le_of_ble_eq_true rfl) (xh_1_0 (SXtp hS _ _ _ _)) ?_
    rw [tp_3]
    refine v_invVE (m_byteAt g _ (SXtp hS _ _ _ _) (show q < 300 by omega)) dX8_takeNumber_16 cwX8_byteAt mlX8_25 (ob_1 _) rfl rfl (by decide) (by decide) (Nat.le_of_ble_eq_true rfl) ?_
    rw [tp_13]
    refine v_invSE (m_isDigit g _) dX8_takeNumber_19 cwX8_isDigit mlX8_38 rfl rfl (by decide) (by decide) (Nat.le_of_ble_eq_true rfl) ?_
    refine v_if_eq 61 dX8_takeNumber_22 (by decide) (fun c22 => ?_) (fun c22 => ?_)
    · refine v_aload_n dX8_takeNumber_61 rfl ?_
      refine v_aload_n dX8_takeNumber_62 rfl ?_
      refine v_getI fl_X8_22 dX8_takeNumber_63 rfl rfl (Nat.le_of_ble_eq_true rfl) (xh_1_0 (SXtp hS _ _ _ _)) ?_
      rw [tp_3]
      refine v_aload_n dX8_takeNumber_66 rfl ?_
      refine v_getI fl_X8_29 dX8_takeNumber_67 rfl rfl (Nat.le_of_ble_eq_true rfl) (xh_1_0 (SXtp hS _ _ _ _)) ?_
      rw [tp_4]
      refine v_isub dX8_takeNumber_70 ?_
      rw [nI_sub hsq]
      refine v_iconst (4) dX8_takeNumber_71 (by decide) ?_
      refine v_icmp_gt 79 dX8_takeNumber_72 (by decide) (fun c72 => ?_) (fun c72 => ?_)
      · refine v_iconst (1) dX8_takeNumber_79 (by decide) ?_
        refine v_putI fl_X8_35 (fun z => by cases z) dX8_takeNumber_80 rfl rfl (Nat.le_of_ble_eq_true rfl) rfl rfl (xh_1_0 (SXtp hS _ _ _ _)) ?_
        rw [tp_k]
        refine v_return dX8_takeNumber_83 rfl ?_
        exact ⟨rfl, by simp only [tnA, tnF, if_pos c22, if_pos c72]⟩
      · refine v_iconst (2) dX8_takeNumber_75 (by decide) ?_
        refine v_goto 80 dX8_takeNumber_76 (by decide) ?_
        refine v_putI fl_X8_35 (fun z => by cases z) dX8_takeNumber_80 rfl rfl (Nat.le_of_ble_eq_true rfl) rfl rfl (xh_1_0 (SXtp hS _ _ _ _)) ?_
        rw [tp_k]
        refine v_return dX8_takeNumber_83 rfl ?_
        exact ⟨rfl, by simp only [tnA, tnF, if_pos c22, if_neg c72]⟩
    · refine v_aload_n dX8_takeNumber_25 rfl ?_
      refine v_aload_n dX8_takeNumber_26 rfl ?_
      refine v_getI fl_X8_32 dX8_takeNumber_27 rfl rfl (Nat.le_of_ble_eq_true rfl) (xh_1_0 (SXtp hS _ _ _ _)) ?_
      rw [tp_6]
      refine v_bipush (10) dX8_takeNumber_30 (by decide) ?_
      refine v_imul dX8_takeNumber_32 ?_
      refine v_aload_n dX8_takeNumber_33 rfl ?_
      refine v_aload_n dX8_takeNumber_34 rfl ?_
      refine v_getI fl_X8_22 dX8_takeNumber_35 rfl rfl (Nat.le_of_ble_eq_true rfl) (xh_1_0 (SXtp hS _ _ _ _)) ?_
      rw [tp_3]
      refine v_invVE (m_byteAt g _ (SXtp hS _ _ _ _) (show q < 300 by omega)) dX8_takeNumber_38 cwX8_byteAt mlX8_25 (ob_1 _) rfl rfl (by decide) (by decide) (Nat.le_of_ble_eq_true rfl) ?_
      rw [tp_13]
      refine v_iadd dX8_takeNumber_41 ?_
      refine v_bipush (48) dX8_takeNumber_42 (by decide) ?_
      refine v_isub dX8_takeNumber_44 ?_
      refine v_putI fl_X8_32 (fun z => by cases z) dX8_takeNumber_45 rfl rfl (Nat.le_of_ble_eq_true rfl) rfl rfl (xh_1_0 (SXtp hS _ _ _ _)) ?_
      rw [tp_v]
      refine v_aload_n dX8_takeNumber_48 rfl ?_
      refine v_dup dX8_takeNumber_49 rfl ?_
      refine v_getI fl_X8_22 dX8_takeNumber_50 rfl rfl (Nat.le_of_ble_eq_true rfl) (xh_1_0 (SXtp hS _ _ _ _)) ?_
      rw [tp_3]
      refine v_iconst (1) dX8_takeNumber_53 (by decide) ?_
      refine v_iadd dX8_takeNumber_54 ?_
      refine v_putI fl_X8_22 (fun z => by cases z) dX8_takeNumber_55 rfl rfl (Nat.le_of_ble_eq_true rfl) rfl rfl (xh_1_0 (SXtp hS _ _ _ _)) ?_
      rw [tp_a, nI_1]
      refine v_goto 0 dX8_takeNumber_58 (by decide) ?_
      rw [tnA, if_neg c22]
      exact ih (q + 1) _ _ (by omega) (by omega)
def spn (b : Nat → Int32) : Nat → Nat → Nat
  | 0, q => q
  | j + 1, q => if xLet (b q) = 0 then q else spn b j (q + 1)
theorem spn_le (b : Nat → Int32) : ∀ (j q : Nat), q ≤ spn b j q ∧ spn b j q ≤ q + j
  | 0, q => ⟨Nat.le_refl _, Nat.le_refl _⟩
  | j + 1, q => by
    rw [spn]
    split
    · exact ⟨Nat.le_refl _, Nat.le_add_right _ _⟩
    · have := spn_le b j (q + 1)
      omega
def tokW (b : Nat → Int32) (s t : Nat) (v : Int32) : Int32 × Int32 := if 8 < nI (t - s) then (1, v) else if kwK b s (t - s) = 3 then (if kwN b s (t - s) = -1 then (3, kwN b s (t - s)) else (4, kwN b s (t - s))) else (kwK b s (t - s), v)
def twF (h : Hp) (s t : Nat) (v : Int32) : Hp := tp h (nI t) (nI s) (tokW (vi h (13, 0)) s t v).1 (tokW (vi h (13, 0)) s t v).2
theorem tp_13f (h : Hp) (a p k v : Int32) : vi (tp h a p k v) (13, 0) = vi h (13, 0) := by funext f; exact tp_13 h a p k v 0 f
set_option maxRecDepth 20000 in
theorem takeWd (g : G0) (h : Hp) (hS : SX h) {s e : Nat} (he : vi h (1, 0) 2 = nI e) (he3 : e ≤ 300) (k v : Int32) : ∀ (j q : Nat), q + j = e → s ≤ q → V g kfX8_takeWord 6 0 0 0 (pA 0 [pR (1, 0)]) [] (tp h (nI q) (nI s) k v) (qE none (twF h s (spn (vi h (13, 0)) j q) v)) (fun _ _ a h' => noX a h') := by
  intro j
  induction j with
  | zero =>
    intro q hij hsq
    refine v_aload_n dX8_takeWord_0 rfl ?_
    refine v_getI fl_X8_22 dX8_takeWord_1 rfl rfl (Nat.le_of_ble_eq_true rfl) (xh_1_0 (SXtp hS _ _ _ _)) ?_
    rw [tp_3]
    refine v_aload_n dX8_takeWord_4 rfl ?_
    refine v_getI fl_X8_19 dX8_takeWord_5 rfl rfl (Nat.le_of_ble_eq_true rfl) (xh_1_0 (SXtp hS _ _ _ _)) ?_
    rw [tp_2, he]
    refine v_icmp_ge 38 dX8_takeWord_8 (by decide) (fun _ => ?_) (fun z => absurd (nI_le (by omega) (by omega)) z)
    refine v_aload_n dX8_takeWord_38 rfl ?_
    refine v_aload_n dX8_takeWord_39 rfl ?_
    refine v_getI fl_X8_22 dX8_takeWord_40 rfl rfl (Nat.le_of_ble_eq_true rfl) (xh_1_0 (SXtp hS _ _ _ _)) ?_
    rw [tp_3]
    refine v_aload_n dX8_takeWord_43 rfl ?_
    refine v_getI fl_X8_29 dX8_takeWord_44 rfl rfl (Nat.le_of_ble_eq_true rfl) (xh_1_0 (SXtp hS _ _ _ _)) ?_
    rw [tp_4]
    refine v_isub dX8_takeWord_47 ?_
    rw [nI_sub hsq]
    refine v_bipush (8) dX8_takeWord_48 (by decide) ?_
    refine v_icmp_gt 60 dX8_takeWord_50 (by decide) (fun c50 => ?_) (fun c50 => ?_)
    · refine v_iconst (1) dX8_takeWord_60 (by decide) ?_
      refine v_putI fl_X8_35 (fun z => by cases z) dX8_takeWord_61 rfl rfl (Nat.le_of_ble_eq_true rfl) rfl rfl (xh_1_0 (SXtp hS _ _ _ _)) ?_
      rw [tp_k]
      refine v_aload_n dX8_takeWord_64 rfl ?_
      refine v_getI fl_X8_35 dX8_takeWord_65 rfl rfl (Nat.le_of_ble_eq_true rfl) (xh_1_0 (SXtp hS _ _ _ _)) ?_
      rw [tp_5]
      refine v_iconst (3) dX8_takeWord_68 (by decide) ?_
      refine v_icmp_ne 97 dX8_takeWord_69 (by decide) (fun c69 => ?_) (fun c69 => ?_)
      · refine v_return dX8_takeWord_97 rfl ?_
        first | exact absurd c69 (by decide) | (refine ⟨rfl, ?_⟩; show _ = twF h s q v; simp only [twF, tokW, if_pos c50, if_neg c69]; done)
      · refine v_aload_n dX8_takeWord_72 rfl ?_
        refine v_aload_n dX8_takeWord_73 rfl ?_
        refine v_invVE (m_nameNumber g _ (SXtp hS _ _ _ _) (s := s) (t := q) rfl rfl hsq (by omega)) dX8_takeWord_74 cwX8_nameNumber mlX8_58 (ob_1 _) rfl rfl (by decide) (by decide) (Nat.le_of_ble_eq_true rfl) ?_
        rw [tp_13f]
        refine v_putI fl_X8_32 (fun z => by cases z) dX8_takeWord_77 rfl rfl (Nat.le_of_ble_eq_true rfl) rfl rfl (xh_1_0 (SXtp hS _ _ _ _)) ?_
        rw [tp_v]
        refine v_aload_n dX8_takeWord_80 rfl ?_
        refine v_aload_n dX8_takeWord_81 rfl ?_
        refine v_getI fl_X8_32 dX8_takeWord_82 rfl rfl (Nat.le_of_ble_eq_true rfl) (xh_1_0 (SXtp hS _ _ _ _)) ?_
        rw [tp_6]
        refine v_iconst (-1) dX8_takeWord_85 (by decide) ?_
        refine v_icmp_ne 93 dX8_takeWord_86 (by decide) (fun c86 => ?_) (fun c86 => ?_)
        · refine v_iconst (4) dX8_takeWord_93 (by decide) ?_
          refine v_putI fl_X8_35 (fun z => by cases z) dX8_takeWord_94 rfl rfl (Nat.le_of_ble_eq_true rfl) rfl rfl (xh_1_0 (SXtp hS _ _ _ _)) ?_
          rw [tp_k]
          refine v_return dX8_takeWord_97 rfl ?_
          first | exact absurd c69 (by decide) | (refine ⟨rfl, ?_⟩; show _ = twF h s q v; simp only [twF, tokW, if_pos c50, if_pos c69, if_neg c86]; done)
        · refine v_iconst (3) dX8_takeWord_89 (by decide) ?_
          refine v_goto 94 dX8_takeWord_90 (by decide) ?_
          refine v_putI fl_X8_35 (fun z => by cases z) dX8_takeWord_94 rfl rfl (Nat.le_of_ble_eq_true rfl) rfl rfl (xh_1_0 (SXtp hS _ _ _ _)) ?_
          rw [tp_k]
          refine v_return dX8_takeWord_97 rfl ?_
          first | exact absurd c69 (by decide) | (refine ⟨rfl, ?_⟩; show _ = twF h s q v; simp only [twF, tokW, if_pos c50, if_pos c69, if_pos c86]; done)
    · refine v_aload_n dX8_takeWord_53 rfl ?_
      refine v_invVE (m_keyword g _ (SXtp hS _ _ _ _) (s := s) (t := q) rfl rfl hsq (by omega)) dX8_takeWord_54 cwX8_keywordKind mlX8_54 (ob_1 _) rfl rfl (by decide) (by decide) (Nat.le_of_ble_eq_true rfl) ?_
      rw [tp_13f]
      refine v_goto 61 dX8_takeWord_57 (by decide) ?_
      refine v_putI fl_X8_35 (fun z => by cases z) dX8_takeWord_61 rfl rfl (Nat.le_of_ble_eq_true rfl) rfl rfl (xh_1_0 (SXtp hS _ _ _ _)) ?_
      rw [tp_k]
      refine v_aload_n dX8_takeWord_64 rfl ?_
      refine v_getI fl_X8_35 dX8_takeWord_65 rfl rfl (Nat.le_of_ble_eq_true rfl) (xh_1_0 (SXtp hS _ _ _ _)) ?_
      rw [tp_5]
      refine v_iconst (3) dX8_takeWord_68 (by decide) ?_
      refine v_icmp_ne 97 dX8_takeWord_69 (by decide) (fun c69 => ?_) (fun c69 => ?_)
      · refine v_return dX8_takeWord_97 rfl ?_
        first | exact absurd c69 (by decide) | (refine ⟨rfl, ?_⟩; show _ = twF h s q v; simp only [twF, tokW, if_neg c50, if_neg c69]; done)
      · refine v_aload_n dX8_takeWord_72 rfl ?_
        refine v_aload_n dX8_takeWord_73 rfl ?_
        refine v_invVE (m_nameNumber g _ (SXtp hS _ _ _ _) (s := s) (t := q) rfl rfl hsq (by omega)) dX8_takeWord_74 cwX8_nameNumber mlX8_58 (ob_1 _) rfl rfl (by decide) (by decide) (Nat.le_of_ble_eq_true rfl) ?_
        rw [tp_13f]
        refine v_putI fl_X8_32 (fun z => by cases z) dX8_takeWord_77 rfl rfl (Nat.le_of_ble_eq_true rfl) rfl rfl (xh_1_0 (SXtp hS _ _ _ _)) ?_
        rw [tp_v]
        refine v_aload_n dX8_takeWord_80 rfl ?_
        refine v_aload_n dX8_takeWord_81 rfl ?_
        refine v_getI fl_X8_32 dX8_takeWord_82 rfl rfl (Nat.le_of_ble_eq_true rfl) (xh_1_0 (SXtp hS _ _ _ _)) ?_
        rw [tp_6]
        refine v_iconst (-1) dX8_takeWord_85 (by decide) ?_
        refine v_icmp_ne 93 dX8_takeWord_86 (by decide) (fun c86 => ?_) (fun c86 => ?_)
        · refine v_iconst (4) dX8_takeWord_93 (by decide) ?_
          refine v_putI fl_X8_35 (fun z => by cases z) dX8_takeWord_94 rfl rfl (Nat.le_of_ble_eq_true rfl) rfl rfl (xh_1_0 (SXtp hS _ _ _ _)) ?_
          rw [tp_k]
          refine v_return dX8_takeWord_97 rfl ?_
          first | exact absurd c69 (by decide) | (refine ⟨rfl, ?_⟩; show _ = twF h s q v; simp only [twF, tokW, if_neg c50, if_pos c69, if_neg c86]; done)
        · refine v_iconst (3) dX8_takeWord_89 (by decide) ?_
          refine v_goto 94 dX8_takeWord_90 (by decide) ?_
          refine v_putI fl_X8_35 (fun z => by cases z) dX8_takeWord_94 rfl rfl (Nat.le_of_ble_eq_true rfl) rfl rfl (xh_1_0 (SXtp hS _ _ _ _)) ?_
          rw [tp_k]
          refine v_return dX8_takeWord_97 rfl ?_
          first | exact absurd c69 (by decide) | (refine ⟨rfl, ?_⟩; show _ = twF h s q v; simp only [twF, tokW, if_neg c50, if_pos c69, if_pos c86]; done)
  | succ j ih =>
    intro q hij hsq
    refine v_aload_n dX8_takeWord_0 rfl ?_
    refine v_getI fl_X8_22 dX8_takeWord_1 rfl rfl (Nat.le_of_ble_eq_true rfl) (xh_1_0 (SXtp hS _ _ _ _)) ?_
    rw [tp_3]
    refine v_aload_n dX8_takeWord_4 rfl ?_
    refine v_getI fl_X8_19 dX8_takeWord_5 rfl rfl (Nat.le_of_ble_eq_true rfl) (xh_1_0 (SXtp hS _ _ _ _)) ?_
    rw [tp_2, he]
    refine v_icmp_ge 38 dX8_takeWord_8 (by decide) (fun z => absurd z (nI_ge (by omega) (by omega))) (fun _ => ?_)
    refine v_aload_n dX8_takeWord_11 rfl ?_
    refine v_aload_n dX8_takeWord_12 rfl ?_
    refine v_getI fl_X8_22 dX8_takeWord_13 rfl rfl (Nat.le_of_ble_eq_true rfl) (xh_1_0 (SXtp hS _ _ _ _)) ?_
    rw [tp_3]
    refine v_invVE (m_byteAt g _ (SXtp hS _ _ _ _) (show q < 300 by omega)) dX8_takeWord_16 cwX8_byteAt mlX8_25 (ob_1 _) rfl rfl (by decide) (by decide) (Nat.le_of_ble_eq_true rfl) ?_
    rw [tp_13]
    refine v_invSE (m_isLetter g _) dX8_takeWord_19 cwX8_isLetter mlX8_45 rfl rfl (by decide) (by decide) (Nat.le_of_ble_eq_true rfl) ?_
    refine v_if_eq 38 dX8_takeWord_22 (by decide) (fun c22 => ?_) (fun c22 => ?_)
    · refine v_aload_n dX8_takeWord_38 rfl ?_
      refine v_aload_n dX8_takeWord_39 rfl ?_
      refine v_getI fl_X8_22 dX8_takeWord_40 rfl rfl (Nat.le_of_ble_eq_true rfl) (xh_1_0 (SXtp hS _ _ _ _)) ?_
      rw [tp_3]
      refine v_aload_n dX8_takeWord_43 rfl ?_
      refine v_getI fl_X8_29 dX8_takeWord_44 rfl rfl (Nat.le_of_ble_eq_true rfl) (xh_1_0 (SXtp hS _ _ _ _)) ?_
      rw [tp_4]
      refine v_isub dX8_takeWord_47 ?_
      rw [nI_sub hsq]
      refine v_bipush (8) dX8_takeWord_48 (by decide) ?_
      refine v_icmp_gt 60 dX8_takeWord_50 (by decide) (fun c50 => ?_) (fun c50 => ?_)
      · refine v_iconst (1) dX8_takeWord_60 (by decide) ?_
        refine v_putI fl_X8_35 (fun z => by cases z) dX8_takeWord_61 rfl rfl (Nat.le_of_ble_eq_true rfl) rfl rfl (xh_1_0 (SXtp hS _ _ _ _)) ?_
        rw [tp_k]
        refine v_aload_n dX8_takeWord_64 rfl ?_
        refine v_getI fl_X8_35 dX8_takeWord_65 rfl rfl (Nat.le_of_ble_eq_true rfl) (xh_1_0 (SXtp hS _ _ _ _)) ?_
        rw [tp_5]
        refine v_iconst (3) dX8_takeWord_68 (by decide) ?_
        refine v_icmp_ne 97 dX8_takeWord_69 (by decide) (fun c69 => ?_) (fun c69 => ?_)
        · refine v_return dX8_takeWord_97 rfl ?_
          first | exact absurd c69 (by decide) | (refine ⟨rfl, ?_⟩; simp only [spn, twF, tokW, if_pos c22, if_pos c50, if_neg c69]; done)
        · refine v_aload_n dX8_takeWord_72 rfl ?_
          refine v_aload_n dX8_takeWord_73 rfl ?_
          refine v_invVE (m_nameNumber g _ (SXtp hS _ _ _ _) (s := s) (t := q) rfl rfl hsq (by omega)) dX8_takeWord_74 cwX8_nameNumber mlX8_58 (ob_1 _) rfl rfl (by decide) (by decide) (Nat.le_of_ble_eq_true rfl) ?_
          rw [tp_13f]
          refine v_putI fl_X8_32 (fun z => by cases z) dX8_takeWord_77 rfl rfl (Nat.le_of_ble_eq_true rfl) rfl rfl (xh_1_0 (SXtp hS _ _ _ _)) ?_
          rw [tp_v]
          refine v_aload_n dX8_takeWord_80 rfl ?_
          refine v_aload_n dX8_takeWord_81 rfl ?_
          refine v_getI fl_X8_32 dX8_takeWord_82 rfl rfl (Nat.le_of_ble_eq_true rfl) (xh_1_0 (SXtp hS _ _ _ _)) ?_
          rw [tp_6]
          refine v_iconst (-1) dX8_takeWord_85 (by decide) ?_
          refine v_icmp_ne 93 dX8_takeWord_86 (by decide) (fun c86 => ?_) (fun c86 => ?_)
          · refine v_iconst (4) dX8_takeWord_93 (by decide) ?_
            refine v_putI fl_X8_35 (fun z => by cases z) dX8_takeWord_94 rfl rfl (Nat.le_of_ble_eq_true rfl) rfl rfl (xh_1_0 (SXtp hS _ _ _ _)) ?_
            rw [tp_k]
            refine v_return dX8_takeWord_97 rfl ?_
            first | exact absurd c69 (by decide) | (refine ⟨rfl, ?_⟩; simp only [spn, twF, tokW, if_pos c22, if_pos c50, if_pos c69, if_neg c86]; done)
          · refine v_iconst (3) dX8_takeWord_89 (by decide) ?_
            refine v_goto 94 dX8_takeWord_90 (by decide) ?_
            refine v_putI fl_X8_35 (fun z => by cases z) dX8_takeWord_94 rfl rfl (Nat.le_of_ble_eq_true rfl) rfl rfl (xh_1_0 (SXtp hS _ _ _ _)) ?_
            rw [tp_k]
            refine v_return dX8_takeWord_97 rfl ?_
            first | exact absurd c69 (by decide) | (refine ⟨rfl, ?_⟩; simp only [spn, twF, tokW, if_pos c22, if_pos c50, if_pos c69, if_pos c86]; done)
      · refine v_aload_n dX8_takeWord_53 rfl ?_
        refine v_invVE (m_keyword g _ (SXtp hS _ _ _ _) (s := s) (t := q) rfl rfl hsq (by omega)) dX8_takeWord_54 cwX8_keywordKind mlX8_54 (ob_1 _) rfl rfl (by decide) (by decide) (Nat.le_of_ble_eq_true rfl) ?_
        rw [tp_13f]
        refine v_goto 61 dX8_takeWord_57 (by decide) ?_
        refine v_putI fl_X8_35 (fun z => by cases z) dX8_takeWord_61 rfl rfl (Nat.le_of_ble_eq_true rfl) rfl rfl (xh_1_0 (SXtp hS _ _ _ _)) ?_
        rw [tp_k]
        refine v_aload_n dX8_takeWord_64 rfl ?_
        refine v_getI fl_X8_35 dX8_takeWord_65 rfl rfl (Nat.le_of_ble_eq_true rfl) (xh_1_0 (SXtp hS _ _ _ _)) ?_
        rw [tp_5]
        refine v_iconst (3) dX8_takeWord_68 (by decide) ?_
        refine v_icmp_ne 97 dX8_takeWord_69 (by decide) (fun c69 => ?_) (fun c69 => ?_)
        · refine v_return dX8_takeWord_97 rfl ?_
          first | exact absurd c69 (by decide) | (refine ⟨rfl, ?_⟩; simp only [spn, twF, tokW, if_pos c22, if_neg c50, if_neg c69]; done)
        · refine v_aload_n dX8_takeWord_72 rfl ?_
          refine v_aload_n dX8_takeWord_73 rfl ?_
          refine v_invVE (m_nameNumber g _ (SXtp hS _ _ _ _) (s := s) (t := q) rfl rfl hsq (by omega)) dX8_takeWord_74 cwX8_nameNumber mlX8_58 (ob_1 _) rfl rfl (by decide) (by decide) (Nat.le_of_ble_eq_true rfl) ?_
          rw [tp_13f]
          refine v_putI fl_X8_32 (fun z => by cases z) dX8_takeWord_77 rfl rfl (Nat.le_of_ble_eq_true rfl) rfl rfl (xh_1_0 (SXtp hS _ _ _ _)) ?_
          rw [tp_v]
          refine v_aload_n dX8_takeWord_80 rfl ?_
          refine v_aload_n dX8_takeWord_81 rfl ?_
          refine v_getI fl_X8_32 dX8_takeWord_82 rfl rfl (Nat.le_of_ble_eq_true rfl) (xh_1_0 (SXtp hS _ _ _ _)) ?_
          rw [tp_6]
          refine v_iconst (-1) dX8_takeWord_85 (by decide) ?_
          refine v_icmp_ne 93 dX8_takeWord_86 (by decide) (fun c86 => ?_) (fun c86 => ?_)
          · refine v_iconst (4) dX8_takeWord_93 (by decide) ?_
            refine v_putI fl_X8_35 (fun z => by cases z) dX8_takeWord_94 rfl rfl (Nat.le_of_ble_eq_true rfl) rfl rfl (xh_1_0 (SXtp hS _ _ _ _)) ?_
            rw [tp_k]
            refine v_return dX8_takeWord_97 rfl ?_
            first | exact absurd c69 (by decide) | (refine ⟨rfl, ?_⟩; simp only [spn, twF, tokW, if_pos c22, if_neg c50, if_pos c69, if_neg c86]; done)
          · refine v_iconst (3) dX8_takeWord_89 (by decide) ?_
            refine v_goto 94 dX8_takeWord_90 (by decide) ?_
            refine v_putI fl_X8_35 (fun z => by cases z) dX8_takeWord_94 rfl rfl (Nat.le_of_ble_eq_true rfl) rfl rfl (xh_1_0 (SXtp hS _ _ _ _)) ?_
            rw [tp_k]
            refine v_return dX8_takeWord_97 rfl ?_
            first | exact absurd c69 (by decide) | (refine ⟨rfl, ?_⟩; simp only [spn, twF, tokW, if_pos c22, if_neg c50, if_pos c69, if_pos c86]; done)
    · refine v_aload_n dX8_takeWord_25 rfl ?_
      refine v_dup dX8_takeWord_26 rfl ?_
      refine v_getI fl_X8_22 dX8_takeWord_27 rfl rfl (Nat.le_of_ble_eq_true rfl) (xh_1_0 (SXtp hS _ _ _ _)) ?_
      rw [tp_3]
      refine v_iconst (1) dX8_takeWord_30 (by decide) ?_
      refine v_iadd dX8_takeWord_31 ?_
      refine v_putI fl_X8_22 (fun z => by cases z) dX8_takeWord_32 rfl rfl (Nat.le_of_ble_eq_true rfl) rfl rfl (xh_1_0 (SXtp hS _ _ _ _)) ?_
      rw [tp_a, nI_1]
      refine v_goto 0 dX8_takeWord_35 (by decide) ?_
      rw [spn, if_neg c22]
      exact ih (q + 1) (by omega) (by omega)
def skp (b : Nat → Int32) : Nat → Nat → Nat
  | 0, q => q
  | j + 1, q => if b q = 32 then skp b j (q + 1) else q
theorem skp_le (b : Nat → Int32) : ∀ (j q : Nat), q ≤ skp b j q ∧ skp b j q ≤ q + j
  | 0, q => ⟨Nat.le_refl _, Nat.le_refl _⟩
  | j + 1, q => by
    rw [skp]
    split
    · have := skp_le b j (q + 1)
      omega
    · exact ⟨Nat.le_refl _, Nat.le_add_right _ _⟩
/-- the TOKEN from s on, spaces left behind: (at, place, kind, value) -/
def tokS (b : Nat → Int32) (e s : Nat) : Nat × Nat × Int32 × Int32 :=
  if nI s < nI e then
    (if xDig (b s) = 0 then
      (if xLet (b s) = 0 then (if xSgn (b s) = 0 then (s + 1, s, 1, 0) else (s + 1, s, b s, 0))
       else (spn b (e - s) s, s, tokW b s (spn b (e - s) s) 0))
     else ((tnA b (e - s) s 0).1, s, if 4 < nI ((tnA b (e - s) s 0).1 - s) then 1 else 2, (tnA b (e - s) s 0).2))
  else (s, s, 0, 0)
def tkH (h : Hp) (t : Nat × Nat × Int32 × Int32) : Hp := tp h (nI t.1) (nI t.2.1) t.2.2.1 t.2.2.2
set_option maxRecDepth 20000 in
theorem m_takeNumber (g : G0) (h : Hp) (hS : SX h) {s e : Nat} (he : vi h (1, 0) 2 = nI e) (he3 : e ≤ 300) (hse : s ≤ e) {k v : Int32} : Mx g yX8_takeNumber wX8_takeNumber 1 [pR (1, 0)] (tp h (nI s) (nI s) k v) 0 0 (qE none (tnF h s (tnA (vi h (13, 0)) (e - s) s v))) noX := by
  refine Mx.by kfX8_takeNumber rfl (by decide) (Nat.le_of_ble_eq_true rfl) ?_
  exact takeNum g h hS he he3 (e - s) s k v (by omega) (Nat.le_refl _)
set_option maxRecDepth 20000 in
theorem m_takeWord (g : G0) (h : Hp) (hS : SX h) {s e : Nat} (he : vi h (1, 0) 2 = nI e) (he3 : e ≤ 300) (hse : s ≤ e) {k v : Int32} : Mx g yX8_takeWord wX8_takeWord 6 [pR (1, 0)] (tp h (nI s) (nI s) k v) 0 0 (qE none (twF h s (spn (vi h (13, 0)) (e - s) s) v)) noX := by
  refine Mx.by kfX8_takeWord rfl (by decide) (Nat.le_of_ble_eq_true rfl) ?_
  exact takeWd g h hS he he3 k v (e - s) s (by omega) (Nat.le_refl _)
set_option maxRecDepth 20000 in
theorem adv2 (g : G0) (h : Hp) (hS : SX h) {e s : Nat} (he : vi h (1, 0) 2 = nI e) (he3 : e ≤ 300) (hs : s ≤ e) (p k v : Int32) : V g kfX8_advance 7 0 0 37 (pA 0 [pR (1, 0)]) [] (tp h (nI s) p k v) (qE none (tkH h (tokS (vi h (13, 0)) e s))) (fun _ _ a h' => noX a h') := by
  refine v_aload_n dX8_advance_37 rfl ?_
  refine v_aload_n dX8_advance_38 rfl ?_
  refine v_getI fl_X8_22 dX8_advance_39 rfl rfl (Nat.le_of_ble_eq_true rfl) (xh_1_0 (SXtp hS _ _ _ _)) ?_
  rw [tp_3]
  refine v_putI fl_X8_29 (fun z => by cases z) dX8_advance_42 rfl rfl (Nat.le_of_ble_eq_true rfl) rfl rfl (xh_1_0 (SXtp hS _ _ _ _)) ?_
  rw [tp_p]
  refine v_aload_n dX8_advance_45 rfl ?_
  refine v_iconst (0) dX8_advance_46 (by decide) ?_
  refine v_putI fl_X8_32 (fun z => by cases z) dX8_advance_47 rfl rfl (Nat.le_of_ble_eq_true rfl) rfl rfl (xh_1_0 (SXtp hS _ _ _ _)) ?_
  rw [tp_v]
  refine v_aload_n dX8_advance_50 rfl ?_
  refine v_getI fl_X8_22 dX8_advance_51 rfl rfl (Nat.le_of_ble_eq_true rfl) (xh_1_0 (SXtp hS _ _ _ _)) ?_
  rw [tp_3]
  refine v_aload_n dX8_advance_54 rfl ?_
  refine v_getI fl_X8_19 dX8_advance_55 rfl rfl (Nat.le_of_ble_eq_true rfl) (xh_1_0 (SXtp hS _ _ _ _)) ?_
  rw [tp_2, he]
  refine v_icmp_lt 69 dX8_advance_58 (by decide) (fun c58 => ?_) (fun c58 => ?_)
  · refine v_aload_n dX8_advance_69 rfl ?_
    refine v_aload_n dX8_advance_70 rfl ?_
    refine v_getI fl_X8_22 dX8_advance_71 rfl rfl (Nat.le_of_ble_eq_true rfl) (xh_1_0 (SXtp hS _ _ _ _)) ?_
    rw [tp_3]
    refine v_invVE (m_byteAt g _ (SXtp hS _ _ _ _) (show s < 300 by have := (nI_ltI (by omega) (by omega)).mp c58; omega)) dX8_advance_74 cwX8_byteAt mlX8_25 (ob_1 _) rfl rfl (by decide) (by decide) (Nat.le_of_ble_eq_true rfl) ?_
    rw [tp_13]
    refine v_invSE (m_isDigit g _) dX8_advance_77 cwX8_isDigit mlX8_38 rfl rfl (by decide) (by decide) (Nat.le_of_ble_eq_true rfl) ?_
    refine v_if_eq 90 dX8_advance_80 (by decide) (fun c80 => ?_) (fun c80 => ?_)
    · refine v_aload_n dX8_advance_90 rfl ?_
      refine v_aload_n dX8_advance_91 rfl ?_
      refine v_getI fl_X8_22 dX8_advance_92 rfl rfl (Nat.le_of_ble_eq_true rfl) (xh_1_0 (SXtp hS _ _ _ _)) ?_
      rw [tp_3]
      refine v_invVE (m_byteAt g _ (SXtp hS _ _ _ _) (show s < 300 by have := (nI_ltI (by omega) (by omega)).mp c58; omega)) dX8_advance_95 cwX8_byteAt mlX8_25 (ob_1 _) rfl rfl (by decide) (by decide) (Nat.le_of_ble_eq_true rfl) ?_
      rw [tp_13]
      refine v_invSE (m_isLetter g _) dX8_advance_98 cwX8_isLetter mlX8_45 rfl rfl (by decide) (by decide) (Nat.le_of_ble_eq_true rfl) ?_
      refine v_if_eq 111 dX8_advance_101 (by decide) (fun c101 => ?_) (fun c101 => ?_)
      · refine v_aload_n dX8_advance_111 rfl ?_
        refine v_aload_n dX8_advance_112 rfl ?_
        refine v_aload_n dX8_advance_113 rfl ?_
        refine v_getI fl_X8_22 dX8_advance_114 rfl rfl (Nat.le_of_ble_eq_true rfl) (xh_1_0 (SXtp hS _ _ _ _)) ?_
        rw [tp_3]
        refine v_invVE (m_byteAt g _ (SXtp hS _ _ _ _) (show s < 300 by have := (nI_ltI (by omega) (by omega)).mp c58; omega)) dX8_advance_117 cwX8_byteAt mlX8_25 (ob_1 _) rfl rfl (by decide) (by decide) (Nat.le_of_ble_eq_true rfl) ?_
        rw [tp_13]
        refine v_invSE (m_isSign g _) dX8_advance_120 cwX8_isSign mlX8_51 rfl rfl (by decide) (by decide) (Nat.le_of_ble_eq_true rfl) ?_
        refine v_if_eq 137 dX8_advance_123 (by decide) (fun c123 => ?_) (fun c123 => ?_)
        · refine v_iconst (1) dX8_advance_137 (by decide) ?_
          refine v_putI fl_X8_35 (fun z => by cases z) dX8_advance_138 rfl rfl (Nat.le_of_ble_eq_true rfl) rfl rfl (xh_1_0 (SXtp hS _ _ _ _)) ?_
          rw [tp_k]
          refine v_aload_n dX8_advance_141 rfl ?_
          refine v_dup dX8_advance_142 rfl ?_
          refine v_getI fl_X8_22 dX8_advance_143 rfl rfl (Nat.le_of_ble_eq_true rfl) (xh_1_0 (SXtp hS _ _ _ _)) ?_
          rw [tp_3]
          refine v_iconst (1) dX8_advance_146 (by decide) ?_
          refine v_iadd dX8_advance_147 ?_
          refine v_putI fl_X8_22 (fun z => by cases z) dX8_advance_148 rfl rfl (Nat.le_of_ble_eq_true rfl) rfl rfl (xh_1_0 (SXtp hS _ _ _ _)) ?_
          rw [tp_a, nI_1]
          refine v_return dX8_advance_151 rfl ?_
          exact ⟨rfl, by simp only [tkH, tokS, tnF, twF, if_pos c58, if_pos c80, if_pos c101, if_pos c123]⟩
        · refine v_aload_n dX8_advance_126 rfl ?_
          refine v_aload_n dX8_advance_127 rfl ?_
          refine v_getI fl_X8_22 dX8_advance_128 rfl rfl (Nat.le_of_ble_eq_true rfl) (xh_1_0 (SXtp hS _ _ _ _)) ?_
          rw [tp_3]
          refine v_invVE (m_byteAt g _ (SXtp hS _ _ _ _) (show s < 300 by have := (nI_ltI (by omega) (by omega)).mp c58; omega)) dX8_advance_131 cwX8_byteAt mlX8_25 (ob_1 _) rfl rfl (by decide) (by decide) (Nat.le_of_ble_eq_true rfl) ?_
          rw [tp_13]
          refine v_goto 138 dX8_advance_134 (by decide) ?_
          refine v_putI fl_X8_35 (fun z => by cases z) dX8_advance_138 rfl rfl (Nat.le_of_ble_eq_true rfl) rfl rfl (xh_1_0 (SXtp hS _ _ _ _)) ?_
          rw [tp_k]
          refine v_aload_n dX8_advance_141 rfl ?_
          refine v_dup dX8_advance_142 rfl ?_
          refine v_getI fl_X8_22 dX8_advance_143 rfl rfl (Nat.le_of_ble_eq_true rfl) (xh_1_0 (SXtp hS _ _ _ _)) ?_
          rw [tp_3]
          refine v_iconst (1) dX8_advance_146 (by decide) ?_
          refine v_iadd dX8_advance_147 ?_
          refine v_putI fl_X8_22 (fun z => by cases z) dX8_advance_148 rfl rfl (Nat.le_of_ble_eq_true rfl) rfl rfl (xh_1_0 (SXtp hS _ _ _ _)) ?_
          rw [tp_a, nI_1]
          refine v_return dX8_advance_151 rfl ?_
          exact ⟨rfl, by simp only [tkH, tokS, tnF, twF, if_pos c58, if_pos c80, if_pos c101, if_neg c123]⟩
      · refine v_aload_n dX8_advance_104 rfl ?_
        refine v_invVE (m_takeWord g h hS he he3 hs) dX8_advance_105 cwX8_takeWord mlX8_48 (ob_1 _) rfl rfl (by decide) (by decide) (Nat.le_of_ble_eq_true rfl) ?_
        refine v_goto 151 dX8_advance_108 (by decide) ?_
        refine v_return dX8_advance_151 rfl ?_
        exact ⟨rfl, by simp only [tkH, tokS, tnF, twF, if_pos c58, if_pos c80, if_neg c101]⟩
    · refine v_aload_n dX8_advance_83 rfl ?_
      refine v_invVE (m_takeNumber g h hS he he3 hs) dX8_advance_84 cwX8_takeNumber mlX8_42 (ob_1 _) rfl rfl (by decide) (by decide) (Nat.le_of_ble_eq_true rfl) ?_
      refine v_goto 151 dX8_advance_87 (by decide) ?_
      refine v_return dX8_advance_151 rfl ?_
      exact ⟨rfl, by simp only [tkH, tokS, tnF, twF, if_pos c58, if_neg c80]⟩
  · refine v_aload_n dX8_advance_61 rfl ?_
    refine v_iconst (0) dX8_advance_62 (by decide) ?_
    refine v_putI fl_X8_35 (fun z => by cases z) dX8_advance_63 rfl rfl (Nat.le_of_ble_eq_true rfl) rfl rfl (xh_1_0 (SXtp hS _ _ _ _)) ?_
    rw [tp_k]
    refine v_goto 151 dX8_advance_66 (by decide) ?_
    refine v_return dX8_advance_151 rfl ?_
    exact ⟨rfl, by simp only [tkH, tokS, tnF, twF, if_neg c58]⟩
set_option maxRecDepth 20000 in
theorem adv1 (g : G0) (h : Hp) (hS : SX h) {e : Nat} (he : vi h (1, 0) 2 = nI e) (he3 : e ≤ 300) (p k v : Int32) : ∀ (j q : Nat), q + j = e → V g kfX8_advance 7 0 0 0 (pA 0 [pR (1, 0)]) [] (tp h (nI q) p k v) (qE none (tkH h (tokS (vi h (13, 0)) e (skp (vi h (13, 0)) j q)))) (fun _ _ a h' => noX a h') := by
  intro j
  induction j with
  | zero =>
    intro q hij
    refine v_aload_n dX8_advance_0 rfl ?_
    refine v_getI fl_X8_22 dX8_advance_1 rfl rfl (Nat.le_of_ble_eq_true rfl) (xh_1_0 (SXtp hS _ _ _ _)) ?_
    rw [tp_3]
    refine v_aload_n dX8_advance_4 rfl ?_
    refine v_getI fl_X8_19 dX8_advance_5 rfl rfl (Nat.le_of_ble_eq_true rfl) (xh_1_0 (SXtp hS _ _ _ _)) ?_
    rw [tp_2, he]
    refine v_icmp_ge 37 dX8_advance_8 (by decide) (fun _ => ?_) (fun z => absurd (nI_le (by omega) (by omega)) z)
    exact adv2 g h hS he he3 (by omega) p k v
  | succ j ih =>
    intro q hij
    refine v_aload_n dX8_advance_0 rfl ?_
    refine v_getI fl_X8_22 dX8_advance_1 rfl rfl (Nat.le_of_ble_eq_true rfl) (xh_1_0 (SXtp hS _ _ _ _)) ?_
    rw [tp_3]
    refine v_aload_n dX8_advance_4 rfl ?_
    refine v_getI fl_X8_19 dX8_advance_5 rfl rfl (Nat.le_of_ble_eq_true rfl) (xh_1_0 (SXtp hS _ _ _ _)) ?_
    rw [tp_2, he]
    refine v_icmp_ge 37 dX8_advance_8 (by decide) (fun z => absurd z (nI_ge (by omega) (by omega))) (fun _ => ?_)
    refine v_aload_n dX8_advance_11 rfl ?_
    refine v_aload_n dX8_advance_12 rfl ?_
    refine v_getI fl_X8_22 dX8_advance_13 rfl rfl (Nat.le_of_ble_eq_true rfl) (xh_1_0 (SXtp hS _ _ _ _)) ?_
    rw [tp_3]
    refine v_invVE (m_byteAt g _ (SXtp hS _ _ _ _) (show q < 300 by omega)) dX8_advance_16 cwX8_byteAt mlX8_25 (ob_1 _) rfl rfl (by decide) (by decide) (Nat.le_of_ble_eq_true rfl) ?_
    rw [tp_13]
    refine v_bipush (32) dX8_advance_19 (by decide) ?_
    refine v_icmp_ne 37 dX8_advance_21 (by decide) (fun c21 => ?_) (fun c21 => ?_)
    · rw [skp, if_neg c21]
      exact adv2 g h hS he he3 (by omega) p k v
    · refine v_aload_n dX8_advance_24 rfl ?_
      refine v_dup dX8_advance_25 rfl ?_
      refine v_getI fl_X8_22 dX8_advance_26 rfl rfl (Nat.le_of_ble_eq_true rfl) (xh_1_0 (SXtp hS _ _ _ _)) ?_
      rw [tp_3]
      refine v_iconst (1) dX8_advance_29 (by decide) ?_
      refine v_iadd dX8_advance_30 ?_
      refine v_putI fl_X8_22 (fun z => by cases z) dX8_advance_31 rfl rfl (Nat.le_of_ble_eq_true rfl) rfl rfl (xh_1_0 (SXtp hS _ _ _ _)) ?_
      rw [tp_a, nI_1]
      refine v_goto 0 dX8_advance_34 (by decide) ?_
      rw [skp, if_pos c21]
      exact ih (q + 1) (by omega)
def tok (b : Nat → Int32) (e q : Nat) : Nat × Nat × Int32 × Int32 := tokS b e (skp b (e - q) q)
set_option maxRecDepth 20000 in
theorem m_advance (g : G0) (h : Hp) (hS : SX h) {e q : Nat} (he : vi h (1, 0) 2 = nI e) (he3 : e ≤ 300) (hq : q ≤ e) (hqv : vi h (1, 0) 3 = nI q) : Mx g yX8_advance wX8_advance 7 [pR (1, 0)] h 0 0 (qE none (tkH h (tok (vi h (13, 0)) e q))) noX := by
  refine Mx.by kfX8_advance rfl (by decide) (Nat.le_of_ble_eq_true rfl) ?_
  have K := adv1 g h hS he he3 (vi h (1, 0) 4) (vi h (1, 0) 5) (vi h (1, 0) 6) (e - q) q (by omega)
  rw [← hqv, tp_id] at K
  exact K
