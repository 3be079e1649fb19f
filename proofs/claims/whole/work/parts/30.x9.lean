def lOk (h : Hp) (r e f : Int32) : Prop := ¬ r < 0 ∧ ¬ 9999 < r ∧ ¬ e < 1 ∧ ¬ 400 < e ∧ ¬ f ≤ vi h (0, 0) 13 ∧ f ≤ 40000
def xLandN (h : Hp) (r e f : Int32) : Int32 × Hp := if ¬ r < 0 ∧ ¬ 9999 < r ∧ ¬ e < 1 ∧ ¬ 400 < e ∧ ¬ f ≤ vi h (0, 0) 13 ∧ f ≤ 40000 then (-1, xT h 3) else (-1, xT h 2)
def laN (h : Hp) (r e f : Int32) : Hp := la3 (nw h 12 0) (cn h 12) r e f
theorem SXla {h : Hp} (hS : SX h) {r e f : Int32} : SX (laN h r e f) := SX.nw hS (by decide) (by decide) (by decide)
theorem ALla {h : Hp} {j q n : Nat} (hA : AL h j q n) {r e f : Int32} : AL (laN h r e f) j q n := by
  have n9 : ((12, cn h 12) : Ad).1 ≠ 7 := fun z => by cases z
  exact AL_sIk (AL_sIk (AL_sIk (AL_nw hA (by decide) (by decide)) n9) n9) n9
set_option maxRecDepth 20000 in
theorem m_landN (g : G0) (h : Hp) (i : XI h) {r e f : Int32} (hno : ¬ (lOk h r e f ∧ vi h (7, 4) 2 < 10)) : Mx g yX11_land wX11_land 8 [pR (0, 0), pI r, pI e, pI f] h 0 0 (qE (some (pI (xLandN h r e f).1)) (xLandN h r e f).2) noX := by
  have hS := i.1
  refine Mx.by kfX11_land rfl (by decide) (Nat.le_of_ble_eq_true rfl) ?_
  refine v_iload_n dX11_land_0 rfl ?_
  refine v_if_lt 15 dX11_land_1 (by decide) (fun c1 => ?_) (fun c1 => ?_)
  · refine v_iconst (0) dX11_land_15 (by decide) ?_
    refine v_istore dX11_land_16 (by decide) ?_
    refine v_iload_n dX11_land_18 rfl ?_
    refine v_iconst (1) dX11_land_19 (by decide) ?_
    refine v_icmp_lt 34 dX11_land_20 (by decide) (fun c20 => ?_) (fun c20 => ?_)
    · refine v_iconst (0) dX11_land_34 (by decide) ?_
      refine v_istore dX11_land_35 (by decide) ?_
      refine v_iload dX11_land_37 rfl ?_
      refine v_if_eq 61 dX11_land_39 (by decide) (fun c39 => ?_) (fun c39 => ?_)
      · refine v_aload_n dX11_land_61 rfl ?_
        refine v_iconst (2) dX11_land_62 (by decide) ?_
        refine v_invVE (m_refuse g h hS) dX11_land_63 cwX11_refuse mlX11_74 (ob_0 _) rfl rfl (by decide) (by decide) (Nat.le_of_ble_eq_true rfl) ?_
        refine v_ireturn dX11_land_66 rfl rfl ?_
        first | exact absurd c39 (by decide) | exact absurd rfl c39 | exact absurd c44 (by decide) | exact absurd rfl c44 | (refine ⟨?_, ?_⟩ <;> (rw [xLandN, if_neg (fun z => by first | exact z.1 c1 | exact z.2.1 c8 | exact z.2.2.1 c20 | exact z.2.2.2.1 c27 | exact z.2.2.2.2.1 c52 | exact c58 z.2.2.2.2.2)]))
      · refine v_iload dX11_land_42 rfl ?_
        refine v_if_eq 61 dX11_land_44 (by decide) (fun c44 => ?_) (fun c44 => ?_)
        · refine v_aload_n dX11_land_61 rfl ?_
          refine v_iconst (2) dX11_land_62 (by decide) ?_
          refine v_invVE (m_refuse g h hS) dX11_land_63 cwX11_refuse mlX11_74 (ob_0 _) rfl rfl (by decide) (by decide) (Nat.le_of_ble_eq_true rfl) ?_
          refine v_ireturn dX11_land_66 rfl rfl ?_
          first | exact absurd c39 (by decide) | exact absurd rfl c39 | exact absurd c44 (by decide) | exact absurd rfl c44 | (refine ⟨?_, ?_⟩ <;> (rw [xLandN, if_neg (fun z => by first | exact z.1 c1 | exact z.2.1 c8 | exact z.2.2.1 c20 | exact z.2.2.2.1 c27 | exact z.2.2.2.2.1 c52 | exact c58 z.2.2.2.2.2)]))
        · refine v_iload_n dX11_land_47 rfl ?_
          refine v_aload_n dX11_land_48 rfl ?_
          refine v_getI fl_X11_135 dX11_land_49 rfl rfl (Nat.le_of_ble_eq_true rfl) (xh_0_0 hS) ?_
          refine v_icmp_le 61 dX11_land_52 (by decide) (fun c52 => ?_) (fun c52 => ?_)
          · refine v_aload_n dX11_land_61 rfl ?_
            refine v_iconst (2) dX11_land_62 (by decide) ?_
            refine v_invVE (m_refuse g h hS) dX11_land_63 cwX11_refuse mlX11_74 (ob_0 _) rfl rfl (by decide) (by decide) (Nat.le_of_ble_eq_true rfl) ?_
            refine v_ireturn dX11_land_66 rfl rfl ?_
            first | exact absurd c39 (by decide) | exact absurd rfl c39 | exact absurd c44 (by decide) | exact absurd rfl c44 | (refine ⟨?_, ?_⟩ <;> (rw [xLandN, if_neg (fun z => by first | exact z.1 c1 | exact z.2.1 c8 | exact z.2.2.1 c20 | exact z.2.2.2.1 c27 | exact z.2.2.2.2.1 c52 | exact c58 z.2.2.2.2.2)]))
          · refine v_iload_n dX11_land_55 rfl ?_
            refine v_ldc (40000) dX11_land_56 ctX11_237 ?_
            refine v_icmp_le 67 dX11_land_58 (by decide) (fun c58 => ?_) (fun c58 => ?_)
            · refine v_aload_n dX11_land_67 rfl ?_
              refine v_getR (some (7, 4)) fl_X11_57 dX11_land_68 rfl rfl (Nat.le_of_ble_eq_true rfl) (xh_0_0 hS) (xr_0_0_8 hS) ?_
              refine v_invVE (m_size g h (xh_7_4 hS)) dX11_land_71 cwJx4a65c_size_8abf5 mlX11_138 (ob_7 _) rfl rfl (by decide) (by decide) (Nat.le_of_ble_eq_true rfl) ?_
              refine v_bipush (10) dX11_land_74 (by decide) ?_
              refine v_icmp_lt 85 dX11_land_76 (by decide) (fun c76 => ?_) (fun c76 => ?_)
              · first | exact absurd c39 (by decide) | exact absurd rfl c39 | exact absurd c44 (by decide) | exact absurd rfl c44 | exact absurd ⟨⟨c1, c8, c20, c27, c52, c58⟩, c76⟩ hno
              · refine v_aload_n dX11_land_79 rfl ?_
                refine v_iconst (3) dX11_land_80 (by decide) ?_
                refine v_invVE (m_refuse g h hS) dX11_land_81 cwX11_refuse mlX11_74 (ob_0 _) rfl rfl (by decide) (by decide) (Nat.le_of_ble_eq_true rfl) ?_
                refine v_ireturn dX11_land_84 rfl rfl ?_
                first | exact absurd c39 (by decide) | exact absurd rfl c39 | exact absurd c44 (by decide) | exact absurd rfl c44 | (refine ⟨?_, ?_⟩ <;> (rw [xLandN, if_pos ⟨c1, c8, c20, c27, c52, c58⟩]))
            · refine v_aload_n dX11_land_61 rfl ?_
              refine v_iconst (2) dX11_land_62 (by decide) ?_
              refine v_invVE (m_refuse g h hS) dX11_land_63 cwX11_refuse mlX11_74 (ob_0 _) rfl rfl (by decide) (by decide) (Nat.le_of_ble_eq_true rfl) ?_
              refine v_ireturn dX11_land_66 rfl rfl ?_
              first | exact absurd c39 (by decide) | exact absurd rfl c39 | exact absurd c44 (by decide) | exact absurd rfl c44 | (refine ⟨?_, ?_⟩ <;> (rw [xLandN, if_neg (fun z => by first | exact z.1 c1 | exact z.2.1 c8 | exact z.2.2.1 c20 | exact z.2.2.2.1 c27 | exact z.2.2.2.2.1 c52 | exact c58 z.2.2.2.2.2)]))
    · refine v_iload_n dX11_land_23 rfl ?_
      refine v_sipush (400) dX11_land_24 (by decide) ?_
      refine v_icmp_gt 34 dX11_land_27 (by decide) (fun c27 => ?_) (fun c27 => ?_)
      · refine v_iconst (0) dX11_land_34 (by decide) ?_
        refine v_istore dX11_land_35 (by decide) ?_
        refine v_iload dX11_land_37 rfl ?_
        refine v_if_eq 61 dX11_land_39 (by decide) (fun c39 => ?_) (fun c39 => ?_)
        · refine v_aload_n dX11_land_61 rfl ?_
          refine v_iconst (2) dX11_land_62 (by decide) ?_
          refine v_invVE (m_refuse g h hS) dX11_land_63 cwX11_refuse mlX11_74 (ob_0 _) rfl rfl (by decide) (by decide) (Nat.le_of_ble_eq_true rfl) ?_
          refine v_ireturn dX11_land_66 rfl rfl ?_
          first | exact absurd c39 (by decide) | exact absurd rfl c39 | exact absurd c44 (by decide) | exact absurd rfl c44 | (refine ⟨?_, ?_⟩ <;> (rw [xLandN, if_neg (fun z => by first | exact z.1 c1 | exact z.2.1 c8 | exact z.2.2.1 c20 | exact z.2.2.2.1 c27 | exact z.2.2.2.2.1 c52 | exact c58 z.2.2.2.2.2)]))
        · refine v_iload dX11_land_42 rfl ?_
          refine v_if_eq 61 dX11_land_44 (by decide) (fun c44 => ?_) (fun c44 => ?_)
          · refine v_aload_n dX11_land_61 rfl ?_
            refine v_iconst (2) dX11_land_62 (by decide) ?_
            refine v_invVE (m_refuse g h hS) dX11_land_63 cwX11_refuse mlX11_74 (ob_0 _) rfl rfl (by decide) (by decide) (Nat.le_of_ble_eq_true rfl) ?_
            refine v_ireturn dX11_land_66 rfl rfl ?_
            first | exact absurd c39 (by decide) | exact absurd rfl c39 | exact absurd c44 (by decide) | exact absurd rfl c44 | (refine ⟨?_, ?_⟩ <;> (rw [xLandN, if_neg (fun z => by first | exact z.1 c1 | exact z.2.1 c8 | exact z.2.2.1 c20 | exact z.2.2.2.1 c27 | exact z.2.2.2.2.1 c52 | exact c58 z.2.2.2.2.2)]))
          · refine v_iload_n dX11_land_47 rfl ?_
            refine v_aload_n dX11_land_48 rfl ?_
            refine v_getI fl_X11_135 dX11_land_49 rfl rfl (Nat.le_of_ble_eq_true rfl) (xh_0_0 hS) ?_
            refine v_icmp_le 61 dX11_land_52 (by decide) (fun c52 => ?_) (fun c52 => ?_)
            · refine v_aload_n dX11_land_61 rfl ?_
              refine v_iconst (2) dX11_land_62 (by decide) ?_
              refine v_invVE (m_refuse g h hS) dX11_land_63 cwX11_refuse mlX11_74 (ob_0 _) rfl rfl (by decide) (by decide) (Nat.le_of_ble_eq_true rfl) ?_
              refine v_ireturn dX11_land_66 rfl rfl ?_
              first | exact absurd c39 (by decide) | exact absurd rfl c39 | exact absurd c44 (by decide) | exact absurd rfl c44 | (refine ⟨?_, ?_⟩ <;> (rw [xLandN, if_neg (fun z => by first | exact z.1 c1 | exact z.2.1 c8 | exact z.2.2.1 c20 | exact z.2.2.2.1 c27 | exact z.2.2.2.2.1 c52 | exact c58 z.2.2.2.2.2)]))
            · refine v_iload_n dX11_land_55 rfl ?_
              refine v_ldc (40000) dX11_land_56 ctX11_237 ?_
              refine v_icmp_le 67 dX11_land_58 (by decide) (fun c58 => ?_) (fun c58 => ?_)
              · refine v_aload_n dX11_land_67 rfl ?_
                refine v_getR (some (7, 4)) fl_X11_57 dX11_land_68 rfl rfl (Nat.le_of_ble_eq_true rfl) (xh_0_0 hS) (xr_0_0_8 hS) ?_
                refine v_invVE (m_size g h (xh_7_4 hS)) dX11_land_71 cwJx4a65c_size_8abf5 mlX11_138 (ob_7 _) rfl rfl (by decide) (by decide) (Nat.le_of_ble_eq_true rfl) ?_
                refine v_bipush (10) dX11_land_74 (by decide) ?_
                refine v_icmp_lt 85 dX11_land_76 (by decide) (fun c76 => ?_) (fun c76 => ?_)
                · first | exact absurd c39 (by decide) | exact absurd rfl c39 | exact absurd c44 (by decide) | exact absurd rfl c44 | exact absurd ⟨⟨c1, c8, c20, c27, c52, c58⟩, c76⟩ hno
                · refine v_aload_n dX11_land_79 rfl ?_
                  refine v_iconst (3) dX11_land_80 (by decide) ?_
                  refine v_invVE (m_refuse g h hS) dX11_land_81 cwX11_refuse mlX11_74 (ob_0 _) rfl rfl (by decide) (by decide) (Nat.le_of_ble_eq_true rfl) ?_
                  refine v_ireturn dX11_land_84 rfl rfl ?_
                  first | exact absurd c39 (by decide) | exact absurd rfl c39 | exact absurd c44 (by decide) | exact absurd rfl c44 | (refine ⟨?_, ?_⟩ <;> (rw [xLandN, if_pos ⟨c1, c8, c20, c27, c52, c58⟩]))
              · refine v_aload_n dX11_land_61 rfl ?_
                refine v_iconst (2) dX11_land_62 (by decide) ?_
                refine v_invVE (m_refuse g h hS) dX11_land_63 cwX11_refuse mlX11_74 (ob_0 _) rfl rfl (by decide) (by decide) (Nat.le_of_ble_eq_true rfl) ?_
                refine v_ireturn dX11_land_66 rfl rfl ?_
                first | exact absurd c39 (by decide) | exact absurd rfl c39 | exact absurd c44 (by decide) | exact absurd rfl c44 | (refine ⟨?_, ?_⟩ <;> (rw [xLandN, if_neg (fun z => by first | exact z.1 c1 | exact z.2.1 c8 | exact z.2.2.1 c20 | exact z.2.2.2.1 c27 | exact z.2.2.2.2.1 c52 | exact c58 z.2.2.2.2.2)]))
      · refine v_iconst (1) dX11_land_30 (by decide) ?_
        refine v_goto 35 dX11_land_31 (by decide) ?_
        refine v_istore dX11_land_35 (by decide) ?_
        refine v_iload dX11_land_37 rfl ?_
        refine v_if_eq 61 dX11_land_39 (by decide) (fun c39 => ?_) (fun c39 => ?_)
        · refine v_aload_n dX11_land_61 rfl ?_
          refine v_iconst (2) dX11_land_62 (by decide) ?_
          refine v_invVE (m_refuse g h hS) dX11_land_63 cwX11_refuse mlX11_74 (ob_0 _) rfl rfl (by decide) (by decide) (Nat.le_of_ble_eq_true rfl) ?_
          refine v_ireturn dX11_land_66 rfl rfl ?_
          first | exact absurd c39 (by decide) | exact absurd rfl c39 | exact absurd c44 (by decide) | exact absurd rfl c44 | (refine ⟨?_, ?_⟩ <;> (rw [xLandN, if_neg (fun z => by first | exact z.1 c1 | exact z.2.1 c8 | exact z.2.2.1 c20 | exact z.2.2.2.1 c27 | exact z.2.2.2.2.1 c52 | exact c58 z.2.2.2.2.2)]))
        · refine v_iload dX11_land_42 rfl ?_
          refine v_if_eq 61 dX11_land_44 (by decide) (fun c44 => ?_) (fun c44 => ?_)
          · refine v_aload_n dX11_land_61 rfl ?_
            refine v_iconst (2) dX11_land_62 (by decide) ?_
            refine v_invVE (m_refuse g h hS) dX11_land_63 cwX11_refuse mlX11_74 (ob_0 _) rfl rfl (by decide) (by decide) (Nat.le_of_ble_eq_true rfl) ?_
            refine v_ireturn dX11_land_66 rfl rfl ?_
            first | exact absurd c39 (by decide) | exact absurd rfl c39 | exact absurd c44 (by decide) | exact absurd rfl c44 | (refine ⟨?_, ?_⟩ <;> (rw [xLandN, if_neg (fun z => by first | exact z.1 c1 | exact z.2.1 c8 | exact z.2.2.1 c20 | exact z.2.2.2.1 c27 | exact z.2.2.2.2.1 c52 | exact c58 z.2.2.2.2.2)]))
          · refine v_iload_n dX11_land_47 rfl ?_
            refine v_aload_n dX11_land_48 rfl ?_
            refine v_getI fl_X11_135 dX11_land_49 rfl rfl (Nat.le_of_ble_eq_true rfl) (xh_0_0 hS) ?_
            refine v_icmp_le 61 dX11_land_52 (by decide) (fun c52 => ?_) (fun c52 => ?_)
            · refine v_aload_n dX11_land_61 rfl ?_
              refine v_iconst (2) dX11_land_62 (by decide) ?_
              refine v_invVE (m_refuse g h hS) dX11_land_63 cwX11_refuse mlX11_74 (ob_0 _) rfl rfl (by decide) (by decide) (Nat.le_of_ble_eq_true rfl) ?_
              refine v_ireturn dX11_land_66 rfl rfl ?_
              first | exact absurd c39 (by decide) | exact absurd rfl c39 | exact absurd c44 (by decide) | exact absurd rfl c44 | (refine ⟨?_, ?_⟩ <;> (rw [xLandN, if_neg (fun z => by first | exact z.1 c1 | exact z.2.1 c8 | exact z.2.2.1 c20 | exact z.2.2.2.1 c27 | exact z.2.2.2.2.1 c52 | exact c58 z.2.2.2.2.2)]))
            · refine v_iload_n dX11_land_55 rfl ?_
              refine v_ldc (40000) dX11_land_56 ctX11_237 ?_
              refine v_icmp_le 67 dX11_land_58 (by decide) (fun c58 => ?_) (fun c58 => ?_)
              · refine v_aload_n dX11_land_67 rfl ?_
                refine v_getR (some (7, 4)) fl_X11_57 dX11_land_68 rfl rfl (Nat.le_of_ble_eq_true rfl) (xh_0_0 hS) (xr_0_0_8 hS) ?_
                refine v_invVE (m_size g h (xh_7_4 hS)) dX11_land_71 cwJx4a65c_size_8abf5 mlX11_138 (ob_7 _) rfl rfl (by decide) (by decide) (Nat.le_of_ble_eq_true rfl) ?_
                refine v_bipush (10) dX11_land_74 (by decide) ?_
                refine v_icmp_lt 85 dX11_land_76 (by decide) (fun c76 => ?_) (fun c76 => ?_)
                · first | exact absurd c39 (by decide) | exact absurd rfl c39 | exact absurd c44 (by decide) | exact absurd rfl c44 | exact absurd ⟨⟨c1, c8, c20, c27, c52, c58⟩, c76⟩ hno
                · refine v_aload_n dX11_land_79 rfl ?_
                  refine v_iconst (3) dX11_land_80 (by decide) ?_
                  refine v_invVE (m_refuse g h hS) dX11_land_81 cwX11_refuse mlX11_74 (ob_0 _) rfl rfl (by decide) (by decide) (Nat.le_of_ble_eq_true rfl) ?_
                  refine v_ireturn dX11_land_84 rfl rfl ?_
                  first | exact absurd c39 (by decide) | exact absurd rfl c39 | exact absurd c44 (by decide) | exact absurd rfl c44 | (refine ⟨?_, ?_⟩ <;> (rw [xLandN, if_pos ⟨c1, c8, c20, c27, c52, c58⟩]))
              · refine v_aload_n dX11_land_61 rfl ?_
                refine v_iconst (2) dX11_land_62 (by decide) ?_
                refine v_invVE (m_refuse g h hS) dX11_land_63 cwX11_refuse mlX11_74 (ob_0 _) rfl rfl (by decide) (by decide) (Nat.le_of_ble_eq_true rfl) ?_
                refine v_ireturn dX11_land_66 rfl rfl ?_
                first | exact absurd c39 (by decide) | exact absurd rfl c39 | exact absurd c44 (by decide) | exact absurd rfl c44 | (refine ⟨?_, ?_⟩ <;> (rw [xLandN, if_neg (fun z => by first | exact z.1 c1 | exact z.2.1 c8 | exact z.2.2.1 c20 | exact z.2.2.2.1 c27 | exact z.2.2.2.2.1 c52 | exact c58 z.2.2.2.2.2)]))
  · refine v_iload_n dX11_land_4 rfl ?_
    refine v_sipush (9999) dX11_land_5 (by decide) ?_
    refine v_icmp_gt 15 dX11_land_8 (by decide) (fun c8 => ?_) (fun c8 => ?_)
    · refine v_iconst (0) dX11_land_15 (by decide) ?_
      refine v_istore dX11_land_16 (by decide) ?_
      refine v_iload_n dX11_land_18 rfl ?_
      refine v_iconst (1) dX11_land_19 (by decide) ?_
      refine v_icmp_lt 34 dX11_land_20 (by decide) (fun c20 => ?_) (fun c20 => ?_)
      · refine v_iconst (0) dX11_land_34 (by decide) ?_
        refine v_istore dX11_land_35 (by decide) ?_
        refine v_iload dX11_land_37 rfl ?_
        refine v_if_eq 61 dX11_land_39 (by decide) (fun c39 => ?_) (fun c39 => ?_)
        · refine v_aload_n dX11_land_61 rfl ?_
          refine v_iconst (2) dX11_land_62 (by decide) ?_
          refine v_invVE (m_refuse g h hS) dX11_land_63 cwX11_refuse mlX11_74 (ob_0 _) rfl rfl (by decide) (by decide) (Nat.le_of_ble_eq_true rfl) ?_
          refine v_ireturn dX11_land_66 rfl rfl ?_
          first | exact absurd c39 (by decide) | exact absurd rfl c39 | exact absurd c44 (by decide) | exact absurd rfl c44 | (refine ⟨?_, ?_⟩ <;> (rw [xLandN, if_neg (fun z => by first | exact z.1 c1 | exact z.2.1 c8 | exact z.2.2.1 c20 | exact z.2.2.2.1 c27 | exact z.2.2.2.2.1 c52 | exact c58 z.2.2.2.2.2)]))
        · refine v_iload dX11_land_42 rfl ?_
          refine v_if_eq 61 dX11_land_44 (by decide) (fun c44 => ?_) (fun c44 => ?_)
          · refine v_aload_n dX11_land_61 rfl ?_
            refine v_iconst (2) dX11_land_62 (by decide) ?_
            refine v_invVE (m_refuse g h hS) dX11_land_63 cwX11_refuse mlX11_74 (ob_0 _) rfl rfl (by decide) (by decide) (Nat.le_of_ble_eq_true rfl) ?_
            refine v_ireturn dX11_land_66 rfl rfl ?_
            first | exact absurd c39 (by decide) | exact absurd rfl c39 | exact absurd c44 (by decide) | exact absurd rfl c44 | (refine ⟨?_, ?_⟩ <;> (rw [xLandN, if_neg (fun z => by first | exact z.1 c1 | exact z.2.1 c8 | exact z.2.2.1 c20 | exact z.2.2.2.1 c27 | exact z.2.2.2.2.1 c52 | exact c58 z.2.2.2.2.2)]))
          · refine v_iload_n dX11_land_47 rfl ?_
            refine v_aload_n dX11_land_48 rfl ?_
            refine v_getI fl_X11_135 dX11_land_49 rfl rfl (Nat.le_of_ble_eq_true rfl) (xh_0_0 hS) ?_
            refine v_icmp_le 61 dX11_land_52 (by decide) (fun c52 => ?_) (fun c52 => ?_)
            · refine v_aload_n dX11_land_61 rfl ?_
              refine v_iconst (2) dX11_land_62 (by decide) ?_
              refine v_invVE (m_refuse g h hS) dX11_land_63 cwX11_refuse mlX11_74 (ob_0 _) rfl rfl (by decide) (by decide) (Nat.le_of_ble_eq_true rfl) ?_
              refine v_ireturn dX11_land_66 rfl rfl ?_
              first | exact absurd c39 (by decide) | exact absurd rfl c39 | exact absurd c44 (by decide) | exact absurd rfl c44 | (refine ⟨?_, ?_⟩ <;> (rw [xLandN, if_neg (fun z => by first | exact z.1 c1 | exact z.2.1 c8 | exact z.2.2.1 c20 | exact z.2.2.2.1 c27 | exact z.2.2.2.2.1 c52 | exact c58 z.2.2.2.2.2)]))
            · refine v_iload_n dX11_land_55 rfl ?_
              refine v_ldc (40000) dX11_land_56 ctX11_237 ?_
              refine v_icmp_le 67 dX11_land_58 (by decide) (fun c58 => ?_) (fun c58 => ?_)
              · refine v_aload_n dX11_land_67 rfl ?_
                refine v_getR (some (7, 4)) fl_X11_57 dX11_land_68 rfl rfl (Nat.le_of_ble_eq_true rfl) (xh_0_0 hS) (xr_0_0_8 hS) ?_
                refine v_invVE (m_size g h (xh_7_4 hS)) dX11_land_71 cwJx4a65c_size_8abf5 mlX11_138 (ob_7 _) rfl rfl (by decide) (by decide) (Nat.le_of_ble_eq_true rfl) ?_
                refine v_bipush (10) dX11_land_74 (by decide) ?_
                refine v_icmp_lt 85 dX11_land_76 (by decide) (fun c76 => ?_) (fun c76 => ?_)
                · first | exact absurd c39 (by decide) | exact absurd rfl c39 | exact absurd c44 (by decide) | exact absurd rfl c44 | exact absurd ⟨⟨c1, c8, c20, c27, c52, c58⟩, c76⟩ hno
                · refine v_aload_n dX11_land_79 rfl ?_
                  refine v_iconst (3) dX11_land_80 (by decide) ?_
                  refine v_invVE (m_refuse g h hS) dX11_land_81 cwX11_refuse mlX11_74 (ob_0 _) rfl rfl (by decide) (by decide) (Nat.le_of_ble_eq_true rfl) ?_
                  refine v_ireturn dX11_land_84 rfl rfl ?_
                  first | exact absurd c39 (by decide) | exact absurd rfl c39 | exact absurd c44 (by decide) | exact absurd rfl c44 | (refine ⟨?_, ?_⟩ <;> (rw [xLandN, if_pos ⟨c1, c8, c20, c27, c52, c58⟩]))
              · refine v_aload_n dX11_land_61 rfl ?_
                refine v_iconst (2) dX11_land_62 (by decide) ?_
                refine v_invVE (m_refuse g h hS) dX11_land_63 cwX11_refuse mlX11_74 (ob_0 _) rfl rfl (by decide) (by decide) (Nat.le_of_ble_eq_true rfl) ?_
                refine v_ireturn dX11_land_66 rfl rfl ?_
                first | exact absurd c39 (by decide) | exact absurd rfl c39 | exact absurd c44 (by decide) | exact absurd rfl c44 | (refine ⟨?_, ?_⟩ <;> (rw [xLandN, if_neg (fun z => by first | exact z.1 c1 | exact z.2.1 c8 | exact z.2.2.1 c20 | exact z.2.2.2.1 c27 | exact z.2.2.2.2.1 c52 | exact c58 z.2.2.2.2.2)]))
      · refine v_iload_n dX11_land_23 rfl ?_
        refine v_sipush (400) dX11_land_24 (by decide) ?_
        refine v_icmp_gt 34 dX11_land_27 (by decide) (fun c27 => ?_) (fun c27 => ?_)
        · refine v_iconst (0) dX11_land_34 (by decide) ?_
          refine v_istore dX11_land_35 (by decide) ?_
          refine v_iload dX11_land_37 rfl ?_
          refine v_if_eq 61 dX11_land_39 (by decide) (fun c39 => ?_) (fun c39 => ?_)
          · refine v_aload_n dX11_land_61 rfl ?_
            refine v_iconst (2) dX11_land_62 (by decide) ?_
            refine v_invVE (m_refuse g h hS) dX11_land_63 cwX11_refuse mlX11_74 (ob_0 _) rfl rfl (by decide) (by decide) (Nat.le_of_ble_eq_true rfl) ?_
            refine v_ireturn dX11_land_66 rfl rfl ?_
            first | exact absurd c39 (by decide) | exact absurd rfl c39 | exact absurd c44 (by decide) | exact absurd rfl c44 | (refine ⟨?_, ?_⟩ <;> (rw [xLandN, if_neg (fun z => by first | exact z.1 c1 | exact z.2.1 c8 | exact z.2.2.1 c20 | exact z.2.2.2.1 c27 | exact z.2.2.2.2.1 c52 | exact c58 z.2.2.2.2.2)]))
          · refine v_iload dX11_land_42 rfl ?_
            refine v_if_eq 61 dX11_land_44 (by decide) (fun c44 => ?_) (fun c44 => ?_)
            · refine v_aload_n dX11_land_61 rfl ?_
              refine v_iconst (2) dX11_land_62 (by decide) ?_
              refine v_invVE (m_refuse g h hS) dX11_land_63 cwX11_refuse mlX11_74 (ob_0 _) rfl rfl (by decide) (by decide) (Nat.le_of_ble_eq_true rfl) ?_
              refine v_ireturn dX11_land_66 rfl rfl ?_
              first | exact absurd c39 (by decide) | exact absurd rfl c39 | exact absurd c44 (by decide) | exact absurd rfl c44 | (refine ⟨?_, ?_⟩ <;> (rw [xLandN, if_neg (fun z => by first | exact z.1 c1 | exact z.2.1 c8 | exact z.2.2.1 c20 | exact z.2.2.2.1 c27 | exact z.2.2.2.2.1 c52 | exact c58 z.2.2.2.2.2)]))
            · refine v_iload_n dX11_land_47 rfl ?_
              refine v_aload_n dX11_land_48 rfl ?_
              refine v_getI fl_X11_135 dX11_land_49 rfl rfl (Nat.le_of_ble_eq_true rfl) (xh_0_0 hS) ?_
              refine v_icmp_le 61 dX11_land_52 (by decide) (fun c52 => ?_) (fun c52 => ?_)
              · refine v_aload_n dX11_land_61 rfl ?_
                refine v_iconst (2) dX11_land_62 (by decide) ?_
                refine v_invVE (m_refuse g h hS) dX11_land_63 cwX11_refuse mlX11_74 (ob_0 _) rfl rfl (by decide) (by decide) (Nat.le_of_ble_eq_true rfl) ?_
                refine v_ireturn dX11_land_66 rfl rfl ?_
                first | exact absurd c39 (by decide) | exact absurd rfl c39 | exact absurd c44 (by decide) | exact absurd rfl c44 | (refine ⟨?_, ?_⟩ <;> (rw [xLandN, if_neg (fun z => by first | exact z.1 c1 | exact z.2.1 c8 | exact z.2.2.1 c20 | exact z.2.2.2.1 c27 | exact z.2.2.2.2.1 c52 | exact c58 z.2.2.2.2.2)]))
              · refine v_iload_n dX11_land_55 rfl ?_
                refine v_ldc (40000) dX11_land_56 ctX11_237 ?_
                refine v_icmp_le 67 dX11_land_58 (by decide) (fun c58 => ?_) (fun c58 => ?_)
                · refine v_aload_n dX11_land_67 rfl ?_
                  refine v_getR (some (7, 4)) fl_X11_57 dX11_land_68 rfl rfl (Nat.le_of_ble_eq_true rfl) (xh_0_0 hS) (xr_0_0_8 hS) ?_
                  refine v_invVE (m_size g h (xh_7_4 hS)) dX11_land_71 cwJx4a65c_size_8abf5 mlX11_138 (ob_7 _) rfl rfl (by decide) (by decide) (Nat.le_of_ble_eq_true rfl) ?_
                  refine v_bipush (10) dX11_land_74 (by decide) ?_
                  refine v_icmp_lt 85 dX11_land_76 (by decide) (fun c76 => ?_) (fun c76 => ?_)
                  · first | exact absurd c39 (by decide) | exact absurd rfl c39 | exact absurd c44 (by decide) | exact absurd rfl c44 | exact absurd ⟨⟨c1, c8, c20, c27, c52, c58⟩, c76⟩ hno
                  · refine v_aload_n dX11_land_79 rfl ?_
                    refine v_iconst (3) dX11_land_80 (by decide) ?_
                    refine v_invVE (m_refuse g h hS) dX11_land_81 cwX11_refuse mlX11_74 (ob_0 _) rfl rfl (by decide) (by decide) (Nat.le_of_ble_eq_true rfl) ?_
                    refine v_ireturn dX11_land_84 rfl rfl ?_
                    first | exact absurd c39 (by decide) | exact absurd rfl c39 | exact absurd c44 (by decide) | exact absurd rfl c44 | (refine ⟨?_, ?_⟩ <;> (rw [xLandN, if_pos ⟨c1, c8, c20, c27, c52, c58⟩]))
                · refine v_aload_n dX11_land_61 rfl ?_
                  refine v_iconst (2) dX11_land_62 (by decide) ?_
                  refine v_invVE (m_refuse g h hS) dX11_land_63 cwX11_refuse mlX11_74 (ob_0 _) rfl rfl (by decide) (by decide) (Nat.le_of_ble_eq_true rfl) ?_
                  refine v_ireturn dX11_land_66 rfl rfl ?_
                  first | exact absurd c39 (by decide) | exact absurd rfl c39 | exact absurd c44 (by decide) | exact absurd rfl c44 | (refine ⟨?_, ?_⟩ <;> (rw [xLandN, if_neg (fun z => by first | exact z.1 c1 | exact z.2.1 c8 | exact z.2.2.1 c20 | exact z.2.2.2.1 c27 | exact z.2.2.2.2.1 c52 | exact c58 z.2.2.2.2.2)]))
        · refine v_iconst (1) dX11_land_30 (by decide) ?_
          refine v_goto 35 dX11_land_31 (by decide) ?_
          refine v_istore dX11_land_35 (by decide) ?_
          refine v_iload dX11_land_37 rfl ?_
          refine v_if_eq 61 dX11_land_39 (by decide) (fun c39 => ?_) (fun c39 => ?_)
          · refine v_aload_n dX11_land_61 rfl ?_
            refine v_iconst (2) dX11_land_62 (by decide) ?_
            refine v_invVE (m_refuse g h hS) dX11_land_63 cwX11_refuse mlX11_74 (ob_0 _) rfl rfl (by decide) (by decide) (Nat.le_of_ble_eq_true rfl) ?_
            refine v_ireturn dX11_land_66 rfl rfl ?_
            first | exact absurd c39 (by decide) | exact absurd rfl c39 | exact absurd c44 (by decide) | exact absurd rfl c44 | (refine ⟨?_, ?_⟩ <;> (rw [xLandN, if_neg (fun z => by first | exact z.1 c1 | exact z.2.1 c8 | exact z.2.2.1 c20 | exact z.2.2.2.1 c27 | exact z.2.2.2.2.1 c52 | exact c58 z.2.2.2.2.2)]))
          · refine v_iload dX11_land_42 rfl ?_
            refine v_if_eq 61 dX11_land_44 (by decide) (fun c44 => ?_) (fun c44 => ?_)
            · refine v_aload_n dX11_land_61 rfl ?_
              refine v_iconst (2) dX11_land_62 (by decide) ?_
              refine v_invVE (m_refuse g h hS) dX11_land_63 cwX11_refuse mlX11_74 (ob_0 _) rfl rfl (by decide) (by decide) (Nat.le_of_ble_eq_true rfl) ?_
              refine v_ireturn dX11_land_66 rfl rfl ?_
              first | exact absurd c39 (by decide) | exact absurd rfl c39 | exact absurd c44 (by decide) | exact absurd rfl c44 | (refine ⟨?_, ?_⟩ <;> (rw [xLandN, if_neg (fun z => by first | exact z.1 c1 | exact z.2.1 c8 | exact z.2.2.1 c20 | exact z.2.2.2.1 c27 | exact z.2.2.2.2.1 c52 | exact c58 z.2.2.2.2.2)]))
            · refine v_iload_n dX11_land_47 rfl ?_
              refine v_aload_n dX11_land_48 rfl ?_
              refine v_getI fl_X11_135 dX11_land_49 rfl rfl (Nat.le_of_ble_eq_true rfl) (xh_0_0 hS) ?_
              refine v_icmp_le 61 dX11_land_52 (by decide) (fun c52 => ?_) (fun c52 => ?_)
              · refine v_aload_n dX11_land_61 rfl ?_
                refine v_iconst (2) dX11_land_62 (by decide) ?_
                refine v_invVE (m_refuse g h hS) dX11_land_63 cwX11_refuse mlX11_74 (ob_0 _) rfl rfl (by decide) (by decide) (Nat.le_of_ble_eq_true rfl) ?_
                refine v_ireturn dX11_land_66 rfl rfl ?_
                first | exact absurd c39 (by decide) | exact absurd rfl c39 | exact absurd c44 (by decide) | exact absurd rfl c44 | (refine ⟨?_, ?_⟩ <;> (rw [xLandN, if_neg (fun z => by first | exact z.1 c1 | exact z.2.1 c8 | exact z.2.2.1 c20 | exact z.2.2.2.1 c27 | exact z.2.2.2.2.1 c52 | exact c58 z.2.2.2.2.2)]))
              · refine v_iload_n dX11_land_55 rfl ?_
                refine v_ldc (40000) dX11_land_56 ctX11_237 ?_
                refine v_icmp_le 67 dX11_land_58 (by decide) (fun c58 => ?_) (fun c58 => ?_)
                · refine v_aload_n dX11_land_67 rfl ?_
                  refine v_getR (some (7, 4)) fl_X11_57 dX11_land_68 rfl rfl (Nat.le_of_ble_eq_true rfl) (xh_0_0 hS) (xr_0_0_8 hS) ?_
                  refine v_invVE (m_size g h (xh_7_4 hS)) dX11_land_71 cwJx4a65c_size_8abf5 mlX11_138 (ob_7 _) rfl rfl (by decide) (by decide) (Nat.le_of_ble_eq_true rfl) ?_
                  refine v_bipush (10) dX11_land_74 (by decide) ?_
                  refine v_icmp_lt 85 dX11_land_76 (by decide) (fun c76 => ?_) (fun c76 => ?_)
                  · first | exact absurd c39 (by decide) | exact absurd rfl c39 | exact absurd c44 (by decide) | exact absurd rfl c44 | exact absurd ⟨⟨c1, c8, c20, c27, c52, c58⟩, c76⟩ hno
                  · refine v_aload_n dX11_land_79 rfl ?_
                    refine v_iconst (3) dX11_land_80 (by decide) ?_
                    refine v_invVE (m_refuse g h hS) dX11_land_81 cwX11_refuse mlX11_74 (ob_0 _) rfl rfl (by decide) (by decide) (Nat.le_of_ble_eq_true rfl) ?_
                    refine v_ireturn dX11_land_84 rfl rfl ?_
                    first | exact absurd c39 (by decide) | exact absurd rfl c39 | exact absurd c44 (by decide) | exact absurd rfl c44 | (refine ⟨?_, ?_⟩ <;> (rw [xLandN, if_pos ⟨c1, c8, c20, c27, c52, c58⟩]))
                · refine v_aload_n dX11_land_61 rfl ?_
                  refine v_iconst (2) dX11_land_62 (by decide) ?_
                  refine v_invVE (m_refuse g h hS) dX11_land_63 cwX11_refuse mlX11_74 (ob_0 _) rfl rfl (by decide) (by decide) (Nat.le_of_ble_eq_true rfl) ?_
                  refine v_ireturn dX11_land_66 rfl rfl ?_
                  first | exact absurd c39 (by decide) | exact absurd rfl c39 | exact absurd c44 (by decide) | exact absurd rfl c44 | (refine ⟨?_, ?_⟩ <;> (rw [xLandN, if_neg (fun z => by first | exact z.1 c1 | exact z.2.1 c8 | exact z.2.2.1 c20 | exact z.2.2.2.1 c27 | exact z.2.2.2.2.1 c52 | exact c58 z.2.2.2.2.2)]))
    · refine v_iconst (1) dX11_land_11 (by decide) ?_
      refine v_goto 16 dX11_land_12 (by decide) ?_
      refine v_istore dX11_land_16 (by decide) ?_
      refine v_iload_n dX11_land_18 rfl ?_
      refine v_iconst (1) dX11_land_19 (by decide) ?_
      refine v_icmp_lt 34 dX11_land_20 (by decide) (fun c20 => ?_) (fun c20 => ?_)
      · refine v_iconst (0) dX11_land_34 (by decide) ?_
        refine v_istore dX11_land_35 (by decide) ?_
        refine v_iload dX11_land_37 rfl ?_
        refine v_if_eq 61 dX11_land_39 (by decide) (fun c39 => ?_) (fun c39 => ?_)
        · refine v_aload_n dX11_land_61 rfl ?_
          refine v_iconst (2) dX11_land_62 (by decide) ?_
          refine v_invVE (m_refuse g h hS) dX11_land_63 cwX11_refuse mlX11_74 (ob_0 _) rfl rfl (by decide) (by decide) (Nat.le_of_ble_eq_true rfl) ?_
          refine v_ireturn dX11_land_66 rfl rfl ?_
          first | exact absurd c39 (by decide) | exact absurd rfl c39 | exact absurd c44 (by decide) | exact absurd rfl c44 | (refine ⟨?_, ?_⟩ <;> (rw [xLandN, if_neg (fun z => by first | exact z.1 c1 | exact z.2.1 c8 | exact z.2.2.1 c20 | exact z.2.2.2.1 c27 | exact z.2.2.2.2.1 c52 | exact c58 z.2.2.2.2.2)]))
        · refine v_iload dX11_land_42 rfl ?_
          refine v_if_eq 61 dX11_land_44 (by decide) (fun c44 => ?_) (fun c44 => ?_)
          · refine v_aload_n dX11_land_61 rfl ?_
            refine v_iconst (2) dX11_land_62 (by decide) ?_
            refine v_invVE (m_refuse g h hS) dX11_land_63 cwX11_refuse mlX11_74 (ob_0 _) rfl rfl (by decide) (by decide) (Nat.le_of_ble_eq_true rfl) ?_
            refine v_ireturn dX11_land_66 rfl rfl ?_
            first | exact absurd c39 (by decide) | exact absurd rfl c39 | exact absurd c44 (by decide) | exact absurd rfl c44 | (refine ⟨?_, ?_⟩ <;> (rw [xLandN, if_neg (fun z => by first | exact z.1 c1 | exact z.2.1 c8 | exact z.2.2.1 c20 | exact z.2.2.2.1 c27 | exact z.2.2.2.2.1 c52 | exact c58 z.2.2.2.2.2)]))
          · refine v_iload_n dX11_land_47 rfl ?_
            refine v_aload_n dX11_land_48 rfl ?_
            refine v_getI fl_X11_135 dX11_land_49 rfl rfl (Nat.le_of_ble_eq_true rfl) (xh_0_0 hS) ?_
            refine v_icmp_le 61 dX11_land_52 (by decide) (fun c52 => ?_) (fun c52 => ?_)
            · refine v_aload_n dX11_land_61 rfl ?_
              refine v_iconst (2) dX11_land_62 (by decide) ?_
              refine v_invVE (m_refuse g h hS) dX11_land_63 cwX11_refuse mlX11_74 (ob_0 _) rfl rfl (by decide) (by decide) (Nat.le_of_ble_eq_true rfl) ?_
              refine v_ireturn dX11_land_66 rfl rfl ?_
              first | exact absurd c39 (by decide) | exact absurd rfl c39 | exact absurd c44 (by decide) | exact absurd rfl c44 | (refine ⟨?_, ?_⟩ <;> (rw [xLandN, if_neg (fun z => by first | exact z.1 c1 | exact z.2.1 c8 | exact z.2.2.1 c20 | exact z.2.2.2.1 c27 | exact z.2.2.2.2.1 c52 | exact c58 z.2.2.2.2.2)]))
            · refine v_iload_n dX11_land_55 rfl ?_
              refine v_ldc (40000) dX11_land_56 ctX11_237 ?_
              refine v_icmp_le 67 dX11_land_58 (by decide) (fun c58 => ?_) (fun c58 => ?_)
              · refine v_aload_n dX11_land_67 rfl ?_
                refine v_getR (some (7, 4)) fl_X11_57 dX11_land_68 rfl rfl (Nat.le_of_ble_eq_true rfl) (xh_0_0 hS) (xr_0_0_8 hS) ?_
                refine v_invVE (m_size g h (xh_7_4 hS)) dX11_land_71 cwJx4a65c_size_8abf5 mlX11_138 (ob_7 _) rfl rfl (by decide) (by decide) (Nat.le_of_ble_eq_true rfl) ?_
                refine v_bipush (10) dX11_land_74 (by decide) ?_
                refine v_icmp_lt 85 dX11_land_76 (by decide) (fun c76 => ?_) (fun c76 => ?_)
                · first | exact absurd c39 (by decide) | exact absurd rfl c39 | exact absurd c44 (by decide) | exact absurd rfl c44 | exact absurd ⟨⟨c1, c8, c20, c27, c52, c58⟩, c76⟩ hno
                · refine v_aload_n dX11_land_79 rfl ?_
                  refine v_iconst (3) dX11_land_80 (by decide) ?_
                  refine v_invVE (m_refuse g h hS) dX11_land_81 cwX11_refuse mlX11_74 (ob_0 _) rfl rfl (by decide) (by decide) (Nat.le_of_ble_eq_true rfl) ?_
                  refine v_ireturn dX11_land_84 rfl rfl ?_
                  first | exact absurd c39 (by decide) | exact absurd rfl c39 | exact absurd c44 (by decide) | exact absurd rfl c44 | (refine ⟨?_, ?_⟩ <;> (rw [xLandN, if_pos ⟨c1, c8, c20, c27, c52, c58⟩]))
              · refine v_aload_n dX11_land_61 rfl ?_
                refine v_iconst (2) dX11_land_62 (by decide) ?_
                refine v_invVE (m_refuse g h hS) dX11_land_63 cwX11_refuse mlX11_74 (ob_0 _) rfl rfl (by decide) (by decide) (Nat.le_of_ble_eq_true rfl) ?_
                refine v_ireturn dX11_land_66 rfl rfl ?_
                first | exact absurd c39 (by decide) | exact absurd rfl c39 | exact absurd c44 (by decide) | exact absurd rfl c44 | (refine ⟨?_, ?_⟩ <;> (rw [xLandN, if_neg (fun z => by first | exact z.1 c1 | exact z.2.1 c8 | exact z.2.2.1 c20 | exact z.2.2.2.1 c27 | exact z.2.2.2.2.1 c52 | exact c58 z.2.2.2.2.2)]))
      · refine v_iload_n dX11_land_23 rfl ?_
        refine v_sipush (400) dX11_land_24 (by decide) ?_
        refine v_icmp_gt 34 dX11_land_27 (by decide) (fun c27 => ?_) (fun c27 => ?_)
        · refine v_iconst (0) dX11_land_34 (by decide) ?_
          refine v_istore dX11_land_35 (by decide) ?_
          refine v_iload dX11_land_37 rfl ?_
          refine v_if_eq 61 dX11_land_39 (by decide) (fun c39 => ?_) (fun c39 => ?_)
          · refine v_aload_n dX11_land_61 rfl ?_
            refine v_iconst (2) dX11_land_62 (by decide) ?_
            refine v_invVE (m_refuse g h hS) dX11_land_63 cwX11_refuse mlX11_74 (ob_0 _) rfl rfl (by decide) (by decide) (Nat.le_of_ble_eq_true rfl) ?_
            refine v_ireturn dX11_land_66 rfl rfl ?_
            first | exact absurd c39 (by decide) | exact absurd rfl c39 | exact absurd c44 (by decide) | exact absurd rfl c44 | (refine ⟨?_, ?_⟩ <;> (rw [xLandN, if_neg (fun z => by first | exact z.1 c1 | exact z.2.1 c8 | exact z.2.2.1 c20 | exact z.2.2.2.1 c27 | exact z.2.2.2.2.1 c52 | exact c58 z.2.2.2.2.2)]))
          · refine v_iload dX11_land_42 rfl ?_
            refine v_if_eq 61 dX11_land_44 (by decide) (fun c44 => ?_) (fun c44 => ?_)
            · refine v_aload_n dX11_land_61 rfl ?_
              refine v_iconst (2) dX11_land_62 (by decide) ?_
              refine v_invVE (m_refuse g h hS) dX11_land_63 cwX11_refuse mlX11_74 (ob_0 _) rfl rfl (by decide) (by decide) (Nat.le_of_ble_eq_true rfl) ?_
              refine v_ireturn dX11_land_66 rfl rfl ?_
              first | exact absurd c39 (by decide) | exact absurd rfl c39 | exact absurd c44 (by decide) | exact absurd rfl c44 | (refine ⟨?_, ?_⟩ <;> (rw [xLandN, if_neg (fun z => by first | exact z.1 c1 | exact z.2.1 c8 | exact z.2.2.1 c20 | exact z.2.2.2.1 c27 | exact z.2.2.2.2.1 c52 | exact c58 z.2.2.2.2.2)]))
            · refine v_iload_n dX11_land_47 rfl ?_
              refine v_aload_n dX11_land_48 rfl ?_
              refine v_getI fl_X11_135 dX11_land_49 rfl rfl (Nat.le_of_ble_eq_true rfl) (xh_0_0 hS) ?_
              refine v_icmp_le 61 dX11_land_52 (by decide) (fun c52 => ?_) (fun c52 => ?_)
              · refine v_aload_n dX11_land_61 rfl ?_
                refine v_iconst (2) dX11_land_62 (by decide) ?_
                refine v_invVE (m_refuse g h hS) dX11_land_63 cwX11_refuse mlX11_74 (ob_0 _) rfl rfl (by decide) (by decide) (Nat.le_of_ble_eq_true rfl) ?_
                refine v_ireturn dX11_land_66 rfl rfl ?_
                first | exact absurd c39 (by decide) | exact absurd rfl c39 | exact absurd c44 (by decide) | exact absurd rfl c44 | (refine ⟨?_, ?_⟩ <;> (rw [xLandN, if_neg (fun z => by first | exact z.1 c1 | exact z.2.1 c8 | exact z.2.2.1 c20 | exact z.2.2.2.1 c27 | exact z.2.2.2.2.1 c52 | exact c58 z.2.2.2.2.2)]))
              · refine v_iload_n dX11_land_55 rfl ?_
                refine v_ldc (40000) dX11_land_56 ctX11_237 ?_
                refine v_icmp_le 67 dX11_land_58 (by decide) (fun c58 => ?_) (fun c58 => ?_)
                · refine v_aload_n dX11_land_67 rfl ?_
                  refine v_getR (some (7, 4)) fl_X11_57 dX11_land_68 rfl rfl (Nat.le_of_ble_eq_true rfl) (xh_0_0 hS) (xr_0_0_8 hS) ?_
                  refine v_invVE (m_size g h (xh_7_4 hS)) dX11_land_71 cwJx4a65c_size_8abf5 mlX11_138 (ob_7 _) rfl rfl (by decide) (by decide) (Nat.le_of_ble_eq_true rfl) ?_
                  refine v_bipush (10) dX11_land_74 (by decide) ?_
                  refine v_icmp_lt 85 dX11_land_76 (by decide) (fun c76 => ?_) (fun c76 => ?_)
                  · first | exact absurd c39 (by decide) | exact absurd rfl c39 | exact absurd c44 (by decide) | exact absurd rfl c44 | exact absurd ⟨⟨c1, c8, c20, c27, c52, c58⟩, c76⟩ hno
                  · refine v_aload_n dX11_land_79 rfl ?_
                    refine v_iconst (3) dX11_land_80 (by decide) ?_
                    refine v_invVE (m_refuse g h hS) dX11_land_81 cwX11_refuse mlX11_74 (ob_0 _) rfl rfl (by decide) (by decide) (Nat.le_of_ble_eq_true rfl) ?_
                    refine v_ireturn dX11_land_84 rfl rfl ?_
                    first | exact absurd c39 (by decide) | exact absurd rfl c39 | exact absurd c44 (by decide) | exact absurd rfl c44 | (refine ⟨?_, ?_⟩ <;> (rw [xLandN, if_pos ⟨c1, c8, c20, c27, c52, c58⟩]))
                · refine v_aload_n dX11_land_61 rfl ?_
                  refine v_iconst (2) dX11_land_62 (by decide) ?_
                  refine v_invVE (m_refuse g h hS) dX11_land_63 cwX11_refuse mlX11_74 (ob_0 _) rfl rfl (by decide) (by decide) (Nat.le_of_ble_eq_true rfl) ?_
                  refine v_ireturn dX11_land_66 rfl rfl ?_
                  first | exact absurd c39 (by decide) | exact absurd rfl c39 | exact absurd c44 (by decide) | exact absurd rfl c44 | (refine ⟨?_, ?_⟩ <;> (rw [xLandN, if_neg (fun z => by first | exact z.1 c1 | exact z.2.1 c8 | exact z.2.2.1 c20 | exact z.2.2.2.1 c27 | exact z.2.2.2.2.1 c52 | exact c58 z.2.2.2.2.2)]))
        · refine v_iconst (1) dX11_land_30 (by decide) ?_
          refine v_goto 35 dX11_land_31 (by decide) ?_
          refine v_istore dX11_land_35 (by decide) ?_
          refine v_iload dX11_land_37 rfl ?_
          refine v_if_eq 61 dX11_land_39 (by decide) (fun c39 => ?_) (fun c39 => ?_)
          · refine v_aload_n dX11_land_61 rfl ?_
            refine v_iconst (2) dX11_land_62 (by decide) ?_
            refine v_invVE (m_refuse g h hS) dX11_land_63 cwX11_refuse mlX11_74 (ob_0 _) rfl rfl (by decide) (by decide) (Nat.le_of_ble_eq_true rfl) ?_
            refine v_ireturn dX11_land_66 rfl rfl ?_
            first | exact absurd c39 (by decide) | exact absurd rfl c39 | exact absurd c44 (by decide) | exact absurd rfl c44 | (refine ⟨?_, ?_⟩ <;> (rw [xLandN, if_neg (fun z => by first | exact z.1 c1 | exact z.2.1 c8 | exact z.2.2.1 c20 | exact z.2.2.2.1 c27 | exact z.2.2.2.2.1 c52 | exact c58 z.2.2.2.2.2)]))
          · refine v_iload dX11_land_42 rfl ?_
            refine v_if_eq 61 dX11_land_44 (by decide) (fun c44 => ?_) (fun c44 => ?_)
            · refine v_aload_n dX11_land_61 rfl ?_
              refine v_iconst (2) dX11_land_62 (by decide) ?_
              refine v_invVE (m_refuse g h hS) dX11_land_63 cwX11_refuse mlX11_74 (ob_0 _) rfl rfl (by decide) (by decide) (Nat.le_of_ble_eq_true rfl) ?_
              refine v_ireturn dX11_land_66 rfl rfl ?_
              first | exact absurd c39 (by decide) | exact absurd rfl c39 | exact absurd c44 (by decide) | exact absurd rfl c44 | (refine ⟨?_, ?_⟩ <;> (rw [xLandN, if_neg (fun z => by first | exact z.1 c1 | exact z.2.1 c8 | exact z.2.2.1 c20 | exact z.2.2.2.1 c27 | exact z.2.2.2.2.1 c52 | exact c58 z.2.2.2.2.2)]))
            · refine v_iload_n dX11_land_47 rfl ?_
              refine v_aload_n dX11_land_48 rfl ?_
              refine v_getI fl_X11_135 dX11_land_49 rfl rfl (Nat.le_of_ble_eq_true rfl) (xh_0_0 hS) ?_
              refine v_icmp_le 61 dX11_land_52 (by decide) (fun c52 => ?_) (fun c52 => ?_)
              · refine v_aload_n dX11_land_61 rfl ?_
                refine v_iconst (2) dX11_land_62 (by decide) ?_
                refine v_invVE (m_refuse g h hS) dX11_land_63 cwX11_refuse mlX11_74 (ob_0 _) rfl rfl (by decide) (by decide) (Nat.le_of_ble_eq_true rfl) ?_
                refine v_ireturn dX11_land_66 rfl rfl ?_
                first | exact absurd c39 (by decide) | exact absurd rfl c39 | exact absurd c44 (by decide) | exact absurd rfl c44 | (refine ⟨?_, ?_⟩ <;> (rw [xLandN, if_neg (fun z => by first | exact z.1 c1 | exact z.2.1 c8 | exact z.2.2.1 c20 | exact z.2.2.2.1 c27 | exact z.2.2.2.2.1 c52 | exact c58 z.2.2.2.2.2)]))
              · refine v_iload_n dX11_land_55 rfl ?_
                refine v_ldc (40000) dX11_land_56 ctX11_237 ?_
                refine v_icmp_le 67 dX11_land_58 (by decide) (fun c58 => ?_) (fun c58 => ?_)
                · refine v_aload_n dX11_land_67 rfl ?_
                  refine v_getR (some (7, 4)) fl_X11_57 dX11_land_68 rfl rfl (Nat.le_of_ble_eq_true rfl) (xh_0_0 hS) (xr_0_0_8 hS) ?_
                  refine v_invVE (m_size g h (xh_7_4 hS)) dX11_land_71 cwJx4a65c_size_8abf5 mlX11_138 (ob_7 _) rfl rfl (by decide) (by decide) (Nat.le_of_ble_eq_true rfl) ?_
                  refine v_bipush (10) dX11_land_74 (by decide) ?_
                  refine v_icmp_lt 85 dX11_land_76 (by decide) (fun c76 => ?_) (fun c76 => ?_)
                  · first | exact absurd c39 (by decide) | exact absurd rfl c39 | exact absurd c44 (by decide) | exact absurd rfl c44 | exact absurd ⟨⟨c1, c8, c20, c27, c52, c58⟩, c76⟩ hno
                  · refine v_aload_n dX11_land_79 rfl ?_
                    refine v_iconst (3) dX11_land_80 (by decide) ?_
                    refine v_invVE (m_refuse g h hS) dX11_land_81 cwX11_refuse mlX11_74 (ob_0 _) rfl rfl (by decide) (by decide) (Nat.le_of_ble_eq_true rfl) ?_
                    refine v_ireturn dX11_land_84 rfl rfl ?_
                    first | exact absurd c39 (by decide) | exact absurd rfl c39 | exact absurd c44 (by decide) | exact absurd rfl c44 | (refine ⟨?_, ?_⟩ <;> (rw [xLandN, if_pos ⟨c1, c8, c20, c27, c52, c58⟩]))
                · refine v_aload_n dX11_land_61 rfl ?_
                  refine v_iconst (2) dX11_land_62 (by decide) ?_
                  refine v_invVE (m_refuse g h hS) dX11_land_63 cwX11_refuse mlX11_74 (ob_0 _) rfl rfl (by decide) (by decide) (Nat.le_of_ble_eq_true rfl) ?_
                  refine v_ireturn dX11_land_66 rfl rfl ?_
                  first | exact absurd c39 (by decide) | exact absurd rfl c39 | exact absurd c44 (by decide) | exact absurd rfl c44 | (refine ⟨?_, ?_⟩ <;> (rw [xLandN, if_neg (fun z => by first | exact z.1 c1 | exact z.2.1 c8 | exact z.2.2.1 c20 | exact z.2.2.2.1 c27 | exact z.2.2.2.2.1 c52 | exact c58 z.2.2.2.2.2)]))
set_option maxRecDepth 20000 in
theorem m_landY (g : G0) (h : Hp) (i : XI h) {r e f : Int32} (hl : lOk h r e f) (hc : vi h (7, 4) 2 < 10) : Mx g yX11_land wX11_land 8 [pR (0, 0), pI r, pI e, pI f] h 2 1503 (fun rv h' => rv = some (pI (nI (cn h 12))) ∧ ∃ h2, AddF (laN h r e f) h2 4 ∧ AL h2 4 12 (cn h 12 + 1) ∧ h' = xT h2 0) noX := by
  have hS := i.1
  have le := i.le
  have hS0 : SX (nw h 12 0) := SX.nw hS (by decide) (by decide) (by decide)
  have hS1 := SXla hS (r := r) (e := e) (f := f)
  have hA1 := ALla i.a4 (r := r) (e := e) (f := f)
  refine Mx.by kfX11_land rfl (by decide) (Nat.le_of_ble_eq_true rfl) ?_
  refine v_iload_n dX11_land_0 rfl ?_
  refine v_if_lt 15 dX11_land_1 (by decide) (fun z => absurd z hl.1) (fun _ => ?_)
  refine v_iload_n dX11_land_4 rfl ?_
  refine v_sipush (9999) dX11_land_5 (by decide) ?_
  refine v_icmp_gt 15 dX11_land_8 (by decide) (fun z => absurd z hl.2.1) (fun _ => ?_)
  refine v_iconst (1) dX11_land_11 (by decide) ?_
  refine v_goto 16 dX11_land_12 (by decide) ?_
  refine v_istore dX11_land_16 (by decide) ?_
  refine v_iload_n dX11_land_18 rfl ?_
  refine v_iconst (1) dX11_land_19 (by decide) ?_
  refine v_icmp_lt 34 dX11_land_20 (by decide) (fun z => absurd z hl.2.2.1) (fun _ => ?_)
  refine v_iload_n dX11_land_23 rfl ?_
  refine v_sipush (400) dX11_land_24 (by decide) ?_
  refine v_icmp_gt 34 dX11_land_27 (by decide) (fun z => absurd z hl.2.2.2.1) (fun _ => ?_)
  refine v_iconst (1) dX11_land_30 (by decide) ?_
  refine v_goto 35 dX11_land_31 (by decide) ?_
  refine v_istore dX11_land_35 (by decide) ?_
  refine v_iload dX11_land_37 rfl ?_
  refine v_if_eq 61 dX11_land_39 (by decide) (fun z => absurd z (by decide)) (fun _ => ?_)
  refine v_iload dX11_land_42 rfl ?_
  refine v_if_eq 61 dX11_land_44 (by decide) (fun z => absurd z (by decide)) (fun _ => ?_)
  refine v_iload_n dX11_land_47 rfl ?_
  refine v_aload_n dX11_land_48 rfl ?_
  refine v_getI fl_X11_135 dX11_land_49 rfl rfl (Nat.le_of_ble_eq_true rfl) (xh_0_0 hS) ?_
  refine v_icmp_le 61 dX11_land_52 (by decide) (fun z => absurd z hl.2.2.2.2.1) (fun _ => ?_)
  refine v_iload_n dX11_land_55 rfl ?_
  refine v_ldc (40000) dX11_land_56 ctX11_237 ?_
  refine v_icmp_le 67 dX11_land_58 (by decide) (fun _ => ?_) (fun z => absurd hl.2.2.2.2.2 z)
  refine v_aload_n dX11_land_67 rfl ?_
  refine v_getR (some (7, 4)) fl_X11_57 dX11_land_68 rfl rfl (Nat.le_of_ble_eq_true rfl) (xh_0_0 hS) (xr_0_0_8 hS) ?_
  refine v_invVE (m_size g h (xh_7_4 hS)) dX11_land_71 cwJx4a65c_size_8abf5 mlX11_138 (ob_7 _) rfl rfl (by decide) (by decide) (Nat.le_of_ble_eq_true rfl) ?_
  refine v_bipush (10) dX11_land_74 (by decide) ?_
  refine v_icmp_lt 85 dX11_land_76 (by decide) (fun _ => ?_) (fun z => absurd hc z)
  refine v_aload_n dX11_land_85 rfl ?_
  refine v_getR (some (7, 4)) fl_X11_57 dX11_land_86 rfl rfl (Nat.le_of_ble_eq_true rfl) (xh_0_0 hS) (xr_0_0_8 hS) ?_
  refine v_new 12 1 1500 dX11_land_89 rfl clX11_238 rfl (by decide) (Nat.le_of_ble_eq_true rfl) (Nat.le_of_ble_eq_true rfl) ?_
  refine v_dup dX11_land_92 rfl ?_
  refine v_iload_n dX11_land_93 rfl ?_
  refine v_iload_n dX11_land_94 rfl ?_
  refine v_iload_n dX11_land_95 rfl ?_
  refine v_invIE 1 1500 (m_Land_init g (nw h 12 0) lt_new) dX11_land_96 cwX2_init rfl mlX11_240 rfl rfl (by decide) (by decide) (Nat.le_of_ble_eq_true rfl) (Nat.le_of_ble_eq_true rfl) (Nat.le_of_ble_eq_true rfl) ?_
  change V g _ _ _ _ _ _ _ (laN h r e f) _ _
  refine v_invV 0 0 (m_add g (laN h r e f) pq_12 (xh_7_4 hS1) hA1 (by omega)) dX11_land_99 cwJx4a65c_add_9ea2d mlX11_146 (ob_7 _) rfl rfl (by decide) (by decide) (Nat.le_of_ble_eq_true rfl) (Nat.le_of_ble_eq_true rfl) (Nat.le_of_ble_eq_true rfl) (fun r h2 q2 => ?_) (fun _ _ q2 => q2.elim)
  obtain ⟨rfl, hA3, hF⟩ := q2
  have hS2 := SX_add hF hS1
  change V g _ _ _ _ _ _ (pI 1 :: _) h2 _ _
  refine v_pop dX11_land_102 rfl ?_
  refine v_aload_n dX11_land_103 rfl ?_
  refine v_aload_n dX11_land_104 rfl ?_
  refine v_getR (some (7, 4)) fl_X11_57 dX11_land_105 rfl rfl (Nat.le_of_ble_eq_true rfl) (xh_0_0 hS2) (xr_0_0_8 hS2) ?_
  refine v_invVE (m_size g h2 (xh_7_4 hS2)) dX11_land_108 cwJx4a65c_size_8abf5 mlX11_138 (ob_7 _) rfl rfl (by decide) (by decide) (Nat.le_of_ble_eq_true rfl) ?_
  rw [hA3.1]
  refine v_iconst (1) dX11_land_111 (by decide) ?_
  refine v_isub dX11_land_112 ?_
  refine v_invVE (m_accept g h2 hS2) dX11_land_113 cwX11_accept mlX11_78 (ob_0 _) rfl rfl (by decide) (by decide) (Nat.le_of_ble_eq_true rfl) ?_
  refine v_ireturn dX11_land_116 rfl rfl ?_
  exact ⟨by rw [nI_pred], h2, hF, hA3, rfl⟩
def xGv (h : Hp) : Int32 := trGiv h (vi h (5, 0) 1).toNatClampNeg (vi h (5, 0) 2)
theorem m_gv (g : G0) (h : Hp) (i : XI h) : Mx g yX9_giver wX9_giver 1 [pR (5, 0)] h 0 0 (qE (some (pI (xGv h))) h) noX := by
  obtain ⟨n, hn8, hn⟩ := i.tr
  have := m_giver g h i.1 hn hn8
  rw [xGv, hn, nI_clamp (by omega)]
  exact this
def fiS (h : Hp) (a : Ad) : Hp := xSet h (vi h a 0) (vi h (0, 0) 13)
def fiC (h : Hp) (a : Ad) : Int32 := xCh (fiS h a) (vi h (0, 0) 13) (cn h 9) 0 (-2) (-1)
def xFillN (h : Hp) (r : Int32) : Int32 × Hp := match xRoo h r with
  | none => (-1, xT h 1)
  | some a => match vr h a 1 with
    | some _ => (-1, xT h 5)
    | none => if xGv h = -1 then (-1, xT (fiS h a) 6) else match xPer (fiS h a) (fiC h a) with
      | none => (-1, xT (fiS h a) 6)
      | some _ => (-1, xT (fiS h a) 3)
set_option maxRecDepth 20000 in
theorem m_fillN (g : G0) (h : Hp) (i : XI h) {r : Int32} (hno : ∀ a, xRoo h r = some a → vr h a 1 = none → ¬ xGv h = -1 → ∀ p, xPer (fiS h a) (fiC h a) = some p → ¬ vi h (7, 3) 2 < 100) : Mx g yX11_fill wX11_fill 8 [pR (0, 0), pI r] h 0 0 (qE (some (pI (xFillN h r).1)) (xFillN h r).2) noX := by
  have hS := i.1
  obtain ⟨o, ho⟩ : ∃ o, xRoo h r = o := ⟨_, rfl⟩
  have ce := m_roomAt g h i (p := r)
  rw [ho] at ce
  refine Mx.by kfX11_fill rfl (by decide) (Nat.le_of_ble_eq_true rfl) ?_
  refine v_aload_n dX11_fill_0 rfl ?_
  refine v_iload_n dX11_fill_1 rfl ?_
  refine v_invVE (ce) dX11_fill_2 cwX11_roomAt mlX11_167 (ob_0 _) rfl rfl (by decide) (by decide) (Nat.le_of_ble_eq_true rfl) ?_
  refine v_astore_n dX11_fill_5 (by decide) ?_
  refine v_aload_n dX11_fill_6 rfl ?_
  refine v_ifnonnull 16 dX11_fill_7 (by decide) (fun c7 => ?_) (fun a7 c7 => ?_)
  · refine v_aload_n dX11_fill_10 rfl ?_
    refine v_iconst (1) dX11_fill_11 (by decide) ?_
    refine v_invVE (m_refuse g h hS) dX11_fill_12 cwX11_refuse mlX11_74 (ob_0 _) rfl rfl (by decide) (by decide) (Nat.le_of_ble_eq_true rfl) ?_
    refine v_ireturn dX11_fill_15 rfl rfl ?_
    first | (subst c7; refine ⟨?_, ?_⟩ <;> (simp only [xFillN, ho]; done)) | (subst c20; refine ⟨?_, ?_⟩ <;> (simp only [xFillN, ho, hs]; done)) | (refine ⟨?_, ?_⟩ <;> (simp only [xFillN, ho, hs, if_pos c61]; done)) | (subst c66; refine ⟨?_, ?_⟩ <;> (simp only [xFillN, ho, hs, if_neg c61, hp2]; done)) | (obtain rfl := c66; refine ⟨?_, ?_⟩ <;> (simp only [xFillN, ho, hs, if_neg c61, hp2]; done)) | (refine ⟨?_, ?_⟩ <;> (simp only [xFillN, ho, hs, c20]; done))
  · subst c7
    obtain ⟨a1, a2⟩ := a7
    obtain ⟨e1, a2lt, e3⟩ := xRoo_ok i ho
    obtain rfl : a1 = 10 := e1
    obtain ⟨os, hs⟩ : ∃ os, vr h (10, a2) 1 = os := ⟨_, rfl⟩
    have i2 : XI (fiS h (10, a2)) := XIset i _ _
    have hS2 := i2.1
    refine v_aload_n dX11_fill_16 rfl ?_
    refine v_getR (os) fl_X11_207 dX11_fill_17 rfl rfl (Nat.le_of_ble_eq_true rfl) a2lt hs ?_
    refine v_ifnull 29 dX11_fill_20 (by decide) (fun c20 => ?_) (fun a20 c20 => ?_)
    · subst c20
      obtain ⟨op, hp2⟩ : ∃ o, xPer (fiS h (10, a2)) (fiC h (10, a2)) = o := ⟨_, rfl⟩
      have ce2 := m_personAt g _ i2 (p := fiC h (10, a2))
      rw [hp2] at ce2
      refine v_aload_n dX11_fill_29 rfl ?_
      refine v_getR (some (5, 0)) fl_X11_53 dX11_fill_30 rfl rfl (Nat.le_of_ble_eq_true rfl) (xh_0_0 hS) (xr_0_0_7 hS) ?_
      refine v_invVE (m_gv g h i) dX11_fill_33 cwX9_giver mlX11_211 (ob_5 _) rfl rfl (by decide) (by decide) (Nat.le_of_ble_eq_true rfl) ?_
      refine v_istore_n dX11_fill_36 (by decide) ?_
      refine v_aload_n dX11_fill_37 rfl ?_
      refine v_aload_n dX11_fill_38 rfl ?_
      refine v_getI fl_X11_214 dX11_fill_39 rfl rfl (Nat.le_of_ble_eq_true rfl) a2lt ?_
      refine v_aload_n dX11_fill_42 rfl ?_
      refine v_getI fl_X11_135 dX11_fill_43 rfl rfl (Nat.le_of_ble_eq_true rfl) (xh_0_0 hS) ?_
      refine v_invVE (m_choose g h i) dX11_fill_46 cwX11_choose mlX11_194 (ob_0 _) rfl rfl (by decide) (by decide) (Nat.le_of_ble_eq_true rfl) ?_
      change V g _ _ _ _ _ _ (pI (fiC h (10, a2)) :: _) (fiS h (10, a2)) _ _
      refine v_istore dX11_fill_49 (by decide) ?_
      refine v_aload_n dX11_fill_51 rfl ?_
      refine v_iload dX11_fill_52 rfl ?_
      refine v_invVE (ce2) dX11_fill_54 cwX11_personAt mlX11_150 (ob_0 _) rfl rfl (by decide) (by decide) (Nat.le_of_ble_eq_true rfl) ?_
      refine v_astore dX11_fill_57 (by decide) ?_
      refine v_iload_n dX11_fill_59 rfl ?_
      refine v_iconst (-1) dX11_fill_60 (by decide) ?_
      refine v_icmp_eq 69 dX11_fill_61 (by decide) (fun c61 => ?_) (fun c61 => ?_)
      · refine v_aload_n dX11_fill_69 rfl ?_
        refine v_bipush (6) dX11_fill_70 (by decide) ?_
        refine v_invVE (m_refuse g _ hS2) dX11_fill_72 cwX11_refuse mlX11_74 (ob_0 _) rfl rfl (by decide) (by decide) (Nat.le_of_ble_eq_true rfl) ?_
        refine v_ireturn dX11_fill_75 rfl rfl ?_
        first | (subst c7; refine ⟨?_, ?_⟩ <;> (simp only [xFillN, ho]; done)) | (subst c20; refine ⟨?_, ?_⟩ <;> (simp only [xFillN, ho, hs]; done)) | (refine ⟨?_, ?_⟩ <;> (simp only [xFillN, ho, hs, if_pos c61]; done)) | (subst c66; refine ⟨?_, ?_⟩ <;> (simp only [xFillN, ho, hs, if_neg c61, hp2]; done)) | (obtain rfl := c66; refine ⟨?_, ?_⟩ <;> (simp only [xFillN, ho, hs, if_neg c61, hp2]; done)) | (refine ⟨?_, ?_⟩ <;> (simp only [xFillN, ho, hs, c20]; done))
      · refine v_aload dX11_fill_64 rfl ?_
        refine v_ifnonnull 76 dX11_fill_66 (by decide) (fun c66 => ?_) (fun a66 c66 => ?_)
        · refine v_aload_n dX11_fill_69 rfl ?_
          refine v_bipush (6) dX11_fill_70 (by decide) ?_
          refine v_invVE (m_refuse g _ hS2) dX11_fill_72 cwX11_refuse mlX11_74 (ob_0 _) rfl rfl (by decide) (by decide) (Nat.le_of_ble_eq_true rfl) ?_
          refine v_ireturn dX11_fill_75 rfl rfl ?_
          first | (subst c7; refine ⟨?_, ?_⟩ <;> (simp only [xFillN, ho]; done)) | (subst c20; refine ⟨?_, ?_⟩ <;> (simp only [xFillN, ho, hs]; done)) | (refine ⟨?_, ?_⟩ <;> (simp only [xFillN, ho, hs, if_pos c61]; done)) | (subst c66; refine ⟨?_, ?_⟩ <;> (simp only [xFillN, ho, hs, if_neg c61, hp2]; done)) | (obtain rfl := c66; refine ⟨?_, ?_⟩ <;> (simp only [xFillN, ho, hs, if_neg c61, hp2]; done)) | (refine ⟨?_, ?_⟩ <;> (simp only [xFillN, ho, hs, c20]; done))
        · refine v_aload_n dX11_fill_76 rfl ?_
          refine v_getR (some (7, 3)) fl_X11_47 dX11_fill_77 rfl rfl (Nat.le_of_ble_eq_true rfl) (xh_0_0 hS2) (xr_0_0_6 hS2) ?_
          refine v_invVE (m_size g _ (xh_7_3 hS2)) dX11_fill_80 cwJx4a65c_size_8abf5 mlX11_138 (ob_7 _) rfl rfl (by decide) (by decide) (Nat.le_of_ble_eq_true rfl) ?_
          refine v_bipush (100) dX11_fill_83 (by decide) ?_
          refine v_icmp_lt 94 dX11_fill_85 (by decide) (fun c85 => ?_) (fun c85 => ?_)
          · exact absurd c85 (hno _ ho hs c61 _ (hp2.trans c66))
          · refine v_aload_n dX11_fill_88 rfl ?_
            refine v_iconst (3) dX11_fill_89 (by decide) ?_
            refine v_invVE (m_refuse g _ hS2) dX11_fill_90 cwX11_refuse mlX11_74 (ob_0 _) rfl rfl (by decide) (by decide) (Nat.le_of_ble_eq_true rfl) ?_
            refine v_ireturn dX11_fill_93 rfl rfl ?_
            first | (subst c7; refine ⟨?_, ?_⟩ <;> (simp only [xFillN, ho]; done)) | (subst c20; refine ⟨?_, ?_⟩ <;> (simp only [xFillN, ho, hs]; done)) | (refine ⟨?_, ?_⟩ <;> (simp only [xFillN, ho, hs, if_pos c61]; done)) | (subst c66; refine ⟨?_, ?_⟩ <;> (simp only [xFillN, ho, hs, if_neg c61, hp2]; done)) | (obtain rfl := c66; refine ⟨?_, ?_⟩ <;> (simp only [xFillN, ho, hs, if_neg c61, hp2]; done)) | (refine ⟨?_, ?_⟩ <;> (simp only [xFillN, ho, hs, c20]; done))
    · refine v_aload_n dX11_fill_23 rfl ?_
      refine v_iconst (5) dX11_fill_24 (by decide) ?_
      refine v_invVE (m_refuse g h hS) dX11_fill_25 cwX11_refuse mlX11_74 (ob_0 _) rfl rfl (by decide) (by decide) (Nat.le_of_ble_eq_true rfl) ?_
      refine v_ireturn dX11_fill_28 rfl rfl ?_
      first | (subst c7; refine ⟨?_, ?_⟩ <;> (simp only [xFillN, ho]; done)) | (subst c20; refine ⟨?_, ?_⟩ <;> (simp only [xFillN, ho, hs]; done)) | (refine ⟨?_, ?_⟩ <;> (simp only [xFillN, ho, hs, if_pos c61]; done)) | (subst c66; refine ⟨?_, ?_⟩ <;> (simp only [xFillN, ho, hs, if_neg c61, hp2]; done)) | (obtain rfl := c66; refine ⟨?_, ?_⟩ <;> (simp only [xFillN, ho, hs, if_neg c61, hp2]; done)) | (refine ⟨?_, ?_⟩ <;> (simp only [xFillN, ho, hs, c20]; done))
def stN (h : Hp) (r : Nat) : Hp := st3 (nw (fiS h (10, r)) 11 0) (cn h 11) (nI r) (fiC h (10, r)) (vi h (0, 0) 13)
theorem SXst {h : Hp} (i : XI h) (r : Nat) : SX (stN h r) := SX.nw (XIset i _ _).1 (by decide) (by decide) (by decide)
theorem ALst {h : Hp} {j q n : Nat} (hA : AL h j q n) (r : Nat) : AL (stN h r) j q n := by
  have n9 : ((11, cn h 11) : Ad).1 ≠ 7 := fun z => by cases z
  exact AL_sIk (AL_sIk (AL_sIk (AL_sIk (AL_nw (AL.sRs hA rfl _) (by decide) (by decide)) n9) n9) n9) n9
def fi0 (h2 : Hp) (r n : Nat) : Hp := sR h2 (10, r) 1 (some (11, n))
def fi1 (h2 : Hp) (r n : Nat) (v : Int32) : Hp := sI (fi0 h2 r n) (10, r) 2 v
def fi2 (h2 : Hp) (r n : Nat) (v : Int32) (q : Nat) : Hp := sI (fi1 h2 r n v) (9, q) 8 (nI r)
def fi3 (h2 : Hp) (r n : Nat) (v : Int32) (q : Nat) : Hp := sI (fi2 h2 r n v q) (5, 0) 2 (trBeh (fi2 h2 r n v q) v)
set_option maxRecDepth 20000 in
theorem m_fillY (g : G0) (h : Hp) (i : XI h) {r q : Nat} (hr : r < cn h 10) (hs : vr h (10, r) 1 = none) (hg : ¬ xGv h = -1) (hp2 : xPer (fiS h (10, r)) (fiC h (10, r)) = some (9, q)) (hq : q < cn h 9) (hc : vi h (7, 3) 2 < 100) : Mx g yX11_fill wX11_fill 8 [pR (0, 0), pI (nI r)] h 2 1504 (fun rv h' => rv = some (pI (fiC h (10, r))) ∧ ∃ h2, AddF (stN h r) h2 3 ∧ AL h2 3 11 (cn h 11 + 1) ∧ h' = xT (fi3 h2 r (cn h 11) (xGv h) q) 0) noX := by
  have hS := i.1
  have le := i.le
  have ce := m_roomAt g h i (p := nI r)
  rw [xRoo_in i hr] at ce
  have i2 : XI (fiS h (10, r)) := XIset i _ _
  have hS2 := i2.1
  have ce2 := m_personAt g _ i2 (p := fiC h (10, r))
  rw [hp2] at ce2
  have hS0 : SX (nw (fiS h (10, r)) 11 0) := SX.nw hS2 (by decide) (by decide) (by decide)
  have et : vi (nw (fiS h (10, r)) 11 0) (0, 0) 13 = vi h (0, 0) 13 := by rw [vi_nw, if_neg (fun z => by cases z)]; rfl
  have hS1 := SXst i r
  have hA1 := ALst i.a3 r
  refine Mx.by kfX11_fill rfl (by decide) (Nat.le_of_ble_eq_true rfl) ?_
  refine v_aload_n dX11_fill_0 rfl ?_
  refine v_iload_n dX11_fill_1 rfl ?_
  refine v_invVE (ce) dX11_fill_2 cwX11_roomAt mlX11_167 (ob_0 _) rfl rfl (by decide) (by decide) (Nat.le_of_ble_eq_true rfl) ?_
  refine v_astore_n dX11_fill_5 (by decide) ?_
  refine v_aload_n dX11_fill_6 rfl ?_
  refine v_ifnonnull 16 dX11_fill_7 (by decide) (fun z => by cases z) (fun _ _ => ?_)
  refine v_aload_n dX11_fill_16 rfl ?_
  refine v_getR (none) fl_X11_207 dX11_fill_17 rfl rfl (Nat.le_of_ble_eq_true rfl) hr hs ?_
  refine v_ifnull 29 dX11_fill_20 (by decide) (fun _ => ?_) (fun _ z => by cases z)
  refine v_aload_n dX11_fill_29 rfl ?_
  refine v_getR (some (5, 0)) fl_X11_53 dX11_fill_30 rfl rfl (Nat.le_of_ble_eq_true rfl) (xh_0_0 hS) (xr_0_0_7 hS) ?_
  refine v_invVE (m_gv g h i) dX11_fill_33 cwX9_giver mlX11_211 (ob_5 _) rfl rfl (by decide) (by decide) (Nat.le_of_ble_eq_true rfl) ?_
  refine v_istore_n dX11_fill_36 (by decide) ?_
  refine v_aload_n dX11_fill_37 rfl ?_
  refine v_aload_n dX11_fill_38 rfl ?_
  refine v_getI fl_X11_214 dX11_fill_39 rfl rfl (Nat.le_of_ble_eq_true rfl) hr ?_
  refine v_aload_n dX11_fill_42 rfl ?_
  refine v_getI fl_X11_135 dX11_fill_43 rfl rfl (Nat.le_of_ble_eq_true rfl) (xh_0_0 hS) ?_
  refine v_invVE (m_choose g h i) dX11_fill_46 cwX11_choose mlX11_194 (ob_0 _) rfl rfl (by decide) (by decide) (Nat.le_of_ble_eq_true rfl) ?_
  change V g _ _ _ _ _ _ (pI (fiC h (10, r)) :: _) (fiS h (10, r)) _ _
  refine v_istore dX11_fill_49 (by decide) ?_
  refine v_aload_n dX11_fill_51 rfl ?_
  refine v_iload dX11_fill_52 rfl ?_
  refine v_invVE (ce2) dX11_fill_54 cwX11_personAt mlX11_150 (ob_0 _) rfl rfl (by decide) (by decide) (Nat.le_of_ble_eq_true rfl) ?_
  refine v_astore dX11_fill_57 (by decide) ?_
  refine v_iload_n dX11_fill_59 rfl ?_
  refine v_iconst (-1) dX11_fill_60 (by decide) ?_
  refine v_icmp_eq 69 dX11_fill_61 (by decide) (fun z => absurd z hg) (fun _ => ?_)
  refine v_aload dX11_fill_64 rfl ?_
  refine v_ifnonnull 76 dX11_fill_66 (by decide) (fun z => by cases z) (fun _ _ => ?_)
  refine v_aload_n dX11_fill_76 rfl ?_
  refine v_getR (some (7, 3)) fl_X11_47 dX11_fill_77 rfl rfl (Nat.le_of_ble_eq_true rfl) (xh_0_0 hS2) (xr_0_0_6 hS2) ?_
  refine v_invVE (m_size g _ (xh_7_3 hS2)) dX11_fill_80 cwJx4a65c_size_8abf5 mlX11_138 (ob_7 _) rfl rfl (by decide) (by decide) (Nat.le_of_ble_eq_true rfl) ?_
  refine v_bipush (100) dX11_fill_83 (by decide) ?_
  refine v_icmp_lt 94 dX11_fill_85 (by decide) (fun _ => ?_) (fun z => absurd hc z)
  refine v_new 11 1 1500 dX11_fill_94 rfl clX11_217 rfl (by decide) (Nat.le_of_ble_eq_true rfl) (Nat.le_of_ble_eq_true rfl) ?_
  refine v_dup dX11_fill_97 rfl ?_
  refine v_iload_n dX11_fill_98 rfl ?_
  refine v_iload dX11_fill_99 rfl ?_
  refine v_aload_n dX11_fill_101 rfl ?_
  refine v_getI fl_X11_135 dX11_fill_102 rfl rfl (Nat.le_of_ble_eq_true rfl) (xh_0_0 hS0) ?_
  rw [et]
  refine v_invIE 1 1500 (m_Stay_init g (nw (fiS h (10, r)) 11 0) lt_new) dX11_fill_105 cwX7_init rfl mlX11_219 rfl rfl (by decide) (by decide) (Nat.le_of_ble_eq_true rfl) (Nat.le_of_ble_eq_true rfl) (Nat.le_of_ble_eq_true rfl) ?_
  change V g _ _ _ _ _ _ _ (stN h r) _ _
  refine v_astore dX11_fill_108 (by decide) ?_
  refine v_aload_n dX11_fill_110 rfl ?_
  refine v_getR (some (7, 3)) fl_X11_47 dX11_fill_111 rfl rfl (Nat.le_of_ble_eq_true rfl) (xh_0_0 hS1) (xr_0_0_6 hS1) ?_
  refine v_aload dX11_fill_114 rfl ?_
  refine v_invV 0 0 (m_add g (stN h r) pq_11 (xh_7_3 hS1) hA1 (by omega)) dX11_fill_116 cwJx4a65c_add_9ea2d mlX11_146 (ob_7 _) rfl rfl (by decide) (by decide) (Nat.le_of_ble_eq_true rfl) (Nat.le_of_ble_eq_true rfl) (Nat.le_of_ble_eq_true rfl) (fun r h2 q2 => ?_) (fun _ _ q2 => q2.elim)
  obtain ⟨rfl, hA3, hF⟩ := q2
  have hS3 := SX_add hF hS1
  change V g _ _ _ _ _ _ (pI 1 :: _) h2 _ _
  have r10 : r < cn h2 10 := (by rw [hF.1 10 (by decide)]; show r < cn (nw (fiS h (10, r)) 11 0) 10; rw [cn_nw, if_neg (by decide)]; exact hr)
  have q9 : q < cn h2 9 := (by rw [hF.1 9 (by decide)]; show q < cn (nw (fiS h (10, r)) 11 0) 9; rw [cn_nw, if_neg (by decide)]; exact hq)
  have hS4 : SX (fi2 h2 r (cn h 11) (xGv h) q) := SX.sI (SX.sI (SXp hS3 (a := (10, r)) (by show ∀ q ∈ xR, q.1.1.1 ≠ 10; decide)))
  have hS5 : SX (fi3 h2 r (cn h 11) (xGv h) q) := SX.sI hS4
  refine v_pop dX11_fill_119 rfl ?_
  refine v_aload_n dX11_fill_120 rfl ?_
  refine v_aload dX11_fill_121 rfl ?_
  refine v_putR fl_X11_207 (fun z => by cases z) dX11_fill_123 rfl rfl (Nat.le_of_ble_eq_true rfl) rfl r10 ?_
  change V g _ _ _ _ _ _ _ (fi0 h2 r (cn h 11)) _ _
  refine v_aload_n dX11_fill_126 rfl ?_
  refine v_iload_n dX11_fill_127 rfl ?_
  refine v_putI fl_X11_222 (fun z => by cases z) dX11_fill_128 rfl rfl (Nat.le_of_ble_eq_true rfl) rfl rfl r10 ?_
  change V g _ _ _ _ _ _ _ (fi1 h2 r (cn h 11) (xGv h)) _ _
  refine v_aload dX11_fill_131 rfl ?_
  refine v_iload_n dX11_fill_133 rfl ?_
  refine v_putI fl_X11_164 (fun z => by cases z) dX11_fill_134 rfl rfl (Nat.le_of_ble_eq_true rfl) rfl rfl q9 ?_
  change V g _ _ _ _ _ _ _ (fi2 h2 r (cn h 11) (xGv h) q) _ _
  refine v_aload_n dX11_fill_137 rfl ?_
  refine v_getR (some (5, 0)) fl_X11_53 dX11_fill_138 rfl rfl (Nat.le_of_ble_eq_true rfl) (xh_0_0 hS4) (xr_0_0_7 hS4) ?_
  refine v_iload_n dX11_fill_141 rfl ?_
  refine v_invVE (m_moveTurn g _ hS4) dX11_fill_142 cwX9_moveTurnBehind mlX11_224 (ob_5 _) rfl rfl (by decide) (by decide) (Nat.le_of_ble_eq_true rfl) ?_
  change V g _ _ _ _ _ _ _ (fi3 h2 r (cn h 11) (xGv h) q) _ _
  refine v_aload_n dX11_fill_145 rfl ?_
  refine v_iload dX11_fill_146 rfl ?_
  refine v_invVE (m_accept g _ hS5) dX11_fill_148 cwX11_accept mlX11_78 (ob_0 _) rfl rfl (by decide) (by decide) (Nat.le_of_ble_eq_true rfl) ?_
  refine v_ireturn dX11_fill_151 rfl rfl ?_
  exact ⟨rfl, h2, hF, hA3, rfl⟩
