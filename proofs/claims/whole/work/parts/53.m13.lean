def fC (h : Hp) (k : Nat) (nu : Int32) : Nat → Nat → Int32 × Int32 → Int32 × Int32
  | 0, _, s => s
  | j + 1, c, s => if nu = 0 then (if vi h (40, k) c = 2 then fC h k nu j (c + 1) (nI k, nI c) else fC h k nu j (c + 1) s) else (if vi h (40, k) c = 2 then fC h k nu j (c + 1) s else if vi h (41, k) c = nu then fC h k nu j (c + 1) (nI k, nI c) else fC h k nu j (c + 1) s)
def chN (h : Hp) (k : Nat) : Nat := (vi h (33, k) 2).toNatClampNeg
def fO (h : Hp) (w nu d : Int32) : Nat → Nat → Int32 × Int32 → Int32 × Int32
  | 0, _, s => s
  | j + 1, k, s => if vi h (33, k) 0 = w then (if d < vi h (33, k) 1 then fO h w nu d j (k + 1) s else if s.1 = -1 then fO h w nu d j (k + 1) (fC h k nu (chN h k) 0 s) else if vi h (33, s.1.toNatClampNeg) 1 ≤ vi h (33, k) 1 then fO h w nu d j (k + 1) (fC h k nu (chN h k) 0 s) else fO h w nu d j (k + 1) s) else fO h w nu d j (k + 1) s
def sOK (n : Nat) (s : Int32 × Int32) : Prop := s.1 = -1 ∨ ∃ q c, q < n ∧ c < 12 ∧ s.1 = nI q ∧ s.2 = nI c
theorem fC_ok (h : Hp) {k n : Nat} (hk : k < n) (nu : Int32) : ∀ (j c : Nat) (s : Int32 × Int32), c + j ≤ 12 → sOK n s → sOK n (fC h k nu j c s)
  | 0, _, _, _, hs => hs
  | j + 1, c, s, hc, hs => by
    have m : sOK n (nI k, nI c) := Or.inr ⟨k, c, hk, by omega, rfl, rfl⟩
    rw [fC]
    split
    · split
      · exact fC_ok h hk nu j (c + 1) _ (by omega) m
      · exact fC_ok h hk nu j (c + 1) _ (by omega) hs
    · split
      · exact fC_ok h hk nu j (c + 1) _ (by omega) hs
      · split
        · exact fC_ok h hk nu j (c + 1) _ (by omega) m
        · exact fC_ok h hk nu j (c + 1) _ (by omega) hs
theorem ff33 (h : Hp) (s : Int32 × Int32) (p k f : Nat) (hp : p ≠ 32) : vi (ff h s) (p, k) f = vi h (p, k) f := ff_o h s f (fun z => hp (by cases z; rfl))
set_option maxRecDepth 20000 in
theorem fin_in (g : G0) (h : Hp) (hM : SM h) {k n : Nat} (hk : SK h k) (hn : n ≤ 12) (en : vi h (33, k) 2 = nI n) {w nu d : Int32} {Q : Option PV → Hp → Prop} {E : EP} : ∀ (j c : Nat) (x : Int32) (s : Int32 × Int32), c + j = n → x = nI c → V g kfX14_finds 0 0 0 152 [(0, pR (32, 0)), (1, pI w), (2, pI nu), (3, pI d), (4, pI (nI k))] [] (ff h (fC h k nu j c s)) Q E → V g kfX14_finds 0 0 0 78 [(0, pR (32, 0)), (1, pI w), (2, pI nu), (3, pI d), (4, pI (nI k)), (5, pR (33, k)), (6, pI x)] [] (ff h s) Q E := by
  intro j
  induction j with
  | zero =>
    intro c x s hij hx K
    subst hx
    refine v_iload dX14_finds_78 rfl ?_
    refine v_aload dX14_finds_80 rfl ?_
    refine v_getI fl_X14_208 dX14_finds_82 rfl rfl (Nat.le_of_ble_eq_true rfl) hk.1 ?_
    rw [ff33 _ _ _ _ _ (by decide)]
    rw [en]
    refine v_icmp_ge 152 dX14_finds_85 (by decide) (fun _ => ?_) (fun z => absurd (nI_le (by omega) (by omega)) z)
    refine v_loc [(0, pR (32, 0)), (1, pI w), (2, pI nu), (3, pI d), (4, pI (nI k))] rfl ?_
    exact K
  | succ j ih =>
    intro c x s hij hx K
    subst hx
    have ncc : (nI c).toNatClampNeg = c := nI_clamp (by omega)
    have hc : c < 12 := by omega
    refine v_iload dX14_finds_78 rfl ?_
    refine v_aload dX14_finds_80 rfl ?_
    refine v_getI fl_X14_208 dX14_finds_82 rfl rfl (Nat.le_of_ble_eq_true rfl) hk.1 ?_
    rw [ff33 _ _ _ _ _ (by decide)]
    rw [en]
    refine v_icmp_ge 152 dX14_finds_85 (by decide) (fun z => absurd z (nI_ge (by omega) (by omega))) (fun _ => ?_)
    refine v_iload_n dX14_finds_88 rfl ?_
    refine v_if_ne 107 dX14_finds_89 (by decide) (fun c89 => ?_) (fun c89 => ?_)
    · refine v_aload dX14_finds_107 rfl ?_
      refine v_getR (some (40, k)) fl_X14_223 dX14_finds_109 rfl rfl (Nat.le_of_ble_eq_true rfl) hk.1 hk.2.2.2.1.1 ?_
      refine v_iload dX14_finds_112 rfl ?_
      refine v_iald dX14_finds_114 rfl (Nat.le_of_ble_eq_true rfl) hk.2.2.1.1 (by rw [show ln (ff h s) (40, k) = 12 from hk.2.2.2.2.1.1]; exact vp_in_nI hc (by decide)) ?_
      rw [ncc]
      rw [ff33 _ _ _ _ _ (by decide)]
      refine v_iconst (2) dX14_finds_115 (by decide) ?_
      refine v_icmp_eq 146 dX14_finds_116 (by decide) (fun c116 => ?_) (fun c116 => ?_)
      · refine v_iinc _ dX14_finds_146 rfl rfl (by decide) ?_
        refine v_goto 78 dX14_finds_149 (by decide) ?_
        rw [fC, if_neg c89, if_pos c116] at K
        refine v_loc [(0, pR (32, 0)), (1, pI w), (2, pI nu), (3, pI d), (4, pI (nI k)), (5, pR (33, k)), (6, pI (nI c + 1))] rfl ?_
        exact ih (c + 1) _ _ (by omega) (nI_1 c) K
      · refine v_aload dX14_finds_119 rfl ?_
        refine v_getR (some (41, k)) fl_X14_226 dX14_finds_121 rfl rfl (Nat.le_of_ble_eq_true rfl) hk.1 hk.2.2.2.1.2.1 ?_
        refine v_iload dX14_finds_124 rfl ?_
        refine v_iald dX14_finds_126 rfl (Nat.le_of_ble_eq_true rfl) hk.2.2.1.2.1 (by rw [show ln (ff h s) (41, k) = 12 from hk.2.2.2.2.1.2.1]; exact vp_in_nI hc (by decide)) ?_
        rw [ncc]
        rw [ff33 _ _ _ _ _ (by decide)]
        refine v_iload_n dX14_finds_127 rfl ?_
        refine v_icmp_eq 134 dX14_finds_128 (by decide) (fun c128 => ?_) (fun c128 => ?_)
        · refine v_aload_n dX14_finds_134 rfl ?_
          refine v_iload dX14_finds_135 rfl ?_
          refine v_putI fl_X14_295 (fun z => by cases z) dX14_finds_137 rfl rfl (Nat.le_of_ble_eq_true rfl) rfl rfl (mh_32_0 (SMff hM _)) ?_
          rw [ff_a]
          refine v_aload_n dX14_finds_140 rfl ?_
          refine v_iload dX14_finds_141 rfl ?_
          refine v_putI fl_X14_298 (fun z => by cases z) dX14_finds_143 rfl rfl (Nat.le_of_ble_eq_true rfl) rfl rfl (mh_32_0 (SMff hM _)) ?_
          rw [ff_b]
          refine v_iinc _ dX14_finds_146 rfl rfl (by decide) ?_
          refine v_goto 78 dX14_finds_149 (by decide) ?_
          rw [fC, if_neg c89, if_neg c116, if_pos c128] at K
          refine v_loc [(0, pR (32, 0)), (1, pI w), (2, pI nu), (3, pI d), (4, pI (nI k)), (5, pR (33, k)), (6, pI (nI c + 1))] rfl ?_
          exact ih (c + 1) _ _ (by omega) (nI_1 c) K
        · refine v_goto 146 dX14_finds_131 (by decide) ?_
          refine v_iinc _ dX14_finds_146 rfl rfl (by decide) ?_
          refine v_goto 78 dX14_finds_149 (by decide) ?_
          rw [fC, if_neg c89, if_neg c116, if_neg c128] at K
          refine v_loc [(0, pR (32, 0)), (1, pI w), (2, pI nu), (3, pI d), (4, pI (nI k)), (5, pR (33, k)), (6, pI (nI c + 1))] rfl ?_
          exact ih (c + 1) _ _ (by omega) (nI_1 c) K
    · refine v_aload dX14_finds_92 rfl ?_
      refine v_getR (some (40, k)) fl_X14_223 dX14_finds_94 rfl rfl (Nat.le_of_ble_eq_true rfl) hk.1 hk.2.2.2.1.1 ?_
      refine v_iload dX14_finds_97 rfl ?_
      refine v_iald dX14_finds_99 rfl (Nat.le_of_ble_eq_true rfl) hk.2.2.1.1 (by rw [show ln (ff h s) (40, k) = 12 from hk.2.2.2.2.1.1]; exact vp_in_nI hc (by decide)) ?_
      rw [ncc]
      rw [ff33 _ _ _ _ _ (by decide)]
      refine v_iconst (2) dX14_finds_100 (by decide) ?_
      refine v_icmp_eq 134 dX14_finds_101 (by decide) (fun c101 => ?_) (fun c101 => ?_)
      · refine v_aload_n dX14_finds_134 rfl ?_
        refine v_iload dX14_finds_135 rfl ?_
        refine v_putI fl_X14_295 (fun z => by cases z) dX14_finds_137 rfl rfl (Nat.le_of_ble_eq_true rfl) rfl rfl (mh_32_0 (SMff hM _)) ?_
        rw [ff_a]
        refine v_aload_n dX14_finds_140 rfl ?_
        refine v_iload dX14_finds_141 rfl ?_
        refine v_putI fl_X14_298 (fun z => by cases z) dX14_finds_143 rfl rfl (Nat.le_of_ble_eq_true rfl) rfl rfl (mh_32_0 (SMff hM _)) ?_
        rw [ff_b]
        refine v_iinc _ dX14_finds_146 rfl rfl (by decide) ?_
        refine v_goto 78 dX14_finds_149 (by decide) ?_
        rw [fC, if_pos c89, if_pos c101] at K
        refine v_loc [(0, pR (32, 0)), (1, pI w), (2, pI nu), (3, pI d), (4, pI (nI k)), (5, pR (33, k)), (6, pI (nI c + 1))] rfl ?_
        exact ih (c + 1) _ _ (by omega) (nI_1 c) K
      · refine v_goto 146 dX14_finds_104 (by decide) ?_
        refine v_iinc _ dX14_finds_146 rfl rfl (by decide) ?_
        refine v_goto 78 dX14_finds_149 (by decide) ?_
        rw [fC, if_pos c89, if_neg c101] at K
        refine v_loc [(0, pR (32, 0)), (1, pI w), (2, pI nu), (3, pI d), (4, pI (nI k)), (5, pR (33, k)), (6, pI (nI c + 1))] rfl ?_
        exact ih (c + 1) _ _ (by omega) (nI_1 c) K
