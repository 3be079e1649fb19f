def QSs (b : Nat → Int32) (e : Nat) (Z : Hp) (hB : Hp) : Option PV → Hp → Prop := fun r hf => (r = some (pI (-1)) ∧ ∃ h', PXr_s 0 Z hB (35, 0) h' ∧ hf = cthH h') ∨ (r = some (pI (-1)) ∧ ∃ h', PQR_s b e Z 0 hB none h' ∧ hf = mT h' 3)
theorem SKs_of {h : Hp} (m : SM h) : SK_s (hR0_s h 0) 0 := ⟨mh_34_0 m, trivial, ⟨mh_50_0 m, mh_51_0 m, mh_52_0 m, mh_53_0 m, mh_54_0 m, mh_55_0 m, mh_56_0 m, mh_57_0 m, mh_58_0 m, mh_59_0 m⟩, ⟨mr_34_0_4 m, mr_34_0_5 m, mr_34_0_6 m, mr_34_0_7 m, mr_34_0_8 m, mr_34_0_9 m, mr_34_0_10 m, mr_34_0_11 m, mr_34_0_12 m, mr_34_0_13 m⟩, ⟨ml_50_0 m, ml_51_0 m, ml_52_0 m, ml_53_0 m, ml_54_0 m, ml_55_0 m, ml_56_0 m, ml_57_0 m, ml_58_0 m, ml_59_0 m⟩, 0, by decide, hR0_2_s h 0⟩
set_option maxRecDepth 20000 in
theorem sch_133S (g : G0) {b : Nat → Int32} {e : Nat} {Z : Hp} {h c : Hp} {te : Nat} {nm sg nu : Int32} {W M N : Nat → Int32} {w d : Int32} (he : e ≤ 300) (hM : SM h) (r4 : ∀ i, i < e → mb h i = b i) (cs : CS c b 0 0 0 te 0 0 nm sg nu W M N [] []) (hZ : Z = rLp e 301 0 c) (e5 : vi h (32, 0) 5 = nI 40) : V g kfX14_scheme 54 0 0 133 [(4, pR (34, 0)), (0, pR (32, 0)), (1, pI w), (2, pI d), (3, pI (nI e))] [] (scA h e) (QSs b e Z (scA h e)) (ES g (QSs b e Z (scA h e))) := by
  have hMA : SM (scA h e) := hM
  have e5A : vi (scA h e) (32, 0) 5 = nI 40 := (scA_5 h e).trans e5
  have mr := M_reads_s (d := 0) (k := 0) g he hMA (SKs_of hMA) (scA_11 h e) (scA_12 h e) (fun i hi => (scA_mb h e i).trans (r4 i hi)) cs hZ (by omega)
  refine v_aload_n dX14_scheme_133 rfl ?_
  refine v_aload dX14_scheme_134 rfl ?_
  refine v_invV 0 0 (mr) dX14_scheme_136 cwX14_reads mlX14_286 (ob_32 _) rfl rfl (by omega) (by decide) (Nat.le_of_ble_eq_true rfl) (Nat.le_of_ble_eq_true rfl) (Nat.le_of_ble_eq_true rfl) (fun rv h5 q2 => ?_) (fun a1 h5 q2 => ⟨by decide, by obtain ⟨rfl, -, -⟩ := q2; exact ⟨by decide, _, _, rfl, rfl, rfl⟩, by obtain ⟨rfl, E2, x2⟩ := q2; exact sch_catch g (SM_E E2 (fun _ => rfl) (fun _ => rfl) (fun _ => rfl) hMA) (Or.inl ⟨rfl, _, ⟨rfl, E2, x2⟩, rfl⟩)⟩)
  obtain ⟨rfl, E5, n5, cp5, q5, rl5, te5, nm5, sg5, nu5, W5, M5, N5, cd5, r5, x5⟩ := q2
  have hM5 := r5.1
  have e55 : vi h5 (32, 0) 5 = nI 40 := (E5.2.2.2.2 32 0 5 rfl).trans e5A
  refine v_goto 169 dX14_scheme_139 (by decide) ?_
  refine v_aload_n dX14_scheme_169 rfl ?_
  refine v_getI fl_X14_283 dX14_scheme_170 rfl rfl (Nat.le_of_ble_eq_true rfl) (mh_32_0 hM5) ?_
  rw [e55]
  refine v_bipush (40) dX14_scheme_173 (by decide) ?_
  refine v_icmp_ne 184 dX14_scheme_175 (by decide) (fun z => absurd rfl z) (fun _ => ?_)
  refine v_aload_n dX14_scheme_178 rfl ?_
  refine v_iconst (3) dX14_scheme_179 (by decide) ?_
  refine v_invVE (M_refused g h5 hM5) dX14_scheme_180 cwX14_refused mlX14_121 (ob_32 _) rfl rfl (by decide) (by decide) (Nat.le_of_ble_eq_true rfl) ?_
  refine v_ireturn dX14_scheme_183 rfl rfl ?_
  exact Or.inr ⟨rfl, h5, ⟨rfl, E5, n5, cp5, q5, rl5, te5, nm5, sg5, nu5, W5, M5, N5, cd5, r5, x5⟩, rfl⟩
set_option maxRecDepth 20000 in
theorem sch_64S (g : G0) {b : Nat → Int32} {e : Nat} {Z : Hp} {h c : Hp} {te : Nat} {nm sg nu : Int32} {W M N : Nat → Int32} {w d : Int32} (he : e ≤ 300) (hM : SM h) (r4 : ∀ i, i < e → mb h i = b i) (cs : CS c b 0 0 0 te 0 0 nm sg nu W M N [] []) (hZ : Z = rLp e 301 0 c) (e5 : vi h (32, 0) 5 = nI 40) : V g kfX14_scheme 54 0 0 64 [(0, pR (32, 0)), (1, pI w), (2, pI d), (3, pI (nI e))] [] (scA h e) (QSs b e Z (scA h e)) (ES g (QSs b e Z (scA h e))) := by
  have e5A : vi (scA h e) (32, 0) 5 = nI 40 := (scA_5 h e).trans e5
  refine v_aload_n dX14_scheme_64 rfl ?_
  refine v_getI fl_X14_283 dX14_scheme_65 rfl rfl (Nat.le_of_ble_eq_true rfl) (mh_32_0 hM) ?_
  rw [e5A]
  refine v_bipush (40) dX14_scheme_68 (by decide) ?_
  refine v_icmp_ne 80 dX14_scheme_70 (by decide) (fun z => absurd rfl z) (fun _ => ?_)
  refine v_aload_n dX14_scheme_73 rfl ?_
  refine v_getR (some (34, 0)) fl_X14_20 dX14_scheme_74 rfl rfl (Nat.le_of_ble_eq_true rfl) (mh_32_0 hM) (mr_32_0_7 hM) ?_
  refine v_goto 111 dX14_scheme_77 (by decide) ?_
  refine v_astore dX14_scheme_111 (by decide) ?_
  refine v_aload_n dX14_scheme_113 rfl ?_
  refine v_getI fl_X14_283 dX14_scheme_114 rfl rfl (Nat.le_of_ble_eq_true rfl) (mh_32_0 hM) ?_
  rw [e5A]
  refine v_bipush (40) dX14_scheme_117 (by decide) ?_
  refine v_icmp_ge 133 dX14_scheme_119 (by decide) (fun _ => ?_) (fun z => absurd (show (40 : Int32) ≤ nI 40 by decide) z)
  exact sch_133S g he hM r4 cs hZ e5
