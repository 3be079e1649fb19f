/-! the reference's scheme, from the reading on -/
def cthH (h : Hp) : Hp := sI (sI (sI h (32, 0) 3 (vi h (35, 0) 6)) (32, 0) 1 4) (32, 0) 2 (vi h (35, 0) 7)
def dnH (h : Hp) (k : Nat) (w d : Int32) (n : Nat) : Hp := mT (sI (sI (sI h (33, k) 0 w) (33, k) 1 d) (32, 0) 5 (nI (n + 1))) 0
def QS (b : Nat → Int32) (e : Nat) (Z : Hp) (k : Nat) (hB : Hp) (w d : Int32) (n : Nat) : Option PV → Hp → Prop := fun r hf => (r = some (pI (-1)) ∧ ∃ h', PXr k Z hB (35, 0) h' ∧ hf = cthH h') ∨ (r = some (pI (nI n)) ∧ ∃ h', PQR b e Z k hB none h' ∧ hf = dnH h' k w d n)
def ES (g : G0) (Q : Option PV → Hp → Prop) : EP := fun pc L a h' => (133 ≤ pc ∧ pc < 139) ∧ (a.1 < 64 ∧ ∃ ci q, pk a.1 = .inl ci ∧ vwCl[ci]? = some q ∧ q.1 = "AlmsHouseModel$Stop") ∧ V g kfX14_scheme 54 0 0 142 L [pR a] h' Q noE
set_option maxRecDepth 20000 in
theorem sch_catch (g : G0) {e : Nat} {w d : Int32} {a4 : Ad} {h : Hp} {Q : Option PV → Hp → Prop} (hM : SM h) (hq : Q (some (pI (-1))) (cthH h)) : V g kfX14_scheme 54 0 0 142 [(4, pR a4), (0, pR (32, 0)), (1, pI w), (2, pI d), (3, pI (nI e))] [pR (35, 0)] h Q noE := by
  refine v_astore dX14_scheme_142 (by decide) ?_
  refine v_aload_n dX14_scheme_144 rfl ?_
  refine v_aload dX14_scheme_145 rfl ?_
  refine v_getI fl_X14_128 dX14_scheme_147 rfl rfl (Nat.le_of_ble_eq_true rfl) (mh_35_0 hM) ?_
  refine v_putI fl_X14_280 (fun z => by cases z) dX14_scheme_150 rfl rfl (Nat.le_of_ble_eq_true rfl) rfl rfl (mh_32_0 hM) ?_
  refine v_aload_n dX14_scheme_153 rfl ?_
  refine v_iconst (4) dX14_scheme_154 (by decide) ?_
  refine v_putI fl_X14_115 (fun z => by cases z) dX14_scheme_155 rfl rfl (Nat.le_of_ble_eq_true rfl) rfl rfl (mh_32_0 hM) ?_
  refine v_aload_n dX14_scheme_158 rfl ?_
  refine v_aload dX14_scheme_159 rfl ?_
  refine v_getI fl_X14_134 dX14_scheme_161 rfl rfl (Nat.le_of_ble_eq_true rfl) (mh_35_0 hM) ?_
  rw [vi_sI_ne _ _ _ _ (fun z => (by cases z)), vi_sI_ne _ _ _ _ (fun z => (by cases z))]
  refine v_putI fl_X14_9 (fun z => by cases z) dX14_scheme_164 rfl rfl (Nat.le_of_ble_eq_true rfl) rfl rfl (mh_32_0 hM) ?_
  refine v_iconst (-1) dX14_scheme_167 (by decide) ?_
  refine v_ireturn dX14_scheme_168 rfl rfl ?_
  exact hq
set_option maxRecDepth 20000 in
theorem sch_133 (g : G0) {b : Nat → Int32} {e : Nat} {Z : Hp} {k n : Nat} {hB c : Hp} {te : Nat} {nm sg nu : Int32} {W M N : Nat → Int32} {w d : Int32} (he : e ≤ 300) (hM : SM hB) (hK : SK hB k) (r3 : vi hB (32, 0) 11 = nI e) (h12 : vi hB (32, 0) 12 = nI 0) (r4 : ∀ i, i < e → mb hB i = b i) (cs : CS c b 0 0 0 te 0 0 nm sg nu W M N [] []) (hZ : Z = rLp e 301 0 c) (e5 : vi hB (32, 0) 5 = nI n) (hn : n < 40) : V g kfX14_scheme 54 0 0 133 [(4, pR (33, k)), (0, pR (32, 0)), (1, pI w), (2, pI d), (3, pI (nI e))] [] hB (QS b e Z k hB w d n) (ES g (QS b e Z k hB w d n)) := by
  have mr := M_reads (d := 0) g he hM (hR0_SK hK) r3 h12 r4 cs hZ (by omega)
  refine v_aload_n dX14_scheme_133 rfl ?_
  refine v_aload dX14_scheme_134 rfl ?_
  refine v_invV 0 0 (mr) dX14_scheme_136 cwX14_reads mlX14_286 (ob_32 _) rfl rfl (by omega) (by decide) (Nat.le_of_ble_eq_true rfl) (Nat.le_of_ble_eq_true rfl) (Nat.le_of_ble_eq_true rfl) (fun rv h5 q2 => ?_) (fun a1 h5 q2 => ⟨by decide, by obtain ⟨rfl, -, -⟩ := q2; exact ⟨by decide, _, _, rfl, rfl, rfl⟩, by obtain ⟨rfl, E2, x2⟩ := q2; exact sch_catch g (SM_E E2 (fun _ => rfl) (fun _ => rfl) (fun _ => rfl) hM) (Or.inl ⟨rfl, _, ⟨rfl, E2, x2⟩, rfl⟩)⟩)
  obtain ⟨rfl, E5, n5, cp5, q5, rl5, te5, nm5, sg5, nu5, W5, M5, N5, cd5, r5, x5⟩ := q2
  have hM5 := r5.1
  have e55 : vi h5 (32, 0) 5 = nI n := (E5.2.2.2.2 32 0 5 rfl).trans e5
  refine v_goto 169 dX14_scheme_139 (by decide) ?_
  refine v_aload_n dX14_scheme_169 rfl ?_
  refine v_getI fl_X14_283 dX14_scheme_170 rfl rfl (Nat.le_of_ble_eq_true rfl) (mh_32_0 hM5) ?_
  rw [e55]
  refine v_bipush (40) dX14_scheme_173 (by decide) ?_
  refine v_icmp_ne 184 dX14_scheme_175 (by decide) (fun _ => ?_) (fun z => absurd z (fun z => absurd ((nI_eq (b := 40) (by omega) (by decide)).mp z) (by omega)))
  refine v_aload dX14_scheme_184 rfl ?_
  refine v_iload_n dX14_scheme_186 rfl ?_
  refine v_putI fl_X14_289 (fun z => by cases z) dX14_scheme_187 rfl rfl (Nat.le_of_ble_eq_true rfl) rfl rfl r5.2.1.1 ?_
  refine v_aload dX14_scheme_190 rfl ?_
  refine v_iload_n dX14_scheme_192 rfl ?_
  refine v_putI fl_X14_292 (fun z => by cases z) dX14_scheme_193 rfl rfl (Nat.le_of_ble_eq_true rfl) rfl rfl r5.2.1.1 ?_
  refine v_aload_n dX14_scheme_196 rfl ?_
  refine v_dup dX14_scheme_197 rfl ?_
  refine v_getI fl_X14_283 dX14_scheme_198 rfl rfl (Nat.le_of_ble_eq_true rfl) (mh_32_0 hM5) ?_
  rw [vi_sI_ne _ _ _ _ (fun z => (by cases z)), vi_sI_ne _ _ _ _ (fun z => (by cases z)), e55]
  refine v_iconst (1) dX14_scheme_201 (by decide) ?_
  refine v_iadd dX14_scheme_202 ?_
  rw [nI_s]
  refine v_putI fl_X14_283 (fun z => by cases z) dX14_scheme_203 rfl rfl (Nat.le_of_ble_eq_true rfl) rfl rfl (mh_32_0 hM5) ?_
  refine v_aload_n dX14_scheme_206 rfl ?_
  refine v_aload_n dX14_scheme_207 rfl ?_
  refine v_getI fl_X14_283 dX14_scheme_208 rfl rfl (Nat.le_of_ble_eq_true rfl) (mh_32_0 hM5) ?_
  rw [vi_sI_eq]
  refine v_iconst (1) dX14_scheme_211 (by decide) ?_
  refine v_isub dX14_scheme_212 ?_
  rw [nI_dec]
  refine v_invVE (M_done g (sI (sI (sI h5 (33, k) 0 w) (33, k) 1 d) (32, 0) 5 (nI (n + 1))) hM5) dX14_scheme_213 cwX14_done mlX14_125 (ob_32 _) rfl rfl (by decide) (by decide) (Nat.le_of_ble_eq_true rfl) ?_
  refine v_ireturn dX14_scheme_216 rfl rfl ?_
  exact Or.inr ⟨rfl, h5, ⟨rfl, E5, n5, cp5, q5, rl5, te5, nm5, sg5, nu5, W5, M5, N5, cd5, r5, x5⟩, rfl⟩
