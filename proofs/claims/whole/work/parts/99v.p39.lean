/-! keeping the changes -/
def fKp : Fpt := (fun p => !(p == 16) && !(p == 8) && !(p == 17), fun p => !(p == 16) && !(p == 8) && !(p == 17), fun p => !(p == 16) && !(p == 7) && !(p == 8) && !(p == 17), fun p => !(p == 16) && !(p == 8) && !(p == 17), fun p _ _ => !(p == 16) && !(p == 7) && !(p == 8) && !(p == 17))
def K1 (h0 hk : Hp) (y f t : Nat) (s w d a b : Int32) : Prop := vi hk (8, y) 0 = s ∧ vi hk (8, y) 1 = w ∧ vi hk (8, y) 2 = d ∧ vi hk (8, y) 3 = a ∧ vi hk (8, y) 4 = b ∧ vr hk (8, y) 5 = some (17, y) ∧ ln hk (17, y) = t - f ∧ ∀ i, i < t - f → vi hk (17, y) i = vi h0 (13, 1) (f + i)
def KO (h0 hk : Hp) (y : Nat) : Prop := (∀ f, vi hk (8, y) f = vi h0 (8, y) f) ∧ vr hk (8, y) 5 = vr h0 (8, y) 5 ∧ (∀ f, vi hk (17, y) f = vi h0 (17, y) f) ∧ ln hk (17, y) = ln h0 (17, y)
def KP (h0 : Hp) (C : Nat) (T : Nat → Nat) (s w d : Int32) (wh nu : Nat → Int32) (i : Nat) (hk : Hp) : Prop := SX hk ∧ LD hk ∧ (AL hk 0 8 (C + i) ∧ AL hk 1 9 (cn h0 9) ∧ AL hk 2 10 (cn h0 10) ∧ AL hk 3 11 (cn h0 11) ∧ AL hk 4 12 (cn h0 12)) ∧ Eqv fKp h0 hk ∧ cn hk 8 = C + i ∧ cn hk 17 = C + i ∧ (∀ y, y < C → KO h0 hk y) ∧ ∀ x, x < i → K1 h0 hk (C + x) (fromT T x) (T x) s w d (wh x) (nu x)
theorem kc3_17c (hk : Hp) : cn (nw hk 8 0) 17 = cn hk 17 := by rw [cn_nw, if_neg (by decide)]
theorem kc3_8 (hk : Hp) (f t : Nat) (s w d a b : Int32) {y : Nat} (hy : y ≠ cn hk 8) (k : Nat) : vi (kc3 hk f t s w d a b) (8, y) k = vi hk (8, y) k := by
  have n : ((8, y) : Ad) ≠ (8, cn hk 8) := fun z => hy (congrArg Prod.snd z)
  have m : ∀ z : Nat, ((8, y) : Ad) ≠ (17, z) := fun z e => by cases e
  unfold kc3 ci6 kc2 cpH
  rw [vi_sR, vi_sI_ne _ _ _ _ n, vi_sI_ne _ _ _ _ n, vi_sI_ne _ _ _ _ n, vi_sI_ne _ _ _ _ n, vi_sI_ne _ _ _ _ n, vi_sIs, if_neg (m _), vi_nw, if_neg (m _), vi_nw, if_neg n]
theorem kc3_8r (hk : Hp) (f t : Nat) (s w d a b : Int32) {y : Nat} (hy : y ≠ cn hk 8) (k : Nat) : vr (kc3 hk f t s w d a b) (8, y) k = vr hk (8, y) k := by
  have n : ((8, y) : Ad) ≠ (8, cn hk 8) := fun z => hy (congrArg Prod.snd z)
  have m : ∀ z : Nat, ((8, y) : Ad) ≠ (17, z) := fun z e => by cases e
  unfold kc3 ci6 kc2 cpH
  rw [vr_sR, if_neg (fun z => n z.1), vr_sI, vr_sI, vr_sI, vr_sI, vr_sI, vr_sIs, vr_nw, if_neg (m _), vr_nw, if_neg n]
theorem kc3_17 (hk : Hp) (f t : Nat) (s w d a b : Int32) {y : Nat} (hy : y ≠ cn hk 17) (k : Nat) : vi (kc3 hk f t s w d a b) (17, y) k = vi hk (17, y) k := by
  have n : ((17, y) : Ad) ≠ (17, cn (nw hk 8 0) 17) := fun z => hy (by rw [← kc3_17c hk]; exact congrArg Prod.snd z)
  have m : ∀ z : Nat, ((17, y) : Ad) ≠ (8, z) := fun z e => by cases e
  unfold kc3 ci6 kc2 cpH
  rw [vi_sR, vi_sI_ne _ _ _ _ (m _), vi_sI_ne _ _ _ _ (m _), vi_sI_ne _ _ _ _ (m _), vi_sI_ne _ _ _ _ (m _), vi_sI_ne _ _ _ _ (m _), vi_sIs, if_neg n, vi_nw, if_neg n, vi_nw, if_neg (m _)]
theorem kc3_l (hk : Hp) (f t : Nat) (s w d a b : Int32) (y : Nat) : ln (kc3 hk f t s w d a b) (17, y) = if y = cn hk 17 then t - f else ln hk (17, y) := by
  have m : ∀ z : Nat, ((17, y) : Ad) ≠ (8, z) := fun z e => by cases e
  unfold kc3 ci6 kc2 cpH
  rw [ln_sR, ln_sI, ln_sI, ln_sI, ln_sI, ln_sI, ln_sIs, ln_nw, kc3_17c]
  by_cases z : y = cn hk 17
  · rw [if_pos z, if_pos (by rw [z])]
  · rw [if_neg z, if_neg (fun e => z (congrArg Prod.snd e)), ln_nw, if_neg (m _)]
theorem kc3_c (hk : Hp) (f t : Nat) (s w d a b : Int32) : vi (kc3 hk f t s w d a b) (17, cn hk 17) = cpy (vi (nw (nw hk 8 0) 17 (t - f)) (13, 1)) (vi (nw (nw hk 8 0) 17 (t - f)) (17, cn (nw hk 8 0) 17)) f 0 (t - f) := by
  have m : ∀ z : Nat, ((17, cn hk 17) : Ad) ≠ (8, z) := fun z e => by cases e
  funext k
  unfold kc3 ci6 kc2 cpH
  rw [vi_sR, vi_sI_ne _ _ _ _ (m _), vi_sI_ne _ _ _ _ (m _), vi_sI_ne _ _ _ _ (m _), vi_sI_ne _ _ _ _ (m _), vi_sI_ne _ _ _ _ (m _), vi_sIs, kc3_17c, if_pos rfl]
theorem kc3_v (hk : Hp) (f t : Nat) (s w d a b : Int32) {i : Nat} (hi : i < t - f) : vi (kc3 hk f t s w d a b) (17, cn hk 17) i = vi hk (13, 1) (f + i) := by
  rw [kc3_c]
  show (if 0 ≤ i ∧ i < 0 + (t - f) then vi (nw (nw hk 8 0) 17 (t - f)) (13, 1) (f + (i - 0)) else _) = _
  rw [if_pos ⟨Nat.zero_le _, by omega⟩, vi_nw, if_neg (fun z => (by cases z)), vi_nw, if_neg (fun z => (by cases z)), Nat.sub_zero]
theorem kc3_cn (hk : Hp) (f t : Nat) (s w d a b : Int32) (p : Nat) : cn (kc3 hk f t s w d a b) p = if p = 17 then cn hk 17 + 1 else if p = 8 then cn hk 8 + 1 else cn hk p := by
  unfold kc3 ci6 kc2 cpH
  rw [cn_sR, cn_sI, cn_sI, cn_sI, cn_sI, cn_sI, cn_sIs, cn_nw]
  by_cases z : p = 17
  · subst z; rw [if_pos rfl, if_pos rfl, kc3_17c]
  · rw [if_neg z, if_neg z, cn_nw]
theorem kc3_E (hk : Hp) (f t : Nat) (s w d a b : Int32) : Eqv fKp hk (kc3 hk f t s w d a b) := (Eqv.sR (Eqv.sI (Eqv.sI (Eqv.sI (Eqv.sI (Eqv.sI (Eqv.sIs (Eqv.nw (Eqv.nw (Eqv.rf _) Bool.false_ne_true Bool.false_ne_true Bool.false_ne_true Bool.false_ne_true (fun _ _ => Bool.false_ne_true)) Bool.false_ne_true Bool.false_ne_true Bool.false_ne_true Bool.false_ne_true (fun _ _ => Bool.false_ne_true)) (fun _ => Bool.false_ne_true)) Bool.false_ne_true) Bool.false_ne_true) Bool.false_ne_true) Bool.false_ne_true) Bool.false_ne_true) Bool.false_ne_true)
theorem kc3_LD (hk : Hp) (f t : Nat) (s w d a b : Int32) (x : LD hk) : LD (kc3 hk f t s w d a b) := LDsR (LDsI (LDsI (LDsI (LDsI (LDsI (LDsIs (LDnw (LDnw x (by decide) (by decide)) (by decide) (by decide)))))))) (fun z => by cases z)
theorem kc3_80 (hk : Hp) (f t : Nat) (s w d a b : Int32) : vi (kc3 hk f t s w d a b) (8, cn hk 8) 0 = s := by unfold kc3 ci6; rw [vi_sR, vi_sI_nk _ _ _ (by decide), vi_sI_nk _ _ _ (by decide), vi_sI_nk _ _ _ (by decide), vi_sI_nk _ _ _ (by decide), vi_sI_eq]
theorem kc3_81 (hk : Hp) (f t : Nat) (s w d a b : Int32) : vi (kc3 hk f t s w d a b) (8, cn hk 8) 1 = w := by unfold kc3 ci6; rw [vi_sR, vi_sI_nk _ _ _ (by decide), vi_sI_nk _ _ _ (by decide), vi_sI_nk _ _ _ (by decide), vi_sI_eq]
theorem kc3_82 (hk : Hp) (f t : Nat) (s w d a b : Int32) : vi (kc3 hk f t s w d a b) (8, cn hk 8) 2 = d := by unfold kc3 ci6; rw [vi_sR, vi_sI_nk _ _ _ (by decide), vi_sI_nk _ _ _ (by decide), vi_sI_eq]
theorem kc3_83 (hk : Hp) (f t : Nat) (s w d a b : Int32) : vi (kc3 hk f t s w d a b) (8, cn hk 8) 3 = a := by unfold kc3 ci6; rw [vi_sR, vi_sI_nk _ _ _ (by decide), vi_sI_eq]
theorem kc3_84 (hk : Hp) (f t : Nat) (s w d a b : Int32) : vi (kc3 hk f t s w d a b) (8, cn hk 8) 4 = b := by unfold kc3 ci6; rw [vi_sR, vi_sI_eq]
theorem kc3_85 (hk : Hp) (f t : Nat) (s w d a b : Int32) : vr (kc3 hk f t s w d a b) (8, cn hk 8) 5 = some (17, cn hk 17) := by unfold kc3 ci6; rw [vr_sR, if_pos ⟨rfl, rfl⟩, kc3_17c]
theorem KP_step {h0 hk h' : Hp} {C : Nat} {T : Nat → Nat} {s w d : Int32} {wh nu : Nat → Int32} {k : Nat} (j : KP h0 C T s w d wh nu k hk) (f : AddF (kc3 hk (fromT T k) (T k) s w d (wh k) (nu k)) h' 0) (hA : AL h' 0 8 (cn hk 8 + 1)) : KP h0 C T s w d wh nu (k + 1) h' := by
  obtain ⟨j1, j2, ⟨l0, l1, l2, l3, l4⟩, j4, j5, j6, j7, j8⟩ := j
  have ld := kc3_LD hk (fromT T k) (T k) s w d (wh k) (nu k) j2
  have e3 := kc3_E hk (fromT T k) (T k) s w d (wh k) (nu k)
  have c17 : cn h' 17 = C + (k + 1) := by rw [f.1 17 (by decide), kc3_cn, if_pos rfl, j6]; rfl
  have c8 : cn h' 8 = C + (k + 1) := by rw [f.1 8 (by decide), kc3_cn, if_neg (by decide), if_pos rfl, j5]; rfl
  have e13 : ∀ i, vi hk (13, 1) i = vi h0 (13, 1) i := fun i => j4.2.2.2.2 13 1 i rfl
  have v8 : ∀ y i, vi h' (8, y) i = vi (kc3 hk (fromT T k) (T k) s w d (wh k) (nu k)) (8, y) i := fun y i => f.vi7 (by decide) (by decide)
  have v17 : ∀ y i, vi h' (17, y) i = vi (kc3 hk (fromT T k) (T k) s w d (wh k) (nu k)) (17, y) i := fun y i => f.vi7 (by decide) (by decide)
  have r8 : ∀ y i, vr h' (8, y) i = vr (kc3 hk (fromT T k) (T k) s w d (wh k) (nu k)) (8, y) i := fun y i => f.vr7 (by decide) (by decide)
  have n17 : ∀ y, ln h' (17, y) = ln (kc3 hk (fromT T k) (T k) s w d (wh k) (nu k)) (17, y) := fun y => f.2.2.1 (17, y) (Or.inl (show (17 : Nat) ≠ 16 by decide))
  refine ⟨SX_add f (SXk3 j1 _ _ _ _ _ _ _), LD_add ld f hA, ⟨by rw [← Nat.add_assoc, ← j5]; exact hA, ALs_add ld f (by decide) (by decide) (by decide) (ALk3 l1 _ _ _ _ _ _ _), ALs_add ld f (by decide) (by decide) (by decide) (ALk3 l2 _ _ _ _ _ _ _), ALs_add ld f (by decide) (by decide) (by decide) (ALk3 l3 _ _ _ _ _ _ _), ALs_add ld f (by decide) (by decide) (by decide) (ALk3 l4 _ _ _ _ _ _ _)⟩, j4.tr (Eqv.add e3 f Bool.false_ne_true Bool.false_ne_true ⟨Bool.false_ne_true, Bool.false_ne_true⟩ Bool.false_ne_true (fun _ _ => Bool.false_ne_true) (fun _ _ => Bool.false_ne_true)), c8, c17, fun y hy => ?_, fun x hx => ?_⟩
  · obtain ⟨a1, a2, a3, a4⟩ := j7 y hy
    refine ⟨fun i => by rw [v8, kc3_8 _ _ _ _ _ _ _ _ (by omega)]; exact a1 i, by rw [r8, kc3_8r _ _ _ _ _ _ _ _ (by omega)]; exact a2, fun i => by rw [v17, kc3_17 _ _ _ _ _ _ _ _ (by omega)]; exact a3 i, by rw [n17, kc3_l, if_neg (by omega)]; exact a4⟩
  · by_cases z : x = k
    · subst z
      have q8 : C + x = cn hk 8 := j5.symm
      have q17 : C + x = cn hk 17 := j6.symm
      refine ⟨by rw [q8, v8, kc3_80], by rw [q8, v8, kc3_81], by rw [q8, v8, kc3_82], by rw [q8, v8, kc3_83], by rw [q8, v8, kc3_84], ?_, by rw [n17, kc3_l, if_pos q17], fun i hi => by rw [q17, v17, kc3_v _ _ _ _ _ _ _ _ hi, e13]⟩
      rw [r8]
      have e := kc3_85 hk (fromT T x) (T x) s w d (wh x) (nu x)
      rw [← q8, ← q17] at e; exact e
    · obtain ⟨a0, a1, a2, a3, a4, a5, a6, a7⟩ := j8 x (by omega)
      have y8 : C + x ≠ cn hk 8 := by omega
      have y17 : C + x ≠ cn hk 17 := by omega
      exact ⟨by rw [v8, kc3_8 _ _ _ _ _ _ _ _ y8]; exact a0, by rw [v8, kc3_8 _ _ _ _ _ _ _ _ y8]; exact a1, by rw [v8, kc3_8 _ _ _ _ _ _ _ _ y8]; exact a2, by rw [v8, kc3_8 _ _ _ _ _ _ _ _ y8]; exact a3, by rw [v8, kc3_8 _ _ _ _ _ _ _ _ y8]; exact a4, by rw [r8, kc3_8r _ _ _ _ _ _ _ _ y8]; exact a5, by rw [n17, kc3_l, if_neg y17]; exact a6, fun i hi => by rw [v17, kc3_17 _ _ _ _ _ _ _ _ y17]; exact a7 i hi⟩
def K0 (h0 : Hp) : Prop := SX h0 ∧ LD h0 ∧ (AL h0 0 8 (cn h0 8) ∧ AL h0 1 9 (cn h0 9) ∧ AL h0 2 10 (cn h0 10) ∧ AL h0 3 11 (cn h0 11) ∧ AL h0 4 12 (cn h0 12)) ∧ cn h0 17 = cn h0 8 ∧ cn h0 8 ≤ 480
theorem K0.kp {h0 : Hp} (k : K0 h0) (T : Nat → Nat) (s w d : Int32) (wh nu : Nat → Int32) : KP h0 (cn h0 8) T s w d wh nu 0 h0 := ⟨k.1, k.2.1, k.2.2.1, Eqv.rf _, rfl, k.2.2.2.1, fun _ _ => ⟨fun _ => rfl, rfl, fun _ => rfl, rfl⟩, fun x hx => absurd hx (by omega)⟩
set_option maxRecDepth 20000 in
theorem m_keep (g : G0) {h0 : Hp} (k0 : K0 h0) {c : Nat} (hc : c ≤ 12) (h5 : vi h0 (2, 0) 5 = nI c) {T : Nat → Nat} (hT : ∀ i, i < c → vi h0 (13, 5) i = nI (T i) ∧ fromT T i ≤ T i ∧ T i ≤ 299) {w d : Int32} : Mx g yX11_keepChanges wX11_keepChanges 8 [pR (0, 0), pI w, pI d] h0 (3 * c) (1806 * c) (fun r h' => r = none ∧ KP h0 (cn h0 8) T (vi h0 (0, 0) 11) w d (vi h0 (13, 3)) (vi h0 (13, 4)) c h') noX := by
  refine Mx.by kfX11_keepChanges rfl (by decide) (Nat.le_of_ble_eq_true rfl) ?_
  refine v_iconst (0) dX11_keepChanges_0 (by decide) ?_
  refine v_istore_n dX11_keepChanges_1 (by decide) ?_
  refine v_loc [(0, pR (0, 0)), (1, pI w), (2, pI d), (3, pI 0)] rfl ?_
  refine keep_loop g hc (T := T) (fun i hi => ⟨(hT i hi).2.1, by have := (hT i hi).2.2; omega⟩) (s := vi h0 (0, 0) 11) (wh := vi h0 (13, 3)) (nu := vi h0 (13, 4)) (KP h0 (cn h0 8) T (vi h0 (0, 0) 11) w d (vi h0 (13, 3)) (vi h0 (13, 4))) ?_ ?_ ?_ c 0 0 h0 (Nat.zero_add _) rfl (k0.kp T _ w d _ _)
  · intro k hk hkc j
    have e := j.2.2.2.1.2.2.2.2
    have c8 := j.2.2.2.2.1
    refine ⟨j.1, by rw [c8]; exact j.2.2.1.1, by have := k0.2.2.2.2; omega, (e 2 0 5 rfl).trans h5, e 0 0 11 rfl, fun i hi => ⟨e 13 3 i rfl, e 13 4 i rfl, (e 13 5 i rfl).trans (hT i hi).1⟩⟩
  · intro hk j
    exact ⟨j.1, (j.2.2.2.1.2.2.2.2 2 0 5 rfl).trans h5⟩
  · intro k hk h' hkc j f hA
    exact KP_step j f hA
