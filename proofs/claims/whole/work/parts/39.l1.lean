/-- the lists' own arrays are told apart -/
def LD (h : Hp) : Prop := (∀ j e, j < 5 → vr h (7, j) 1 = some (16, e) → e < cn h 16) ∧ ∀ j j' e, j < 5 → j' < 5 → vr h (7, j) 1 = some (16, e) → vr h (7, j') 1 = some (16, e) → j = j'
theorem AL_add {h h' : Hp} {j j' q n : Nat} (hA : AL h j' q n) (hj : j' ≠ j) (hd : ∀ e, vr h (7, j') 1 = some (16, e) → vr h (7, j) 1 ≠ some (16, e)) (f : AddF h h' j) : AL h' j' q n := by
  obtain ⟨f1, f2, f3, f4, f5, f6, f7, f8⟩ := f
  have n7 : ((7, j') : Ad) ≠ (7, j) := fun z => hj (by cases z; rfl)
  have ev : vr h' (7, j') 1 = vr h (7, j') 1 := f6 _ _ (by show (7 : Nat) ≠ 16; decide) n7
  refine ⟨by rw [f4 _ _ n7 (by show (7 : Nat) ≠ 16; decide)]; exact hA.1, hA.2.1, ?_⟩
  rcases hA.2.2 with ⟨z, e⟩ | ⟨e, z1, z2, z3, z4, z5, z6⟩
  · exact Or.inl ⟨z, by rw [ev]; exact e⟩
  · have el : ln h' (16, e) = ln h (16, e) := f3 _ (Or.inr z2)
    exact Or.inr ⟨e, by rw [ev]; exact z1, by omega, by rw [el]; exact z3, by rw [el]; exact z4, by rw [el]; exact z5, fun i hi => by rw [f7 e z2 (hd e z1)]; exact z6 i hi⟩
theorem LD_add {h h' : Hp} {j q n : Nat} (d : LD h) (f : AddF h h' j) (hA : AL h' j q (n + 1)) : LD h' := by
  obtain ⟨f1, f2, f3, f4, f5, f6, f7, f8⟩ := f
  have ev : ∀ i, i ≠ j → vr h' (7, i) 1 = vr h (7, i) 1 := fun i hi => f6 _ _ (by show (7 : Nat) ≠ 16; decide) (fun z => hi (by cases z; rfl))
  obtain ⟨e0, a0, b0⟩ : ∃ e0, vr h' (7, j) 1 = some (16, e0) ∧ e0 < cn h' 16 := by
    rcases hA.2.2 with ⟨z, -⟩ | ⟨e, z1, z2, -⟩
    · omega
    · exact ⟨e, z1, z2⟩
  refine ⟨fun i e hi he => ?_, fun i i' e hi hi' he he' => ?_⟩
  · by_cases c : i = j
    · subst c
      rw [a0] at he; cases he; exact b0
    · rw [ev i c] at he
      have := d.1 i e hi he
      omega
  · by_cases c : i = j
    · by_cases c' : i' = j
      · rw [c, c']
      · subst c
        rw [ev i' c'] at he'
        rcases f8 e he with z | z
        · have := d.1 i' e hi' he'
          omega
        · exact d.2 i i' e hi hi' z he'
    · by_cases c' : i' = j
      · subst c'
        rw [ev i c] at he
        rcases f8 e he' with z | z
        · have := d.1 i e hi he
          omega
        · exact d.2 i i' e hi hi' he z
      · rw [ev i c] at he
        rw [ev i' c'] at he'
        exact d.2 i i' e hi hi' he he'
theorem LDsI {h : Hp} (d : LD h) {a : Ad} {k : Nat} {x : Int32} : LD (sI h a k x) := d
theorem LDsIs {h : Hp} (d : LD h) {a : Ad} {f : Nat → Int32} : LD (sIs h a f) := d
theorem LDsL {h : Hp} (d : LD h) {a : Ad} {k : Nat} {x : Int64} : LD (sL h a k x) := d
theorem LDsR {h : Hp} (d : LD h) {a : Ad} {k : Nat} {v : Option Ad} (h7 : a.1 ≠ 7) : LD (sR h a k v) := by
  have e : ∀ j, vr (sR h a k v) (7, j) 1 = vr h (7, j) 1 := fun j => by rw [vr_sR, if_neg (fun z => h7 (by rw [← z.1]))]
  exact ⟨fun j x hj hx => d.1 j x hj (by rw [← e j]; exact hx), fun j j' x hj hj' hx hx' => d.2 j j' x hj hj' (by rw [← e j]; exact hx) (by rw [← e j']; exact hx')⟩
theorem LDsRs {h : Hp} (d : LD h) {a : Ad} {f : Nat → Option Ad} (h7 : a.1 ≠ 7) : LD (sRs h a f) := by
  have e : ∀ j, vr (sRs h a f) (7, j) 1 = vr h (7, j) 1 := fun j => by rw [vr_sRs, if_neg (fun z => h7 (by rw [← z]))]
  exact ⟨fun j x hj hx => d.1 j x hj (by rw [← e j]; exact hx), fun j j' x hj hj' hx hx' => d.2 j j' x hj hj' (by rw [← e j]; exact hx) (by rw [← e j']; exact hx')⟩
theorem LDnw {h : Hp} (d : LD h) {p n : Nat} (h7 : p ≠ 7) (h16 : p ≠ 16) : LD (nw h p n) := by
  have e : ∀ j, vr (nw h p n) (7, j) 1 = vr h (7, j) 1 := fun j => by rw [vr_nw, if_neg (fun z => h7 (by cases z; rfl))]
  have c : cn (nw h p n) 16 = cn h 16 := by rw [cn_nw, if_neg (Ne.symm h16)]
  exact ⟨fun j x hj hx => by rw [c]; exact d.1 j x hj (by rw [← e j]; exact hx), fun j j' x hj hj' hx hx' => d.2 j j' x hj hj' (by rw [← e j]; exact hx) (by rw [← e j']; exact hx')⟩
theorem AL_sIs {h : Hp} {j q n : Nat} (hA : AL h j q n) {a : Ad} {f : Nat → Int32} (ha : a.1 ≠ 7) : AL (sIs h a f) j q n :=
  ⟨by rw [vi_sIs, if_neg (fun z => ha (by rw [← z]))]; exact hA.1, hA.2⟩
/-- a Change made -/
def ci6 (h : Hp) (i : Nat) (s w d t m : Int32) (o : Option Ad) : Hp := sR (sI (sI (sI (sI (sI h (8, i) 0 s) (8, i) 1 w) (8, i) 2 d) (8, i) 3 t) (8, i) 4 m) (8, i) 5 o
set_option maxRecDepth 20000 in
theorem m_Change_init (g : G0) (h : Hp) {i : Nat} (hi : i < cn h 8) {s w d t m : Int32} {o : Option Ad} : Mx g yX0_init wX0_init 1 [pR (8, i), pI s, pI w, pI d, pI t, pI m, pO o] h 0 0 (qE none (ci6 h i s w d t m o)) noX := by
  refine Mx.by kfX0_init rfl (by decide) (Nat.le_of_ble_eq_true rfl) ?_
  refine v_aload_n dX0_init_0 rfl ?_
  refine v_obj dX0_init_1 moX0_3 obj_i obj_c (by intro z; cases z) (by decide) (Nat.le_of_ble_eq_true rfl) ?_
  refine v_aload_n dX0_init_4 rfl ?_
  refine v_iload_n dX0_init_5 rfl ?_
  refine v_putI fl_X0_9 (fun _ => ⟨rfl, rfl, _, rfl, rfl⟩) dX0_init_6 rfl rfl (Nat.le_of_ble_eq_true rfl) rfl rfl hi ?_
  refine v_aload_n dX0_init_9 rfl ?_
  refine v_iload_n dX0_init_10 rfl ?_
  refine v_putI fl_X0_15 (fun _ => ⟨rfl, rfl, _, rfl, rfl⟩) dX0_init_11 rfl rfl (Nat.le_of_ble_eq_true rfl) rfl rfl hi ?_
  refine v_aload_n dX0_init_14 rfl ?_
  refine v_iload_n dX0_init_15 rfl ?_
  refine v_putI fl_X0_18 (fun _ => ⟨rfl, rfl, _, rfl, rfl⟩) dX0_init_16 rfl rfl (Nat.le_of_ble_eq_true rfl) rfl rfl hi ?_
  refine v_aload_n dX0_init_19 rfl ?_
  refine v_iload dX0_init_20 rfl ?_
  refine v_putI fl_X0_21 (fun _ => ⟨rfl, rfl, _, rfl, rfl⟩) dX0_init_22 rfl rfl (Nat.le_of_ble_eq_true rfl) rfl rfl hi ?_
  refine v_aload_n dX0_init_25 rfl ?_
  refine v_iload dX0_init_26 rfl ?_
  refine v_putI fl_X0_24 (fun _ => ⟨rfl, rfl, _, rfl, rfl⟩) dX0_init_28 rfl rfl (Nat.le_of_ble_eq_true rfl) rfl rfl hi ?_
  refine v_aload_n dX0_init_31 rfl ?_
  refine v_aload dX0_init_32 rfl ?_
  refine v_putR fl_X0_27 (fun _ => ⟨rfl, rfl, _, rfl, rfl⟩) dX0_init_34 rfl rfl (Nat.le_of_ble_eq_true rfl) rfl hi ?_
  refine v_return dX0_init_37 rfl ?_
  exact ⟨rfl, rfl⟩
