/-! the terms of an order -/
theorem RS_o_s {h : Hp} {k : Nat} {b : Nat → Int32} {e q dp cp : Nat} {rl : List mOp} (r : RS_s h k b e q dp cp rl) {p : Nat} (hp : p = 50 ∨ p = 51 ∨ p = 52 ∨ p = 53 ∨ p = 54 ∨ p = 58 ∨ p = 59) (i : Nat) (x : Int32) : RS_s (sI h (p, 0) i x) k b e q dp cp rl := by
  obtain ⟨r1, r2, r3, r4, r5, r6, r7, r8, r9⟩ := r
  have o : ∀ (u : Nat), ¬ u = p → ∀ (v f : Nat), vi (sI h (p, 0) i x) (u, v) f = vi h (u, v) f := fun u hu v f => vi_sI_ne _ _ _ _ (fun z => hu (congrArg Prod.fst z))
  have o32 := o 32 (by omega)
  have o33 := o 34 (by omega)
  refine ⟨r1, ?_, (o32 _ _).trans r3, fun i' hi => ?_, ?_, (o32 _ _).trans r6, (o32 _ _).trans r7, (o33 _ _).trans r8, RLs_c_s (fun _ => o 55 (by omega) _ _) (fun _ => o 56 (by omega) _ _) (fun _ => o 57 (by omega) _ _) _ r9⟩
  · obtain ⟨a1, a2, a3, a4, a5, a6⟩ := r2
    exact ⟨a1, a2, a3, a4, a5, by rw [o33]; exact a6⟩
  · rw [← r4 i' hi]; unfold mb; rw [o 37 (by omega)]
  · unfold TR; rw [o32, o32, o32, o32, o32, vl_sI]; exact r5
/-- what reading a whole scheme may change: all rows of scheme k -/
def fRw_s (k : Nat) : Fpt := (fun _ => true, fun _ => true, fun _ => true, fun p => !(p == 32), fun p i f => !(p == 32 && (Nat.ble 12 f && Nat.ble f 18)) && !(p == 35) && !(p == 34 && i == 0 && (f == 2 || f == 3)) && !(Nat.ble 50 p && Nat.blt p 60 && i == 0))
theorem fRw_k_s {k p : Nat} (hp : 50 ≤ p ∧ p < 60) (f : Nat) : ¬ (fRw_s k).2.2.2.2 p 0 f = true := by
  show ¬ ((!(p == 32 && (Nat.ble 12 f && Nat.ble f 18)) && !(p == 35) && !(p == 34 && (0 : Nat) == 0 && (f == 2 || f == 3)) && !(Nat.ble 50 p && Nat.blt p 60 && (0 : Nat) == 0)) = true)
  rw [fSRc_s hp, beq_self_eq_true]; simp
theorem o_E_s (h : Hp) (k : Nat) {p : Nat} (hp : 50 ≤ p ∧ p < 60) (i : Nat) (x : Int32) : Eqv (fRw_s k) h (sI h (p, 0) i x) := Eqv.sI (Eqv.rf _) (fRw_k_s hp _)
theorem fPs_Rw_s {k : Nat} {h h' : Hp} (e : Eqv (fPs_s k) h h') : Eqv (fRw_s k) h h' := by
  refine Eqv.sub (P := fRw_s k) (Q := fPs_s k) ⟨fun _ z => z, fun _ z => z, fun _ z => z, fun _ z => z, fun p i f z => ?_⟩ e
  have z' : (!(p == 32 && (Nat.ble 12 f && Nat.ble f 18)) && !(p == 35) && !(p == 34 && i == 0 && (f == 2 || f == 3)) && !(Nat.ble 50 p && Nat.blt p 60 && i == 0)) = true := z
  show (!(p == 32 && (Nat.ble 12 f && Nat.ble f 18)) && !(p == 35) && !(p == 34 && i == 0 && f == 3) && !(Nat.ble 55 p && Nat.blt p 58 && i == 0)) = true
  rw [Bool.and_eq_true, Bool.and_eq_true] at z' ⊢
  refine ⟨⟨z'.1.1, ?_⟩, ?_⟩
  · have y := z'.1.2
    cases h3 : (f == 3)
    · rw [Bool.and_false]; rfl
    · rw [h3, Bool.or_true] at y; exact y
  · have y := z'.2
    cases h4 : (Nat.ble 55 p && Nat.blt p 58)
    · rfl
    · rw [Bool.and_eq_true] at h4
      have l1 := Nat.le_of_ble_eq_true h4.1
      have l2 : p + 1 ≤ 58 := Nat.le_of_ble_eq_true h4.2
      rw [fSRc_s ⟨by omega, by omega⟩] at y; exact y
/-- the frame of readAny -/
theorem Ps_row_s {k : Nat} {h h' : Hp} (e : Eqv (fPs_s k) h h') {p : Nat} (hp : p = 50 ∨ p = 51 ∨ p = 52 ∨ p = 53 ∨ p = 54 ∨ p = 58 ∨ p = 59) (f : Nat) : vi h' (p, 0) f = vi h (p, 0) f := by
  refine e.2.2.2.2 p 0 f ?_
  show (!(p == 32 && (Nat.ble 12 f && Nat.ble f 18)) && !(p == 35) && !(p == 34 && (0 : Nat) == 0 && f == 3) && !(Nat.ble 55 p && Nat.blt p 58 && (0 : Nat) == 0)) = true
  rcases hp with rfl | rfl | rfl | rfl | rfl | rfl | rfl <;> rfl
theorem Ps_2_s {k : Nat} {h h' : Hp} (e : Eqv (fPs_s k) h h') : vi h' (34, 0) 2 = vi h (34, 0) 2 := e.2.2.2.2 34 0 2 rfl
def PXr_s (k : Nat) (Z h : Hp) : Ad → Hp → Prop := fun a h' => a = (35, 0) ∧ Eqv (fRw_s k) h h' ∧ (∃ kk p, vi h' (35, 0) 6 = kk ∧ vi h' (35, 0) 7 = nI p ∧ CE Z kk p) ∧ ∃ c, c ≤ 12 ∧ vi h' (34, 0) 2 = nI c
theorem PXr_of_s {k : Nat} {Z h0 h : Hp} {a : Ad} {h' : Hp} (E0 : Eqv (fRw_s k) h0 h) (s : SK_s h k) (x : PX_s k Z h a h') : PXr_s k Z h0 a h' := by
  obtain ⟨c, hc, ec⟩ := s.2.2.2.2.2
  exact ⟨x.1, E0.tr (fPs_Rw_s x.2.1), x.2.2, c, hc, (Ps_2_s x.2.1).trans ec⟩
theorem PXr_st_s {k : Nat} {Z h0 h : Hp} {b : Nat → Int32} {e q : Nat} {x : Int32} (E0 : Eqv (fRw_s k) h0 h) (s : SK_s h k) (t : TR h b e q) (ce : CE Z x (tok b e q).2.1) : PXr_s k Z h0 (35, 0) (mSt h x) := PXr_of_s E0 s (PX_st_s (Eqv.rf _) t ce)
/-- one term: the class's word x, the reference's cells -/
def Tm1_s (h : Hp) (k a : Nat) (x : Int32) : Prop := ∃ u m, u ≤ 9999 ∧ vi h (59, 0) a = nI u ∧ xNum x = nI u ∧ xNm x = m ∧ ((m = 5 ∧ vi h (58, 0) a = -1) ∨ (m < 5 ∧ vi h (58, 0) a = nI m))
def TmR_s (h : Hp) (k c0 : Nat) : List Int32 → Prop
  | [] => True
  | x :: l => Tm1_s h k (4 * c0 + l.length) x ∧ TmR_s h k c0 l
theorem Tm1_c_s {h h' : Hp} {k a : Nat} {x : Int32} (e8 : vi h' (58, 0) a = vi h (58, 0) a) (e9 : vi h' (59, 0) a = vi h (59, 0) a) (t : Tm1_s h k a x) : Tm1_s h' k a x := by
  obtain ⟨u, m, t1, t2, t3, t4, t5⟩ := t
  exact ⟨u, m, t1, e9.trans t2, t3, t4, by rw [e8]; exact t5⟩
theorem TmR_c_s {h h' : Hp} {k c0 n : Nat} (e8 : ∀ i, i < n → vi h' (58, 0) (4 * c0 + i) = vi h (58, 0) (4 * c0 + i)) (e9 : ∀ i, i < n → vi h' (59, 0) (4 * c0 + i) = vi h (59, 0) (4 * c0 + i)) : ∀ (l : List Int32), l.length ≤ n → TmR_s h k c0 l → TmR_s h' k c0 l
  | [], _, _ => trivial
  | x :: l, hl, t => by
    have hl' : l.length + 1 ≤ n := hl
    exact ⟨Tm1_c_s (e8 _ (by omega)) (e9 _ (by omega)) t.1, TmR_c_s e8 e9 l (by omega) t.2⟩
theorem Tm1_num_s {h : Hp} {k a u : Nat} (hu : u ≤ 9999) (e9 : vi h (59, 0) a = nI u) (e8 : vi h (58, 0) a = -1) : Tm1_s h k a (xMk 2 5 (nI u)) :=
  have y := xMk_ok (s := 2) (n := 5) (v := u) (by decide) (by decide) hu
  ⟨u, 5, hu, e9, y.2.2, y.2.1, Or.inl ⟨rfl, e8⟩⟩
theorem Tm1_name_s {h : Hp} {k a u m : Nat} (hu : u ≤ 9999) (hm : m < 5) (e9 : vi h (59, 0) a = nI u) (e8 : vi h (58, 0) a = nI m) : Tm1_s h k a (xMk 2 (nI m) (nI u)) :=
  have y := xMk_ok (s := 2) (n := m) (v := u) (by decide) (by omega) hu
  ⟨u, m, hu, e9, y.2.2, y.2.1, Or.inr ⟨hm, e8⟩⟩
