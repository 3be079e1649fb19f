/-! the terms of an order -/
theorem RS_o {h : Hp} {k : Nat} {b : Nat → Int32} {e q dp cp : Nat} {rl : List mOp} (r : RS h k b e q dp cp rl) {p : Nat} (hp : p = 40 ∨ p = 41 ∨ p = 42 ∨ p = 43 ∨ p = 44 ∨ p = 48 ∨ p = 49) (i : Nat) (x : Int32) : RS (sI h (p, k) i x) k b e q dp cp rl := by
  obtain ⟨r1, r2, r3, r4, r5, r6, r7, r8, r9⟩ := r
  have o : ∀ (u : Nat), ¬ u = p → ∀ (v f : Nat), vi (sI h (p, k) i x) (u, v) f = vi h (u, v) f := fun u hu v f => vi_sI_ne _ _ _ _ (fun z => hu (congrArg Prod.fst z))
  have o32 := o 32 (by omega)
  have o33 := o 33 (by omega)
  refine ⟨r1, ?_, (o32 _ _).trans r3, fun i' hi => ?_, ?_, (o32 _ _).trans r6, (o32 _ _).trans r7, (o33 _ _).trans r8, RLs_c (fun _ => o 45 (by omega) _ _) (fun _ => o 46 (by omega) _ _) (fun _ => o 47 (by omega) _ _) _ r9⟩
  · obtain ⟨a1, a2, a3, a4, a5, a6⟩ := r2
    exact ⟨a1, a2, a3, a4, a5, by rw [o33]; exact a6⟩
  · rw [← r4 i' hi]; unfold mb; rw [o 37 (by omega)]
  · unfold TR; rw [o32, o32, o32, o32, o32, vl_sI]; exact r5
/-- what reading a whole scheme may change: all rows of scheme k -/
def fRw (k : Nat) : Fpt := (fun _ => true, fun _ => true, fun _ => true, fun p => !(p == 32), fun p i f => !(p == 32 && (Nat.ble 12 f && Nat.ble f 18)) && !(p == 35) && !(p == 33 && i == k && (f == 2 || f == 3)) && !(Nat.ble 40 p && Nat.blt p 50 && i == k))
theorem fRw_k {k p : Nat} (hp : 40 ≤ p ∧ p < 50) (f : Nat) : ¬ (fRw k).2.2.2.2 p k f = true := by
  show ¬ ((!(p == 32 && (Nat.ble 12 f && Nat.ble f 18)) && !(p == 35) && !(p == 33 && k == k && (f == 2 || f == 3)) && !(Nat.ble 40 p && Nat.blt p 50 && k == k)) = true)
  rw [fSRc hp, beq_self_eq_true]; simp
theorem o_E (h : Hp) (k : Nat) {p : Nat} (hp : 40 ≤ p ∧ p < 50) (i : Nat) (x : Int32) : Eqv (fRw k) h (sI h (p, k) i x) := Eqv.sI (Eqv.rf _) (fRw_k hp _)
theorem fPs_Rw {k : Nat} {h h' : Hp} (e : Eqv (fPs k) h h') : Eqv (fRw k) h h' := by
  refine Eqv.sub (P := fRw k) (Q := fPs k) ⟨fun _ z => z, fun _ z => z, fun _ z => z, fun _ z => z, fun p i f z => ?_⟩ e
  have z' : (!(p == 32 && (Nat.ble 12 f && Nat.ble f 18)) && !(p == 35) && !(p == 33 && i == k && (f == 2 || f == 3)) && !(Nat.ble 40 p && Nat.blt p 50 && i == k)) = true := z
  show (!(p == 32 && (Nat.ble 12 f && Nat.ble f 18)) && !(p == 35) && !(p == 33 && i == k && f == 3) && !(Nat.ble 45 p && Nat.blt p 48 && i == k)) = true
  rw [Bool.and_eq_true, Bool.and_eq_true] at z' ⊢
  refine ⟨⟨z'.1.1, ?_⟩, ?_⟩
  · have y := z'.1.2
    cases h3 : (f == 3)
    · rw [Bool.and_false]; rfl
    · rw [h3, Bool.or_true] at y; exact y
  · have y := z'.2
    cases h4 : (Nat.ble 45 p && Nat.blt p 48)
    · rfl
    · rw [Bool.and_eq_true] at h4
      have l1 := Nat.le_of_ble_eq_true h4.1
      have l2 : p + 1 ≤ 48 := Nat.le_of_ble_eq_true h4.2
      rw [fSRc ⟨by omega, by omega⟩] at y; exact y
/-- the frame of readAny -/
theorem Ps_row {k : Nat} {h h' : Hp} (e : Eqv (fPs k) h h') {p : Nat} (hp : p = 40 ∨ p = 41 ∨ p = 42 ∨ p = 43 ∨ p = 44 ∨ p = 48 ∨ p = 49) (f : Nat) : vi h' (p, k) f = vi h (p, k) f := by
  refine e.2.2.2.2 p k f ?_
  show (!(p == 32 && (Nat.ble 12 f && Nat.ble f 18)) && !(p == 35) && !(p == 33 && k == k && f == 3) && !(Nat.ble 45 p && Nat.blt p 48 && k == k)) = true
  rcases hp with rfl | rfl | rfl | rfl | rfl | rfl | rfl <;> rfl
theorem Ps_2 {k : Nat} {h h' : Hp} (e : Eqv (fPs k) h h') : vi h' (33, k) 2 = vi h (33, k) 2 := e.2.2.2.2 33 k 2 (by
  show (true && true && !(true && k == k && false) && true) = true
  rw [Bool.and_false]; rfl)
def PXr (k : Nat) (Z h : Hp) : Ad → Hp → Prop := fun a h' => a = (35, 0) ∧ Eqv (fRw k) h h' ∧ (∃ kk p, vi h' (35, 0) 6 = kk ∧ vi h' (35, 0) 7 = nI p ∧ CE Z kk p) ∧ ∃ c, c ≤ 12 ∧ vi h' (33, k) 2 = nI c
theorem PXr_of {k : Nat} {Z h0 h : Hp} {a : Ad} {h' : Hp} (E0 : Eqv (fRw k) h0 h) (s : SK h k) (x : PX k Z h a h') : PXr k Z h0 a h' := by
  obtain ⟨c, hc, ec⟩ := s.2.2.2.2.2
  exact ⟨x.1, E0.tr (fPs_Rw x.2.1), x.2.2, c, hc, (Ps_2 x.2.1).trans ec⟩
theorem PXr_st {k : Nat} {Z h0 h : Hp} {b : Nat → Int32} {e q : Nat} {x : Int32} (E0 : Eqv (fRw k) h0 h) (s : SK h k) (t : TR h b e q) (ce : CE Z x (tok b e q).2.1) : PXr k Z h0 (35, 0) (mSt h x) := PXr_of E0 s (PX_st (Eqv.rf _) t ce)
/-- one term: the class's word x, the reference's cells -/
def Tm1 (h : Hp) (k a : Nat) (x : Int32) : Prop := ∃ u m, u ≤ 9999 ∧ vi h (49, k) a = nI u ∧ xNum x = nI u ∧ xNm x = m ∧ ((m = 5 ∧ vi h (48, k) a = -1) ∨ (m < 5 ∧ vi h (48, k) a = nI m))
def TmR (h : Hp) (k c0 : Nat) : List Int32 → Prop
  | [] => True
  | x :: l => Tm1 h k (4 * c0 + l.length) x ∧ TmR h k c0 l
theorem Tm1_c {h h' : Hp} {k a : Nat} {x : Int32} (e8 : vi h' (48, k) a = vi h (48, k) a) (e9 : vi h' (49, k) a = vi h (49, k) a) (t : Tm1 h k a x) : Tm1 h' k a x := by
  obtain ⟨u, m, t1, t2, t3, t4, t5⟩ := t
  exact ⟨u, m, t1, e9.trans t2, t3, t4, by rw [e8]; exact t5⟩
theorem TmR_c {h h' : Hp} {k c0 n : Nat} (e8 : ∀ i, i < n → vi h' (48, k) (4 * c0 + i) = vi h (48, k) (4 * c0 + i)) (e9 : ∀ i, i < n → vi h' (49, k) (4 * c0 + i) = vi h (49, k) (4 * c0 + i)) : ∀ (l : List Int32), l.length ≤ n → TmR h k c0 l → TmR h' k c0 l
  | [], _, _ => trivial
  | x :: l, hl, t => by
    have hl' : l.length + 1 ≤ n := hl
    exact ⟨Tm1_c (e8 _ (by omega)) (e9 _ (by omega)) t.1, TmR_c e8 e9 l (by omega) t.2⟩
theorem Tm1_num {h : Hp} {k a u : Nat} (hu : u ≤ 9999) (e9 : vi h (49, k) a = nI u) (e8 : vi h (48, k) a = -1) : Tm1 h k a (xMk 2 5 (nI u)) :=
  have y := xMk_ok (s := 2) (n := 5) (v := u) (by decide) (by decide) hu
  ⟨u, 5, hu, e9, y.2.2, y.2.1, Or.inl ⟨rfl, e8⟩⟩
theorem Tm1_name {h : Hp} {k a u m : Nat} (hu : u ≤ 9999) (hm : m < 5) (e9 : vi h (49, k) a = nI u) (e8 : vi h (48, k) a = nI m) : Tm1 h k a (xMk 2 (nI m) (nI u)) :=
  have y := xMk_ok (s := 2) (n := m) (v := u) (by decide) (by omega) hu
  ⟨u, m, hu, e9, y.2.2, y.2.1, Or.inr ⟨hm, e8⟩⟩
