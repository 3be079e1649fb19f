/-! the ground at the law's entry -/
def tmS (i : Nat) : Term := Term.string "AlmsHouse$Tape" ([61, 67, 69, 71, 73, 75, 77, 79, 81, 83, 85].getD i 0)
def fl1 : List Cond := flatC (Jvm.Cond.and given_1 narrow_1)
theorem sx_e : ∀ i, i < 11 → Cond.exactly (tmS i) "java/lang/String" ∈ fl1 := by decide +kernel
theorem sx_c : ∀ i, i < 11 → Cond.eq (.field (tmS i) "java/lang/String" "coder" "B") (.int 0) ∈ fl1 := by decide +kernel
theorem sx_a : ∀ i, i < 11 → Cond.arrayOf (.field (tmS i) "java/lang/String" "value" "[B") .byte ∈ fl1 := by decide +kernel
theorem sx_l : ∀ i, i < 11 → Cond.eq (.length (.field (tmS i) "java/lang/String" "value" "[B")) (.int (Int32.ofNat (lenS.getD i 0))) ∈ fl1 := by decide +kernel
theorem sx_b : ∀ i, i < 11 → ∀ j, j < lenS.getD i 0 → Cond.eq (.elem (.field (tmS i) "java/lang/String" "value" "[B") (.int (Int32.ofNat j))) (.int ((bytS.getD i []).getD j 0)) ∈ fl1 := by decide +kernel
theorem sx_n0_1 : Cond.not (Cond.eq (tmS 0) (tmS 1)) ∈ fl1 := List.mem_of_getElem? (i := 82) (by decide +kernel)
theorem sx_n0_2 : Cond.not (Cond.eq (tmS 0) (tmS 2)) ∈ fl1 := List.mem_of_getElem? (i := 92) (by decide +kernel)
theorem sx_n0_3 : Cond.not (Cond.eq (tmS 0) (tmS 3)) ∈ fl1 := List.mem_of_getElem? (i := 100) (by decide +kernel)
theorem sx_n0_4 : Cond.not (Cond.eq (tmS 0) (tmS 4)) ∈ fl1 := List.mem_of_getElem? (i := 110) (by decide +kernel)
theorem sx_n0_5 : Cond.not (Cond.eq (tmS 0) (tmS 5)) ∈ fl1 := List.mem_of_getElem? (i := 121) (by decide +kernel)
theorem sx_n0_6 : Cond.not (Cond.eq (tmS 0) (tmS 6)) ∈ fl1 := List.mem_of_getElem? (i := 133) (by decide +kernel)
theorem sx_n0_7 : Cond.not (Cond.eq (tmS 0) (tmS 7)) ∈ fl1 := List.mem_of_getElem? (i := 148) (by decide +kernel)
theorem sx_n0_8 : Cond.not (Cond.eq (tmS 0) (tmS 8)) ∈ fl1 := List.mem_of_getElem? (i := 164) (by decide +kernel)
theorem sx_n0_9 : Cond.not (Cond.eq (tmS 0) (tmS 9)) ∈ fl1 := List.mem_of_getElem? (i := 179) (by decide +kernel)
theorem sx_n0_10 : Cond.not (Cond.eq (tmS 0) (tmS 10)) ∈ fl1 := List.mem_of_getElem? (i := 197) (by decide +kernel)
theorem sx_n1_2 : Cond.not (Cond.eq (tmS 1) (tmS 2)) ∈ fl1 := List.mem_of_getElem? (i := 93) (by decide +kernel)
theorem sx_n1_3 : Cond.not (Cond.eq (tmS 1) (tmS 3)) ∈ fl1 := List.mem_of_getElem? (i := 101) (by decide +kernel)
theorem sx_n1_4 : Cond.not (Cond.eq (tmS 1) (tmS 4)) ∈ fl1 := List.mem_of_getElem? (i := 111) (by decide +kernel)
theorem sx_n1_5 : Cond.not (Cond.eq (tmS 1) (tmS 5)) ∈ fl1 := List.mem_of_getElem? (i := 122) (by decide +kernel)
theorem sx_n1_6 : Cond.not (Cond.eq (tmS 1) (tmS 6)) ∈ fl1 := List.mem_of_getElem? (i := 134) (by decide +kernel)
theorem sx_n1_7 : Cond.not (Cond.eq (tmS 1) (tmS 7)) ∈ fl1 := List.mem_of_getElem? (i := 149) (by decide +kernel)
theorem sx_n1_8 : Cond.not (Cond.eq (tmS 1) (tmS 8)) ∈ fl1 := List.mem_of_getElem? (i := 165) (by decide +kernel)
theorem sx_n1_9 : Cond.not (Cond.eq (tmS 1) (tmS 9)) ∈ fl1 := List.mem_of_getElem? (i := 180) (by decide +kernel)
theorem sx_n1_10 : Cond.not (Cond.eq (tmS 1) (tmS 10)) ∈ fl1 := List.mem_of_getElem? (i := 198) (by decide +kernel)
theorem sx_n2_3 : Cond.not (Cond.eq (tmS 2) (tmS 3)) ∈ fl1 := List.mem_of_getElem? (i := 102) (by decide +kernel)
theorem sx_n2_4 : Cond.not (Cond.eq (tmS 2) (tmS 4)) ∈ fl1 := List.mem_of_getElem? (i := 112) (by decide +kernel)
theorem sx_n2_5 : Cond.not (Cond.eq (tmS 2) (tmS 5)) ∈ fl1 := List.mem_of_getElem? (i := 123) (by decide +kernel)
theorem sx_n2_6 : Cond.not (Cond.eq (tmS 2) (tmS 6)) ∈ fl1 := List.mem_of_getElem? (i := 135) (by decide +kernel)
theorem sx_n2_7 : Cond.not (Cond.eq (tmS 2) (tmS 7)) ∈ fl1 := List.mem_of_getElem? (i := 150) (by decide +kernel)
theorem sx_n2_8 : Cond.not (Cond.eq (tmS 2) (tmS 8)) ∈ fl1 := List.mem_of_getElem? (i := 166) (by decide +kernel)
theorem sx_n2_9 : Cond.not (Cond.eq (tmS 2) (tmS 9)) ∈ fl1 := List.mem_of_getElem? (i := 181) (by decide +kernel)
theorem sx_n2_10 : Cond.not (Cond.eq (tmS 2) (tmS 10)) ∈ fl1 := List.mem_of_getElem? (i := 199) (by decide +kernel)
theorem sx_n3_4 : Cond.not (Cond.eq (tmS 3) (tmS 4)) ∈ fl1 := List.mem_of_getElem? (i := 113) (by decide +kernel)
theorem sx_n3_5 : Cond.not (Cond.eq (tmS 3) (tmS 5)) ∈ fl1 := List.mem_of_getElem? (i := 124) (by decide +kernel)
theorem sx_n3_6 : Cond.not (Cond.eq (tmS 3) (tmS 6)) ∈ fl1 := List.mem_of_getElem? (i := 136) (by decide +kernel)
theorem sx_n3_7 : Cond.not (Cond.eq (tmS 3) (tmS 7)) ∈ fl1 := List.mem_of_getElem? (i := 151) (by decide +kernel)
theorem sx_n3_8 : Cond.not (Cond.eq (tmS 3) (tmS 8)) ∈ fl1 := List.mem_of_getElem? (i := 167) (by decide +kernel)
theorem sx_n3_9 : Cond.not (Cond.eq (tmS 3) (tmS 9)) ∈ fl1 := List.mem_of_getElem? (i := 182) (by decide +kernel)
theorem sx_n3_10 : Cond.not (Cond.eq (tmS 3) (tmS 10)) ∈ fl1 := List.mem_of_getElem? (i := 200) (by decide +kernel)
theorem sx_n4_5 : Cond.not (Cond.eq (tmS 4) (tmS 5)) ∈ fl1 := List.mem_of_getElem? (i := 125) (by decide +kernel)
theorem sx_n4_6 : Cond.not (Cond.eq (tmS 4) (tmS 6)) ∈ fl1 := List.mem_of_getElem? (i := 137) (by decide +kernel)
theorem sx_n4_7 : Cond.not (Cond.eq (tmS 4) (tmS 7)) ∈ fl1 := List.mem_of_getElem? (i := 152) (by decide +kernel)
theorem sx_n4_8 : Cond.not (Cond.eq (tmS 4) (tmS 8)) ∈ fl1 := List.mem_of_getElem? (i := 168) (by decide +kernel)
theorem sx_n4_9 : Cond.not (Cond.eq (tmS 4) (tmS 9)) ∈ fl1 := List.mem_of_getElem? (i := 183) (by decide +kernel)
theorem sx_n4_10 : Cond.not (Cond.eq (tmS 4) (tmS 10)) ∈ fl1 := List.mem_of_getElem? (i := 201) (by decide +kernel)
theorem sx_n5_6 : Cond.not (Cond.eq (tmS 5) (tmS 6)) ∈ fl1 := List.mem_of_getElem? (i := 138) (by decide +kernel)
theorem sx_n5_7 : Cond.not (Cond.eq (tmS 5) (tmS 7)) ∈ fl1 := List.mem_of_getElem? (i := 153) (by decide +kernel)
theorem sx_n5_8 : Cond.not (Cond.eq (tmS 5) (tmS 8)) ∈ fl1 := List.mem_of_getElem? (i := 169) (by decide +kernel)
theorem sx_n5_9 : Cond.not (Cond.eq (tmS 5) (tmS 9)) ∈ fl1 := List.mem_of_getElem? (i := 184) (by decide +kernel)
theorem sx_n5_10 : Cond.not (Cond.eq (tmS 5) (tmS 10)) ∈ fl1 := List.mem_of_getElem? (i := 202) (by decide +kernel)
theorem sx_n6_7 : Cond.not (Cond.eq (tmS 6) (tmS 7)) ∈ fl1 := List.mem_of_getElem? (i := 154) (by decide +kernel)
theorem sx_n6_8 : Cond.not (Cond.eq (tmS 6) (tmS 8)) ∈ fl1 := List.mem_of_getElem? (i := 170) (by decide +kernel)
theorem sx_n6_9 : Cond.not (Cond.eq (tmS 6) (tmS 9)) ∈ fl1 := List.mem_of_getElem? (i := 185) (by decide +kernel)
theorem sx_n6_10 : Cond.not (Cond.eq (tmS 6) (tmS 10)) ∈ fl1 := List.mem_of_getElem? (i := 203) (by decide +kernel)
theorem sx_n7_8 : Cond.not (Cond.eq (tmS 7) (tmS 8)) ∈ fl1 := List.mem_of_getElem? (i := 171) (by decide +kernel)
theorem sx_n7_9 : Cond.not (Cond.eq (tmS 7) (tmS 9)) ∈ fl1 := List.mem_of_getElem? (i := 186) (by decide +kernel)
theorem sx_n7_10 : Cond.not (Cond.eq (tmS 7) (tmS 10)) ∈ fl1 := List.mem_of_getElem? (i := 204) (by decide +kernel)
theorem sx_n8_9 : Cond.not (Cond.eq (tmS 8) (tmS 9)) ∈ fl1 := List.mem_of_getElem? (i := 187) (by decide +kernel)
theorem sx_n8_10 : Cond.not (Cond.eq (tmS 8) (tmS 10)) ∈ fl1 := List.mem_of_getElem? (i := 205) (by decide +kernel)
theorem sx_n9_10 : Cond.not (Cond.eq (tmS 9) (tmS 10)) ∈ fl1 := List.mem_of_getElem? (i := 206) (by decide +kernel)
theorem sx_n (i : Nat) (hi : i < 11) (j : Nat) (hj : j < 11) (hij : i ≠ j) : Cond.not (Cond.eq (tmS i) (tmS j)) ∈ fl1 ∨ Cond.not (Cond.eq (tmS j) (tmS i)) ∈ fl1 := by
  match i, hi with
  | 0, _ =>
    match j, hj with
    | 0, _ => exact absurd rfl hij
    | 1, _ => exact Or.inl sx_n0_1
    | 2, _ => exact Or.inl sx_n0_2
    | 3, _ => exact Or.inl sx_n0_3
    | 4, _ => exact Or.inl sx_n0_4
    | 5, _ => exact Or.inl sx_n0_5
    | 6, _ => exact Or.inl sx_n0_6
    | 7, _ => exact Or.inl sx_n0_7
    | 8, _ => exact Or.inl sx_n0_8
    | 9, _ => exact Or.inl sx_n0_9
    | 10, _ => exact Or.inl sx_n0_10
    | n + 11, hj => exact absurd hj (by omega)
  | 1, _ =>
    match j, hj with
    | 0, _ => exact Or.inr sx_n0_1
    | 1, _ => exact absurd rfl hij
    | 2, _ => exact Or.inl sx_n1_2
    | 3, _ => exact Or.inl sx_n1_3
    | 4, _ => exact Or.inl sx_n1_4
    | 5, _ => exact Or.inl sx_n1_5
    | 6, _ => exact Or.inl sx_n1_6
    | 7, _ => exact Or.inl sx_n1_7
    | 8, _ => exact Or.inl sx_n1_8
    | 9, _ => exact Or.inl sx_n1_9
    | 10, _ => exact Or.inl sx_n1_10
    | n + 11, hj => exact absurd hj (by omega)
  | 2, _ =>
    match j, hj with
    | 0, _ => exact Or.inr sx_n0_2
    | 1, _ => exact Or.inr sx_n1_2
    | 2, _ => exact absurd rfl hij
    | 3, _ => exact Or.inl sx_n2_3
    | 4, _ => exact Or.inl sx_n2_4
    | 5, _ => exact Or.inl sx_n2_5
    | 6, _ => exact Or.inl sx_n2_6
    | 7, _ => exact Or.inl sx_n2_7
    | 8, _ => exact Or.inl sx_n2_8
    | 9, _ => exact Or.inl sx_n2_9
    | 10, _ => exact Or.inl sx_n2_10
    | n + 11, hj => exact absurd hj (by omega)
  | 3, _ =>
    match j, hj with
    | 0, _ => exact Or.inr sx_n0_3
    | 1, _ => exact Or.inr sx_n1_3
    | 2, _ => exact Or.inr sx_n2_3
    | 3, _ => exact absurd rfl hij
    | 4, _ => exact Or.inl sx_n3_4
    | 5, _ => exact Or.inl sx_n3_5
    | 6, _ => exact Or.inl sx_n3_6
    | 7, _ => exact Or.inl sx_n3_7
    | 8, _ => exact Or.inl sx_n3_8
    | 9, _ => exact Or.inl sx_n3_9
    | 10, _ => exact Or.inl sx_n3_10
    | n + 11, hj => exact absurd hj (by omega)
  | 4, _ =>
    match j, hj with
    | 0, _ => exact Or.inr sx_n0_4
    | 1, _ => exact Or.inr sx_n1_4
    | 2, _ => exact Or.inr sx_n2_4
    | 3, _ => exact Or.inr sx_n3_4
    | 4, _ => exact absurd rfl hij
    | 5, _ => exact Or.inl sx_n4_5
    | 6, _ => exact Or.inl sx_n4_6
    | 7, _ => exact Or.inl sx_n4_7
    | 8, _ => exact Or.inl sx_n4_8
    | 9, _ => exact Or.inl sx_n4_9
    | 10, _ => exact Or.inl sx_n4_10
    | n + 11, hj => exact absurd hj (by omega)
  | 5, _ =>
    match j, hj with
    | 0, _ => exact Or.inr sx_n0_5
    | 1, _ => exact Or.inr sx_n1_5
    | 2, _ => exact Or.inr sx_n2_5
    | 3, _ => exact Or.inr sx_n3_5
    | 4, _ => exact Or.inr sx_n4_5
    | 5, _ => exact absurd rfl hij
    | 6, _ => exact Or.inl sx_n5_6
    | 7, _ => exact Or.inl sx_n5_7
    | 8, _ => exact Or.inl sx_n5_8
    | 9, _ => exact Or.inl sx_n5_9
    | 10, _ => exact Or.inl sx_n5_10
    | n + 11, hj => exact absurd hj (by omega)
  | 6, _ =>
    match j, hj with
    | 0, _ => exact Or.inr sx_n0_6
    | 1, _ => exact Or.inr sx_n1_6
    | 2, _ => exact Or.inr sx_n2_6
    | 3, _ => exact Or.inr sx_n3_6
    | 4, _ => exact Or.inr sx_n4_6
    | 5, _ => exact Or.inr sx_n5_6
    | 6, _ => exact absurd rfl hij
    | 7, _ => exact Or.inl sx_n6_7
    | 8, _ => exact Or.inl sx_n6_8
    | 9, _ => exact Or.inl sx_n6_9
    | 10, _ => exact Or.inl sx_n6_10
    | n + 11, hj => exact absurd hj (by omega)
  | 7, _ =>
    match j, hj with
    | 0, _ => exact Or.inr sx_n0_7
    | 1, _ => exact Or.inr sx_n1_7
    | 2, _ => exact Or.inr sx_n2_7
    | 3, _ => exact Or.inr sx_n3_7
    | 4, _ => exact Or.inr sx_n4_7
    | 5, _ => exact Or.inr sx_n5_7
    | 6, _ => exact Or.inr sx_n6_7
    | 7, _ => exact absurd rfl hij
    | 8, _ => exact Or.inl sx_n7_8
    | 9, _ => exact Or.inl sx_n7_9
    | 10, _ => exact Or.inl sx_n7_10
    | n + 11, hj => exact absurd hj (by omega)
  | 8, _ =>
    match j, hj with
    | 0, _ => exact Or.inr sx_n0_8
    | 1, _ => exact Or.inr sx_n1_8
    | 2, _ => exact Or.inr sx_n2_8
    | 3, _ => exact Or.inr sx_n3_8
    | 4, _ => exact Or.inr sx_n4_8
    | 5, _ => exact Or.inr sx_n5_8
    | 6, _ => exact Or.inr sx_n6_8
    | 7, _ => exact Or.inr sx_n7_8
    | 8, _ => exact absurd rfl hij
    | 9, _ => exact Or.inl sx_n8_9
    | 10, _ => exact Or.inl sx_n8_10
    | n + 11, hj => exact absurd hj (by omega)
  | 9, _ =>
    match j, hj with
    | 0, _ => exact Or.inr sx_n0_9
    | 1, _ => exact Or.inr sx_n1_9
    | 2, _ => exact Or.inr sx_n2_9
    | 3, _ => exact Or.inr sx_n3_9
    | 4, _ => exact Or.inr sx_n4_9
    | 5, _ => exact Or.inr sx_n5_9
    | 6, _ => exact Or.inr sx_n6_9
    | 7, _ => exact Or.inr sx_n7_9
    | 8, _ => exact Or.inr sx_n8_9
    | 9, _ => exact absurd rfl hij
    | 10, _ => exact Or.inl sx_n9_10
    | n + 11, hj => exact absurd hj (by omega)
  | 10, _ =>
    match j, hj with
    | 0, _ => exact Or.inr sx_n0_10
    | 1, _ => exact Or.inr sx_n1_10
    | 2, _ => exact Or.inr sx_n2_10
    | 3, _ => exact Or.inr sx_n3_10
    | 4, _ => exact Or.inr sx_n4_10
    | 5, _ => exact Or.inr sx_n5_10
    | 6, _ => exact Or.inr sx_n6_10
    | 7, _ => exact Or.inr sx_n7_10
    | 8, _ => exact Or.inr sx_n8_10
    | 9, _ => exact Or.inr sx_n9_10
    | 10, _ => exact absurd rfl hij
    | n + 11, hj => exact absurd hj (by omega)
  | n + 11, hi => exact absurd hi (by omega)
theorem sx_w : ∀ q ∈ strL, Cond.stringRef q.1 q.2.1 q.2.2.1 ∈ lw_tbl := by decide +kernel
theorem sx_q : ∀ q ∈ strL, q.2.2.2 < 11 ∧ (Term.string q.1 q.2.1 = tmS q.2.2.2 ∨ Cond.eq (tmS q.2.2.2) (Term.string q.1 q.2.1) ∈ fl1) := by decide +kernel
theorem sx_S {args : Array Value} {s : State} {A : Nat → Prop} (hs : ∀ w ∈ fl1, w.before args s = true) (hA : ∀ a : Nat, a < s.heap.size → ¬ A a) : ∃ adK adV : Nat → Nat, vk_S 11 lenS bytS adK adV A s s.heap ∧ ∀ i : Nat, i < 11 → (tmS i).eval args s none [] s = some (.ref (adK i)) :=
  vk_Sof (by decide) (fun i hi => hs _ (sx_e i hi)) (fun i hi => hs _ (sx_c i hi)) (fun i hi => hs _ (sx_a i hi)) (fun i hi => hs _ (sx_l i hi)) (fun i hi j hj => hs _ (sx_b i hi j hj)) (fun i j hi hj hij => (sx_n i hi j hj hij).elim (fun z => Or.inl (hs _ z)) (fun z => Or.inr (hs _ z))) hA
theorem sx_R {args : Array Value} {s : State} {adK : Nat → Nat} (hts : ∀ w ∈ lw_tbl, w.before args s = true) (hs : ∀ w ∈ fl1, w.before args s = true) (hK : ∀ i : Nat, i < 11 → (tmS i).eval args s none [] s = some (.ref (adK i))) : ∀ q ∈ strL, vk_R q.1 q.2.1 q.2.2.1 (adK q.2.2.2) s := by
  intro q hq
  obtain ⟨h11, z⟩ := sx_q q hq
  have e := hK _ h11
  refine vk_R.of (hts _ (sx_w q hq)) ?_
  rcases z with z | z
  · rw [z]; exact e
  · exact va_eqR (hs _ z) e
theorem nw_on {w : Cond} (hw : isNw w = true) : w.onTables = true := by
  cases w <;> first | rfl | (exfalso; revert hw; simp [isNw])
theorem st_q {args : Array Value} {s : State} {C n d : String} {A : Nat → Prop} (h : va_Zq C n d A s s.heap) : ∃ (q : Bool) (t : Nat), va_Z C n d (if q then .null else .ref t) A s s.heap := by
  rcases h with h | ⟨t, h⟩
  · exact ⟨true, 0, h⟩
  · exact ⟨false, t, h⟩
theorem ar_c {args : Array Value} {s : State} {ty : FieldType} (h : (Cond.arrayClass ty).before args s = true) (hy : ty = .int ∨ ty = .byte ∨ ty = .boolean) : ∃ cA, ArrOfT s cA ty ∧ va_RA s cA ty := by
  obtain ⟨c, k, comp, h1, h2, h3⟩ := Cond.arrayClass_spec h
  refine ⟨c, fun n z => ⟨fun k h => (by cases h), k, h2, comp, h3⟩, ?_⟩
  rcases hy with rfl | rfl | rfl <;> exact h1
theorem ar_o {args : Array Value} {s : State} {C : String} (h : (Cond.arrayOver (.object C)).before args s = true) : ∃ cA, ArrOfT s cA (.object C) ∧ va_RA s cA (.object C) := by
  obtain ⟨comp, c, k, f1, f2, f3, f4, f5⟩ := Cond.arrayOver_spec h
  exact ⟨c, fun n z => ⟨fun k h => (by cases h), k, f3, comp, f4⟩, k, comp, f3, f4, f1, f5⟩
theorem ar_all {args : Array Value} {s : State} (hts : ∀ w ∈ lw_tbl, w.before args s = true) : ∃ cA : Nat → ClassId, ∀ t, t < 6 → ArrOfT s (cA t) (aty t) ∧ va_RA s (cA t) (aty t) := by
  have h0 : ∀ t, ∃ c : ClassId, t < 6 → ArrOfT s c (aty t) ∧ va_RA s c (aty t) := by
    intro t
    match t with
    | 0 => obtain ⟨c, h⟩ := ar_c (ty := .int) (hts (.arrayClass .int) (List.mem_of_getElem? (i := 140) (by decide +kernel))) (Or.inl rfl); exact ⟨c, fun _ => h⟩
    | 1 => obtain ⟨c, h⟩ := ar_c (ty := .byte) (hts (.arrayClass .byte) (List.mem_of_getElem? (i := 637) (by decide +kernel))) (Or.inr (Or.inl rfl)); exact ⟨c, fun _ => h⟩
    | 2 => obtain ⟨c, h⟩ := ar_c (ty := .boolean) (hts (.arrayClass .boolean) (List.mem_of_getElem? (i := 268) (by decide +kernel))) (Or.inr (Or.inr rfl)); exact ⟨c, fun _ => h⟩
    | 3 => obtain ⟨c, h⟩ := ar_o (C := "java/lang/Object") (hts (.arrayOver (.object "java/lang/Object")) (List.mem_of_getElem? (i := 691) (by decide +kernel))); exact ⟨c, fun _ => h⟩
    | 4 => obtain ⟨c, h⟩ := ar_o (C := "AlmsHouse$Change") (hts (.arrayOver (.object "AlmsHouse$Change")) (List.mem_of_getElem? (i := 245) (by decide +kernel))); exact ⟨c, fun _ => h⟩
    | 5 => obtain ⟨c, h⟩ := ar_o (C := "AlmsHouseModel$Scheme") (hts (.arrayOver (.object "AlmsHouseModel$Scheme")) (List.mem_of_getElem? (i := 1062) (by decide +kernel))); exact ⟨c, fun _ => h⟩
    | n + 6 => exact ⟨0, fun h => absurd h (by omega)⟩
  obtain ⟨f, hf⟩ := Classical.axiomOfChoice h0
  exact ⟨f, hf⟩
theorem cl_all {args : Array Value} {s : State} (hts : ∀ w ∈ lw_tbl, w.before args s = true) : ∃ D : va_G, ∀ (c : Nat) (q : vw_C), vwCl[c]? = some q → u_Kn s q.1 q.2.1 q.2.2 (D.1 c) (D.2 c) := by
  have htg : ∀ w ∈ lw_g, w.before args s = true := fun w hw => hts w (List.mem_filter.mp hw).1
  have h0 : ∀ c : Nat, ∃ x : ClassId × (Nat → Nat), ∀ q, vwCl[c]? = some q → u_Kn s q.1 q.2.1 q.2.2 x.1 x.2 := by
    intro c
    cases hq : vwCl[c]? with
    | none => exact ⟨(0, fun _ => 0), fun q z => by cases z⟩
    | some q =>
      obtain ⟨hin, -, -, hi, -⟩ := cf_all c q hq
      obtain ⟨cC, iS, hk⟩ := u_known htg hin (htg _ hi)
      exact ⟨(cC, iS), fun q' z => by cases z; exact hk⟩
  obtain ⟨f, hf⟩ := Classical.axiomOfChoice h0
  exact ⟨(fun c => (f c).1, fun c => (f c).2), fun c q hq => hf c q hq⟩
