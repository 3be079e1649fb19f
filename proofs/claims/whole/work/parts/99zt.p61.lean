/-- what the statics, the empty row and the mirror are -/
theorem st_all {args : Array Value} {s : State} {A : Nat → Prop} (hts : ∀ w ∈ lw_tbl, w.before args s = true) (hs : ∀ w ∈ fl1, w.before args s = true) (hA : ∀ a : Nat, a < s.heap.size → ¬ A a) :
    va_Z "java/lang/String" "COMPACT_STRINGS" "Z" (.int 1) A s s.heap ∧ (∃ t, va_Z "java/util/ArrayList" "DEFAULTCAPACITY_EMPTY_ELEMENTDATA" "[Ljava/lang/Object;" (.ref t) A s s.heap ∧ va_T (.object "java/lang/Object") t 0 (fun _ => .null) A s s.heap) ∧
    (∃ (q : Bool) (t : Nat), va_Z "jdk/internal/util/Preconditions" "SIOOBE_FORMATTER" "Ljava/util/function/BiFunction;" (if q then .null else .ref t) A s s.heap) ∧ (∃ (q : Bool) (t : Nat), va_Z "java/lang/Throwable" "UNASSIGNED_STACK" "[Ljava/lang/StackTraceElement;" (if q then .null else .ref t) A s s.heap) ∧ (∃ (q : Bool) (t : Nat), va_Z "java/lang/Throwable" "SUPPRESSED_SENTINEL" "Ljava/util/List;" (if q then .null else .ref t) A s s.heap) ∧ ∃ mi, va_Mi "[Ljava/lang/Object;" mi s := by
  refine ⟨va_Zof (hts (.laysStatic "java/lang/String" "COMPACT_STRINGS" "Z") (List.mem_of_getElem? (i := 424) (by decide +kernel))) (hts (.initialized "java/lang/String") (List.mem_of_getElem? (i := 86) (by decide +kernel))) (va_eqt (hs (.eq (.static "java/lang/String" "COMPACT_STRINGS" "Z") (.int 1)) (List.mem_of_getElem? (i := 8) (by decide +kernel)))) hA, ?_, st_q (args := args) (va_Zqof (hts (.laysStatic "jdk/internal/util/Preconditions" "SIOOBE_FORMATTER" "Ljava/util/function/BiFunction;") (List.mem_of_getElem? (i := 440) (by decide +kernel))) (hts (.initialized "jdk/internal/util/Preconditions") (List.mem_of_getElem? (i := 88) (by decide +kernel))) (hs (.isRef (.static "jdk/internal/util/Preconditions" "SIOOBE_FORMATTER" "Ljava/util/function/BiFunction;")) (List.mem_of_getElem? (i := 9) (by decide +kernel))) hA), st_q (args := args) (va_Zqof (hts (.laysStatic "java/lang/Throwable" "UNASSIGNED_STACK" "[Ljava/lang/StackTraceElement;") (List.mem_of_getElem? (i := 1149) (by decide +kernel))) (hts (.initialized "java/lang/Throwable") (List.mem_of_getElem? (i := 82) (by decide +kernel))) (hs (.isRef (.static "java/lang/Throwable" "UNASSIGNED_STACK" "[Ljava/lang/StackTraceElement;")) (List.mem_of_getElem? (i := 13) (by decide +kernel))) hA), st_q (args := args) (va_Zqof (hts (.laysStatic "java/lang/Throwable" "SUPPRESSED_SENTINEL" "Ljava/util/List;") (List.mem_of_getElem? (i := 1151) (by decide +kernel))) (hts (.initialized "java/lang/Throwable") (List.mem_of_getElem? (i := 82) (by decide +kernel))) (hs (.isRef (.static "java/lang/Throwable" "SUPPRESSED_SENTINEL" "Ljava/util/List;")) (List.mem_of_getElem? (i := 14) (by decide +kernel))) hA), va_Mi.of (hs (.isRef (.mirror "[Ljava/lang/Object;")) (List.mem_of_getElem? (i := 64) (by decide +kernel)))⟩
  obtain ⟨t, ht, hT⟩ := va_Tof (tm := .static "java/util/ArrayList" "DEFAULTCAPACITY_EMPTY_ELEMENTDATA" "[Ljava/lang/Object;") (ty := .object "java/lang/Object") (N := 0) (f := fun _ => .null) (A := A) (by decide) (hs _ (List.mem_of_getElem? (i := 5) (by decide +kernel))) (va_eqt (hs (.eq (.length (.static "java/util/ArrayList" "DEFAULTCAPACITY_EMPTY_ELEMENTDATA" "[Ljava/lang/Object;")) (.int 0)) (List.mem_of_getElem? (i := 7) (by decide +kernel)))) (fun j hj => absurd hj (Nat.not_lt_zero j)) hA
  exact ⟨t, va_Zref (hts (.laysStatic "java/util/ArrayList" "DEFAULTCAPACITY_EMPTY_ELEMENTDATA" "[Ljava/lang/Object;") (List.mem_of_getElem? (i := 225) (by decide +kernel))) (hts (.initialized "java/util/ArrayList") (List.mem_of_getElem? (i := 76) (by decide +kernel))) ht hA, hT⟩
def gCf (adK adV st : Nat → Nat) (e0 b mi : Nat) : Ad → Nat := fun a => if a.1 = 64 then adK a.2 else if a.1 = 65 then adV a.2 else if a.1 = 66 then e0 else if a.1 = 67 then b else if a.1 = 68 then mi else st a.2
def tri {α : Type} (x y z : α) (j : Nat) : α := if j = 0 then x else if j = 1 then y else z
theorem gd_start {s : State} {b L : Nat} {xs : Nat → Int32} (hts : ∀ w ∈ lw_tbl, w.before #[Value.ref b] s = true) (hX : va_X b L xs s s.heap) (hbl : b < s.heap.size) (hgv : (Jvm.Cond.and given_1 narrow_1).before #[Value.ref b] s = true) : ∃ g : G0, Gd g s ∧ gG g = s.heap ∧ gC g (67, 0) = b ∧ gL g = L := by
  have hA : ∀ a : Nat, a < s.heap.size → ¬ (fun q : Nat => s.heap.size ≤ q) a := fun a h => Nat.not_le.mpr h
  have hs : ∀ w ∈ fl1, w.before #[Value.ref b] s = true := flat_of_before _ hgv
  obtain ⟨adK, adV, hS, hK⟩ := sx_S hs hA
  have hR := sx_R hts hs hK
  obtain ⟨D, hD⟩ := cl_all hts
  obtain ⟨cA, hcA⟩ := ar_all hts
  obtain ⟨z1, ⟨e0, z2, z3⟩, ⟨q0, t0, z4⟩, ⟨q1, t1, z5⟩, ⟨q2, t2, z6⟩, mi, z7⟩ := st_all (A := fun q : Nat => s.heap.size ≤ q) hts hs hA
  obtain ⟨scr, x1, x2, x3, x4, x5⟩ := hX
  refine ⟨(s.heap, gCf adK adV (tri t0 t1 t2) e0 b mi, D, cA, tri q0 q1 q2, L, xs), ⟨⟨hD, fun k q hk => ?_⟩, fun w hw => va_Nw.of (nw_on (List.mem_filter.mp hw).2) (hts w (List.mem_filter.mp hw).1), va_AO.of (hts (.arrayOver (.object "java/lang/Object")) (List.mem_of_getElem? (i := 691) (by decide +kernel))), va_AO.of (hts (.arrayOver (.object "AlmsHouse$Change")) (List.mem_of_getElem? (i := 245) (by decide +kernel))), va_AO.of (hts (.arrayOver (.object "AlmsHouseModel$Scheme")) (List.mem_of_getElem? (i := 1062) (by decide +kernel))), hR, hS, z1, z2, z3, ?_, ?_, ?_, z7, scr, x1, x2, x3, ?_, ?_, x5, hA b hbl⟩, rfl, rfl, rfl⟩
  · have hk6 : k < 6 := by
      have := (List.getElem?_eq_some_iff.mp hk).1
      have e : (tyl cA).length = 6 := by unfold tyl; rw [List.length_map, List.length_range]
      show k < 6
      have t : k < (tyl cA).length := this
      omega
    have e := tyl_at cA hk6
    have e2 : (tyl cA)[k]? = some q := hk
    rw [e] at e2
    cases e2
    exact hcA k hk6
  · cases q0 <;> exact z4
  · cases q1 <;> exact z5
  · cases q2 <;> exact z6
  · exact Nat.le_of_eq x4.symm
  · rw [x4]; rfl
