/-! the pure values and heaps: an address is (pool, number) -/
abbrev Ad : Type := Nat × Nat
abbrev PV : Type := Int32 ⊕ (Int64 ⊕ Option Ad)
abbrev pI (x : Int32) : PV := Sum.inl x
abbrev pL (x : Int64) : PV := Sum.inr (Sum.inl x)
abbrev pO (o : Option Ad) : PV := Sum.inr (Sum.inr o)
abbrev pR (a : Ad) : PV := Sum.inr (Sum.inr (some a))
abbrev pN : PV := Sum.inr (Sum.inr none)
abbrev Hp : Type := (Nat → Nat) × (Ad → Nat) × (Ad → Nat → Int32) × (Ad → Nat → Int64) × (Ad → Nat → Option Ad)
def cn (h : Hp) : Nat → Nat := h.1
def ln (h : Hp) : Ad → Nat := h.2.1
def vi (h : Hp) : Ad → Nat → Int32 := h.2.2.1
def vl (h : Hp) : Ad → Nat → Int64 := h.2.2.2.1
def vr (h : Hp) : Ad → Nat → Option Ad := h.2.2.2.2
def sI (h : Hp) (a : Ad) (k : Nat) (x : Int32) : Hp := (cn h, ln h, fun b j => if b = a ∧ j = k then x else vi h b j, vl h, vr h)
def sL (h : Hp) (a : Ad) (k : Nat) (x : Int64) : Hp := (cn h, ln h, vi h, fun b j => if b = a ∧ j = k then x else vl h b j, vr h)
def sR (h : Hp) (a : Ad) (k : Nat) (x : Option Ad) : Hp := (cn h, ln h, vi h, vl h, fun b j => if b = a ∧ j = k then x else vr h b j)
/-- a whole array's ints, references anew -/
def sIs (h : Hp) (a : Ad) (f : Nat → Int32) : Hp := (cn h, ln h, fun b j => if b = a then f j else vi h b j, vl h, vr h)
def sRs (h : Hp) (a : Ad) (f : Nat → Option Ad) : Hp := (cn h, ln h, vi h, vl h, fun b j => if b = a then f j else vr h b j)
/-- a new cell of pool p with n places -/
def nw (h : Hp) (p n : Nat) : Hp := (fun q => if q = p then cn h p + 1 else cn h q, fun b => if b = (p, cn h p) then n else ln h b, fun b j => if b = (p, cn h p) then 0 else vi h b j, fun b j => if b = (p, cn h p) then 0 else vl h b j, fun b j => if b = (p, cn h p) then none else vr h b j)
theorem cn_sI (h : Hp) (a : Ad) (k : Nat) (x : Int32) : cn (sI h a k x) = cn h := rfl
theorem ln_sI (h : Hp) (a : Ad) (k : Nat) (x : Int32) : ln (sI h a k x) = ln h := rfl
theorem vi_sI (h : Hp) (a : Ad) (k : Nat) (x : Int32) (b : Ad) (j : Nat) : vi (sI h a k x) b j = if b = a ∧ j = k then x else vi h b j := rfl
theorem vl_sI (h : Hp) (a : Ad) (k : Nat) (x : Int32) : vl (sI h a k x) = vl h := rfl
theorem vr_sI (h : Hp) (a : Ad) (k : Nat) (x : Int32) : vr (sI h a k x) = vr h := rfl
theorem cn_sL (h : Hp) (a : Ad) (k : Nat) (x : Int64) : cn (sL h a k x) = cn h := rfl
theorem ln_sL (h : Hp) (a : Ad) (k : Nat) (x : Int64) : ln (sL h a k x) = ln h := rfl
theorem vi_sL (h : Hp) (a : Ad) (k : Nat) (x : Int64) : vi (sL h a k x) = vi h := rfl
theorem vl_sL (h : Hp) (a : Ad) (k : Nat) (x : Int64) (b : Ad) (j : Nat) : vl (sL h a k x) b j = if b = a ∧ j = k then x else vl h b j := rfl
theorem vr_sL (h : Hp) (a : Ad) (k : Nat) (x : Int64) : vr (sL h a k x) = vr h := rfl
theorem cn_sR (h : Hp) (a : Ad) (k : Nat) (x : Option Ad) : cn (sR h a k x) = cn h := rfl
theorem ln_sR (h : Hp) (a : Ad) (k : Nat) (x : Option Ad) : ln (sR h a k x) = ln h := rfl
theorem vi_sR (h : Hp) (a : Ad) (k : Nat) (x : Option Ad) : vi (sR h a k x) = vi h := rfl
theorem vl_sR (h : Hp) (a : Ad) (k : Nat) (x : Option Ad) : vl (sR h a k x) = vl h := rfl
theorem vr_sR (h : Hp) (a : Ad) (k : Nat) (x : Option Ad) (b : Ad) (j : Nat) : vr (sR h a k x) b j = if b = a ∧ j = k then x else vr h b j := rfl
theorem cn_sIs (h : Hp) (a : Ad) (f : Nat → Int32) : cn (sIs h a f) = cn h := rfl
theorem ln_sIs (h : Hp) (a : Ad) (f : Nat → Int32) : ln (sIs h a f) = ln h := rfl
theorem vi_sIs (h : Hp) (a : Ad) (f : Nat → Int32) (b : Ad) (j : Nat) : vi (sIs h a f) b j = if b = a then f j else vi h b j := rfl
theorem vl_sIs (h : Hp) (a : Ad) (f : Nat → Int32) : vl (sIs h a f) = vl h := rfl
theorem vr_sIs (h : Hp) (a : Ad) (f : Nat → Int32) : vr (sIs h a f) = vr h := rfl
theorem cn_sRs (h : Hp) (a : Ad) (f : Nat → Option Ad) : cn (sRs h a f) = cn h := rfl
theorem ln_sRs (h : Hp) (a : Ad) (f : Nat → Option Ad) : ln (sRs h a f) = ln h := rfl
theorem vi_sRs (h : Hp) (a : Ad) (f : Nat → Option Ad) : vi (sRs h a f) = vi h := rfl
theorem vl_sRs (h : Hp) (a : Ad) (f : Nat → Option Ad) : vl (sRs h a f) = vl h := rfl
theorem vr_sRs (h : Hp) (a : Ad) (f : Nat → Option Ad) (b : Ad) (j : Nat) : vr (sRs h a f) b j = if b = a then f j else vr h b j := rfl
theorem cn_nw (h : Hp) (p n q : Nat) : cn (nw h p n) q = if q = p then cn h p + 1 else cn h q := rfl
theorem ln_nw (h : Hp) (p n : Nat) (b : Ad) : ln (nw h p n) b = if b = (p, cn h p) then n else ln h b := rfl
theorem vi_nw (h : Hp) (p n : Nat) (b : Ad) (j : Nat) : vi (nw h p n) b j = if b = (p, cn h p) then 0 else vi h b j := rfl
theorem vl_nw (h : Hp) (p n : Nat) (b : Ad) (j : Nat) : vl (nw h p n) b j = if b = (p, cn h p) then 0 else vl h b j := rfl
theorem vr_nw (h : Hp) (p n : Nat) (b : Ad) (j : Nat) : vr (nw h p n) b j = if b = (p, cn h p) then none else vr h b j := rfl
/-! how they lie in the machine -/
def er (ad : Ad → Nat) (o : Option Ad) : Value := va_rf (o.map ad)
def em (ad : Ad → Nat) (v : PV) : Value := match v with
  | .inl x => .int x
  | .inr (.inl x) => .long x
  | .inr (.inr o) => er ad o
def ct (v : PV) : Nat := match v with
  | .inr (.inl _) => 2
  | _ => 1
def cs (st : List PV) : Nat := (st.map ct).sum
theorem em_cat (ad : Ad → Nat) (v : PV) : (em ad v).category = ct v := by
  rcases v with x | x | o
  · rfl
  · rfl
  · cases o <;> rfl
theorem em_cs (ad : Ad → Nat) (st : List PV) : ((st.map (em ad)).map fun v => v.category).sum = cs st := by
  unfold cs
  rw [List.map_map]
  congr 1
  exact List.map_congr_left fun v _ => em_cat ad v
def fv (ad : Ad → Nat) (h : Hp) (ci : Nat) (a : Ad) (k : Nat) : Value := match fk ci k with
  | 0 => .int (vi h a k)
  | 1 => .long (vl h a k)
  | _ => er ad (vr h a k)
def ce (cA : Nat → ClassId) (ad : Ad → Nat) (h : Hp) (a : Ad) : va_E := match pk a.1 with
  | .inl ci => .inr (ci, (List.range (nF ci)).map fun k => fv ad h ci a k)
  | .inr t => .inl (cA t, ln h a, if t < 3 then .inl (fun j => vi h a j) else .inr (.inr (.inr (.inr fun j => (vr h a j).map ad))))
def wl (cA : Nat → ClassId) (ad : Ad → Nat) (h : Hp) (al : List Ad) : va_W := al.map fun a => (ad a, ce cA ad h a)
def okr (h : Hp) (o : Option Ad) : Prop := ∀ a, o = some a → a.2 < cn h a.1 ∨ 64 ≤ a.1
def okv (h : Hp) (v : PV) : Prop := match v with
  | .inr (.inr o) => okr h o
  | _ => True
def okS (h : Hp) (st : List PV) : Prop := ∀ v ∈ st, okv h v
def okL (h : Hp) (L : List (Nat × PV)) : Prop := ∀ q ∈ L, okv h q.2
def emL (ad : Ad → Nat) (L : List (Nat × PV)) : List (Nat × Value) := L.map fun q => (q.1, em ad q.2)
/-- the ground: the heap at the law's entry, where the constants lie, the numbers of the classes, of the arrays' classes -/
abbrev G0 : Type := Heap × (Ad → Nat) × va_G × (Nat → ClassId) × (Nat → Bool) × Nat × (Nat → Int32)
def gG (g : G0) : Heap := g.1
def gC (g : G0) : Ad → Nat := g.2.1
def gD (g : G0) : va_G := g.2.2.1
def gA (g : G0) : Nat → ClassId := g.2.2.2.1
def gQ (g : G0) : Nat → Bool := g.2.2.2.2.1
def gL (g : G0) : Nat := g.2.2.2.2.2.1
def gX (g : G0) : Nat → Int32 := g.2.2.2.2.2.2
def gF (g : G0) : Nat → Prop := fun q => (gG g).size ≤ q
def tyl (cA : Nat → ClassId) : List (ClassId × FieldType) := (List.range 6).map fun t => (cA t, aty t)
def Wo (g : G0) (ad : Ad → Nat) (al : List Ad) (h : Hp) (H : Heap) : Prop :=
  (∀ a, a ∈ al ↔ a.2 < cn h a.1 ∧ a.1 < 64) ∧ (∀ a ∈ al, ∀ k, okr h (vr h a k)) ∧ (∀ a : Ad, 64 ≤ a.1 → ad a = gC g a) ∧
  va_P (gD g) vwCl (wl (gA g) ad h al) H ∧ va_D (gF g) (wl (gA g) ad h al) ∧ (gG g).size ≤ H.size ∧ (∀ q, q < (gG g).size → H[q]? = (gG g)[q]?)
def Ex (al : List Ad) (ad : Ad → Nat) (al' : List Ad) (ad' : Ad → Nat) : Prop := (∀ a ∈ al, a ∈ al' ∧ ad' a = ad a) ∧ ∀ a : Ad, 64 ≤ a.1 → ad' a = ad a
theorem Ex.rf {al : List Ad} {ad : Ad → Nat} : Ex al ad al ad := ⟨fun _ h => ⟨h, rfl⟩, fun _ _ => rfl⟩
theorem Ex.tr {al al' al2 : List Ad} {ad ad' ad2 : Ad → Nat} (h1 : Ex al ad al' ad') (h2 : Ex al' ad' al2 ad2) : Ex al ad al2 ad2 :=
  ⟨fun a h => ⟨(h2.1 a (h1.1 a h).1).1, ((h2.1 a (h1.1 a h).1).2).trans (h1.1 a h).2⟩, fun a h => (h2.2 a h).trans (h1.2 a h)⟩
theorem Wo.okr_al {g : G0} {ad : Ad → Nat} {al : List Ad} {h : Hp} {H : Heap} (w : Wo g ad al h H) {o : Option Ad} (ho : okr h o) : ∀ a, o = some a → a ∈ al ∨ 64 ≤ a.1 := by
  intro a ha
  rcases ho a ha with q | q
  · by_cases z : a.1 < 64
    · exact Or.inl ((w.1 a).mpr ⟨q, z⟩)
    · exact Or.inr (by omega)
  · exact Or.inr q
theorem Ex.eqr {al al' : List Ad} {ad ad' : Ad → Nat} (x : Ex al ad al' ad') {o : Option Ad} (ho : ∀ a, o = some a → a ∈ al ∨ 64 ≤ a.1) : er ad' o = er ad o := by
  cases o with
  | none => rfl
  | some a =>
    show va_rf (some (ad' a)) = va_rf (some (ad a))
    rcases ho a rfl with q | q
    · rw [(x.1 a q).2]
    · rw [x.2 a q]
theorem Ex.eqv {al al' : List Ad} {ad ad' : Ad → Nat} (x : Ex al ad al' ad') {g : G0} {h : Hp} {H : Heap} (w : Wo g ad al h H) {v : PV} (hv : okv h v) : em ad' v = em ad v := by
  rcases v with y | y | o
  · rfl
  · rfl
  · exact x.eqr (w.okr_al hv)
theorem Ex.eqS {al al' : List Ad} {ad ad' : Ad → Nat} (x : Ex al ad al' ad') {g : G0} {h : Hp} {H : Heap} (w : Wo g ad al h H) {st : List PV} (hv : okS h st) : st.map (em ad') = st.map (em ad) :=
  List.map_congr_left fun v q => x.eqv w (hv v q)
theorem Ex.eqL {al al' : List Ad} {ad ad' : Ad → Nat} (x : Ex al ad al' ad') {g : G0} {h : Hp} {H : Heap} (w : Wo g ad al h H) {L : List (Nat × PV)} (hv : okL h L) : emL ad' L = emL ad L :=
  List.map_congr_left fun q hq => by show (q.1, _) = (q.1, _); rw [x.eqv w (hv q hq)]
theorem okr_mono {g : G0} {al al' : List Ad} {ad ad' : Ad → Nat} {h h' : Hp} {H H' : Heap} (w : Wo g ad al h H) (w' : Wo g ad' al' h' H') (x : Ex al ad al' ad') {o : Option Ad} (ho : okr h o) : okr h' o := by
  intro a ha
  rcases w.okr_al ho a ha with q | q
  · exact Or.inl ((w'.1 a).mp (x.1 a q).1).1
  · exact Or.inr q
theorem okv_mono {g : G0} {al al' : List Ad} {ad ad' : Ad → Nat} {h h' : Hp} {H H' : Heap} (w : Wo g ad al h H) (w' : Wo g ad' al' h' H') (x : Ex al ad al' ad') {v : PV} (ho : okv h v) : okv h' v := by
  rcases v with y | y | o
  · trivial
  · trivial
  · exact okr_mono w w' x ho
theorem okS_mono {g : G0} {al al' : List Ad} {ad ad' : Ad → Nat} {h h' : Hp} {H H' : Heap} (w : Wo g ad al h H) (w' : Wo g ad' al' h' H') (x : Ex al ad al' ad') {st : List PV} (ho : okS h st) : okS h' st := fun v hv => okv_mono w w' x (ho v hv)
theorem okL_mono {g : G0} {al al' : List Ad} {ad ad' : Ad → Nat} {h h' : Hp} {H H' : Heap} (w : Wo g ad al h H) (w' : Wo g ad' al' h' H') (x : Ex al ad al' ad') {L : List (Nat × PV)} (ho : okL h L) : okL h' L := fun q hq => okv_mono w w' x (ho q hq)
/-- the texts: which, how long, their bytes -/
def strL : List (String × Nat × String × Nat) := [("AlmsHouse$Tape", 61, "put", 0), ("AlmsHouse$Tape", 67, "strike", 1), ("AlmsHouse$Tape", 69, "order", 2), ("AlmsHouse$Tape", 71, "or", 3), ("AlmsHouse$Tape", 73, "and", 4), ("AlmsHouse$Tape", 75, "not", 5), ("AlmsHouse$Tape", 77, "age", 6), ("AlmsHouse$Tape", 79, "years", 7), ("AlmsHouse$Tape", 81, "means", 8), ("AlmsHouse$Tape", 83, "kin", 9), ("AlmsHouse$Tape", 85, "waits", 10), ("AlmsHouseModel", 180, "put", 0), ("AlmsHouseModel", 186, "strike", 1), ("AlmsHouseModel", 188, "order", 2), ("AlmsHouseModel", 194, "not", 5), ("AlmsHouseModel", 190, "or", 3), ("AlmsHouseModel", 192, "and", 4), ("AlmsHouseModel", 199, "age", 6), ("AlmsHouseModel", 201, "years", 7), ("AlmsHouseModel", 203, "means", 8), ("AlmsHouseModel", 205, "kin", 9), ("AlmsHouseModel", 206, "waits", 10)]
def lenS : List Nat := [3, 6, 5, 2, 3, 3, 3, 5, 5, 3, 5]
def bytS : List (List Int32) := [[112, 117, 116], [115, 116, 114, 105, 107, 101], [111, 114, 100, 101, 114], [111, 114], [97, 110, 100], [110, 111, 116], [97, 103, 101], [121, 101, 97, 114, 115], [109, 101, 97, 110, 115], [107, 105, 110], [119, 97, 105, 116, 115]]
/-- a static of which the tables say: null, or a reference -/
def gN (g : G0) (j : Nat) : Option Ad := if gQ g j then none else some (69, j)
def Gs (g : G0) (s : State) : Prop :=
  (∀ q ∈ strL, vk_R q.1 q.2.1 q.2.2.1 (gC g (64, q.2.2.2)) s) ∧ vk_S 11 lenS bytS (fun i => gC g (64, i)) (fun i => gC g (65, i)) (gF g) s (gG g) ∧
  va_Z "java/lang/String" "COMPACT_STRINGS" "Z" (.int 1) (gF g) s (gG g) ∧
  va_Z "java/util/ArrayList" "DEFAULTCAPACITY_EMPTY_ELEMENTDATA" "[Ljava/lang/Object;" (.ref (gC g (66, 0))) (gF g) s (gG g) ∧ va_T (.object "java/lang/Object") (gC g (66, 0)) 0 (fun _ => .null) (gF g) s (gG g) ∧
  va_Z "jdk/internal/util/Preconditions" "SIOOBE_FORMATTER" "Ljava/util/function/BiFunction;" (er (gC g) (gN g 0)) (gF g) s (gG g) ∧
  va_Z "java/lang/Throwable" "UNASSIGNED_STACK" "[Ljava/lang/StackTraceElement;" (er (gC g) (gN g 1)) (gF g) s (gG g) ∧
  va_Z "java/lang/Throwable" "SUPPRESSED_SENTINEL" "Ljava/util/List;" (er (gC g) (gN g 2)) (gF g) s (gG g) ∧
  va_Mi "[Ljava/lang/Object;" (gC g (68, 0)) s ∧ va_T .int (gC g (67, 0)) (gL g) (fun j => .int (gX g j)) (gF g) s (gG g)
/-- what the ground says of the tables of a state -/
def Gd (g : G0) (s : State) : Prop :=
  va_K (gD g) vwCl (tyl (gA g)) s ∧ (∀ w ∈ lw_n, va_Nw w s) ∧ va_AO "java/lang/Object" s ∧ va_AO "AlmsHouse$Change" s ∧ va_AO "AlmsHouseModel$Scheme" s ∧ Gs g s
theorem nw_warm {w : Cond} {s U : State} (hw : isNw w = true) (hW : s.WarmedH U.vm) (h : va_Nw w s) : va_Nw w U := by
  cases w <;> first | exact h.warmF hW | exact va_Nw.warmF hW h | exact va_Nw.warmM hW h | exact va_Nw.warmC hW h | exact va_Nw.warmD hW h | (exfalso; revert hw; simp [isNw])
theorem Gs.warm {g : G0} {s U : State} (hW : s.WarmedH U.vm) (h : Gs g s) : Gs g U := by
  obtain ⟨h1, h2, h3, h4, h5, h6, h7, h8, h9, h10⟩ := h
  exact ⟨fun q hq => (h1 q hq).warm hW, h2.moved hW.alike, h3.moved hW.alike, h4.moved hW.alike, h5.moved hW.alike, h6.moved hW.alike, h7.moved hW.alike, h8.moved hW.alike, h9.moved hW.alike, h10.moved hW.alike⟩
theorem Gd.warm {g : G0} {s U : State} (hW : s.WarmedH U.vm) (h : Gd g s) : Gd g U :=
  ⟨va_K.moved hW.alike h.1, fun w hw => nw_warm (List.mem_filter.mp hw).2 hW (h.2.1 w hw), va_AO.moved hW.alike h.2.2.1, va_AO.moved hW.alike h.2.2.2.1, va_AO.moved hW.alike h.2.2.2.2.1, h.2.2.2.2.2.warm hW⟩
