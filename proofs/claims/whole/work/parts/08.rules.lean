def lk : Nat → List (Nat × PV) → Option PV
  | _, [] => none
  | i, q :: t => if i = q.1 then some q.2 else lk i t
theorem lk_mem : ∀ {L : List (Nat × PV)} {i : Nat} {v : PV}, lk i L = some v → (i, v) ∈ L
  | [], _, _, h => by cases h
  | q :: t, i, v, h => by
    unfold lk at h
    by_cases c : i = q.1
    · rw [if_pos c] at h
      have e : q = (i, v) := by rw [c, ← Option.some.inj h]
      rw [e]
      exact List.mem_cons_self
    · rw [if_neg c] at h
      exact List.mem_cons_of_mem _ (lk_mem h)
def sto (i : Nat) (v : PV) (L : List (Nat × PV)) : List (Nat × PV) := (i, v) :: L.filter (fun q => !(q.1 == i) && !(q.1 + 1 == i && ct q.2 == 2))
def sto2 (i : Nat) (v : PV) (L : List (Nat × PV)) : List (Nat × PV) := (i, v) :: L.filter (fun q => !(q.1 == i) && (!(q.1 == i + 1) && !(q.1 + 1 == i && ct q.2 == 2)))
theorem emL_sto (ad : Ad → Nat) (i : Nat) (v : PV) (L : List (Nat × PV)) : (i, em ad v) :: (emL ad L).filter (fun q => !(q.1 == i) && !(q.1 + 1 == i && q.2.category == 2)) = emL ad (sto i v L) := by
  unfold sto emL
  rw [List.map_cons, List.filter_map]
  congr 2
  apply List.filter_congr
  intro q _
  simp only [Function.comp, em_cat]
theorem emL_sto2 (ad : Ad → Nat) (i : Nat) (v : PV) (L : List (Nat × PV)) : (i, em ad v) :: (emL ad L).filter (fun q => !(q.1 == i) && (!(q.1 == i + 1) && !(q.1 + 1 == i && q.2.category == 2))) = emL ad (sto2 i v L) := by
  unfold sto2 emL
  rw [List.map_cons, List.filter_map]
  congr 2
  apply List.filter_congr
  intro q _
  simp only [Function.comp, em_cat]
theorem okL_sto {h : Hp} {i : Nat} {v : PV} {L : List (Nat × PV)} (hv : okv h v) (hL : okL h L) : okL h (sto i v L) := by
  intro q hq
  rcases List.mem_cons.mp hq with rfl | hq
  · exact hv
  · exact hL q (List.mem_filter.mp hq).1
theorem okL_sto2 {h : Hp} {i : Nat} {v : PV} {L : List (Nat × PV)} (hv : okv h v) (hL : okL h L) : okL h (sto2 i v L) := by
  intro q hq
  rcases List.mem_cons.mp hq with rfl | hq
  · exact hv
  · exact hL q (List.mem_filter.mp hq).1
theorem lv_lk {ls : Array Slot} {n : Nat} {ad : Ad → Nat} {L : List (Nat × PV)} {i : Nat} {v : PV} (hl : lv_has ls n (emL ad L)) (h : lk i L = some v) : ls[i]? = some (.val (em ad v)) :=
  hl.2.2 (i, em ad v) (List.mem_map.mpr ⟨(i, v), lk_mem h, rfl⟩)
theorem okS.t {h : Hp} {v : PV} {st : List PV} (x : okS h (v :: st)) : okS h st := fun w hw => x w (List.mem_cons_of_mem _ hw)
theorem okS.hd {h : Hp} {v : PV} {st : List PV} (x : okS h (v :: st)) : okv h v := x v List.mem_cons_self
theorem okS.c {h : Hp} {v : PV} {st : List PV} (hv : okv h v) (x : okS h st) : okS h (v :: st) := fun w hw => by
  rcases List.mem_cons.mp hw with rfl | hw
  · exact hv
  · exact x w hw
section VR1
variable {g : G0} {k : Kf} {dd rc rs pc : Nat} {L : List (Nat × PV)} {st : List PV} {h : Hp} {Q : Option PV → Hp → Prop} {E : EP}
theorem v_iconst {n : Int} (v : Int32) (d : decode (kC k) pc = .ok (.iconst n, 1)) (hv : Int32.ofInt n = v) (K : V g k dd rc rs (pc + 1) L (pI v :: st) h Q E) : V g k dd rc rs (pc) L (st) h Q E := by
  intro p l e R s m args below meth c Z al0 ad0 ad al H locs cells slots ls cx hrc hec w x0 hS hl hL hs hc hsl
  exact lv_iconst cx.1 cx.2.1 d hv (K p l e R s m args below meth c Z al0 ad0 ad al H locs cells slots ls cx hrc hec w x0 hS hl hL (okS.c trivial hs) hc hsl)
theorem v_bipush {n : Int} (v : Int32) (d : decode (kC k) pc = .ok (.bipush n, 2)) (hv : (Int8.ofInt n).toInt32 = v) (K : V g k dd rc rs (pc + 2) L (pI v :: st) h Q E) : V g k dd rc rs (pc) L (st) h Q E := by
  intro p l e R s m args below meth c Z al0 ad0 ad al H locs cells slots ls cx hrc hec w x0 hS hl hL hs hc hsl
  exact lv_bipush cx.1 cx.2.1 d hv (K p l e R s m args below meth c Z al0 ad0 ad al H locs cells slots ls cx hrc hec w x0 hS hl hL (okS.c trivial hs) hc hsl)
theorem v_sipush {n : Int} (v : Int32) (d : decode (kC k) pc = .ok (.sipush n, 3)) (hv : (Int16.ofInt n).toInt32 = v) (K : V g k dd rc rs (pc + 3) L (pI v :: st) h Q E) : V g k dd rc rs (pc) L (st) h Q E := by
  intro p l e R s m args below meth c Z al0 ad0 ad al H locs cells slots ls cx hrc hec w x0 hS hl hL hs hc hsl
  exact lv_sipush cx.1 cx.2.1 d hv (K p l e R s m args below meth c Z al0 ad0 ad al H locs cells slots ls cx hrc hec w x0 hS hl hL (okS.c trivial hs) hc hsl)
theorem v_lconst {n : Fin 2} (v : Int64) (d : decode (kC k) pc = .ok (.lconst n, 1)) (hv : Int64.ofNat (n : Nat) = v) (K : V g k dd rc rs (pc + 1) L (pL v :: st) h Q E) : V g k dd rc rs (pc) L (st) h Q E := by
  intro p l e R s m args below meth c Z al0 ad0 ad al H locs cells slots ls cx hrc hec w x0 hS hl hL hs hc hsl
  exact lv_lconst cx.1 cx.2.1 d hv (K p l e R s m args below meth c Z al0 ad0 ad al H locs cells slots ls cx hrc hec w x0 hS hl hL (okS.c trivial hs) hc hsl)
theorem v_ldc {i : Nat} (v : Int32) (d : decode (kC k) pc = .ok (.ldc i, 2)) (hw : Cond.constant (kO k) i v ∈ lw_g) (K : V g k dd rc rs (pc + 2) L (pI v :: st) h Q E) : V g k dd rc rs (pc) L (st) h Q E := by
  intro p l e R s m args below meth c Z al0 ad0 ad al H locs cells slots ls cx hrc hec w x0 hS hl hL hs hc hsl
  exact lv_ldc cx.1 cx.2.1 cx.2.2.2.1 (cx.2.2.2.2.1 _ hw) d (K p l e R s m args below meth c Z al0 ad0 ad al H locs cells slots ls cx hrc hec w x0 hS hl hL (okS.c trivial hs) hc hsl)
theorem v_ldcw {i : Nat} (v : Int32) (d : decode (kC k) pc = .ok (.ldc_w i, 3)) (hw : Cond.constant (kO k) i v ∈ lw_g) (K : V g k dd rc rs (pc + 3) L (pI v :: st) h Q E) : V g k dd rc rs (pc) L (st) h Q E := by
  intro p l e R s m args below meth c Z al0 ad0 ad al H locs cells slots ls cx hrc hec w x0 hS hl hL hs hc hsl
  exact lv_ldcw cx.1 cx.2.1 cx.2.2.2.1 (cx.2.2.2.2.1 _ hw) d (K p l e R s m args below meth c Z al0 ad0 ad al H locs cells slots ls cx hrc hec w x0 hS hl hL (okS.c trivial hs) hc hsl)
theorem v_ldc2 {i : Nat} (v : Int64) (d : decode (kC k) pc = .ok (.ldc2_w i, 3)) (hw : Cond.constantLong (kO k) i v ∈ lw_g) (K : V g k dd rc rs (pc + 3) L (pL v :: st) h Q E) : V g k dd rc rs (pc) L (st) h Q E := by
  intro p l e R s m args below meth c Z al0 ad0 ad al H locs cells slots ls cx hrc hec w x0 hS hl hL hs hc hsl
  exact lv_ldc2 cx.1 cx.2.1 cx.2.2.2.1 (cx.2.2.2.2.1 _ hw) d (K p l e R s m args below meth c Z al0 ad0 ad al H locs cells slots ls cx hrc hec w x0 hS hl hL (okS.c trivial hs) hc hsl)
theorem v_null (d : decode (kC k) pc = .ok (.aconst_null, 1)) (K : V g k dd rc rs (pc + 1) L (pN :: st) h Q E) : V g k dd rc rs (pc) L (st) h Q E := by
  intro p l e R s m args below meth c Z al0 ad0 ad al H locs cells slots ls cx hrc hec w x0 hS hl hL hs hc hsl
  exact lv_null cx.1 cx.2.1 d (K p l e R s m args below meth c Z al0 ad0 ad al H locs cells slots ls cx hrc hec w x0 hS hl hL (okS.c (fun a h => by cases h) hs) hc hsl)
theorem v_iload_n {n : Fin 4} {x : Int32} (d : decode (kC k) pc = .ok (.iload_n n, 1)) (hx : lk n.val L = some (pI x)) (K : V g k dd rc rs (pc + 1) L (pI x :: st) h Q E) : V g k dd rc rs (pc) L (st) h Q E := by
  intro p l e R s m args below meth c Z al0 ad0 ad al H locs cells slots ls cx hrc hec w x0 hS hl hL hs hc hsl
  exact lv_iload_n cx.1 cx.2.1 d rfl (lv_lk hl hx) (K p l e R s m args below meth c Z al0 ad0 ad al H locs cells slots ls cx hrc hec w x0 hS hl hL (okS.c trivial hs) hc hsl)
theorem v_iload {n : Nat} {x : Int32} (d : decode (kC k) pc = .ok (.iload n, 2)) (hx : lk n L = some (pI x)) (K : V g k dd rc rs (pc + 2) L (pI x :: st) h Q E) : V g k dd rc rs (pc) L (st) h Q E := by
  intro p l e R s m args below meth c Z al0 ad0 ad al H locs cells slots ls cx hrc hec w x0 hS hl hL hs hc hsl
  exact lv_iload cx.1 cx.2.1 d (lv_lk hl hx) (K p l e R s m args below meth c Z al0 ad0 ad al H locs cells slots ls cx hrc hec w x0 hS hl hL (okS.c trivial hs) hc hsl)
theorem v_lload_n {n : Fin 4} {x : Int64} (d : decode (kC k) pc = .ok (.lload_n n, 1)) (hx : lk n.val L = some (pL x)) (K : V g k dd rc rs (pc + 1) L (pL x :: st) h Q E) : V g k dd rc rs (pc) L (st) h Q E := by
  intro p l e R s m args below meth c Z al0 ad0 ad al H locs cells slots ls cx hrc hec w x0 hS hl hL hs hc hsl
  exact lv_lload_n cx.1 cx.2.1 d rfl (lv_lk hl hx) (K p l e R s m args below meth c Z al0 ad0 ad al H locs cells slots ls cx hrc hec w x0 hS hl hL (okS.c trivial hs) hc hsl)
theorem v_lload {n : Nat} {x : Int64} (d : decode (kC k) pc = .ok (.lload n, 2)) (hx : lk n L = some (pL x)) (K : V g k dd rc rs (pc + 2) L (pL x :: st) h Q E) : V g k dd rc rs (pc) L (st) h Q E := by
  intro p l e R s m args below meth c Z al0 ad0 ad al H locs cells slots ls cx hrc hec w x0 hS hl hL hs hc hsl
  exact lv_lload cx.1 cx.2.1 d (lv_lk hl hx) (K p l e R s m args below meth c Z al0 ad0 ad al H locs cells slots ls cx hrc hec w x0 hS hl hL (okS.c trivial hs) hc hsl)
theorem v_aload_n {n : Fin 4} {o : Option Ad} (d : decode (kC k) pc = .ok (.aload_n n, 1)) (hx : lk n.val L = some (pO o)) (K : V g k dd rc rs (pc + 1) L (pO o :: st) h Q E) : V g k dd rc rs (pc) L (st) h Q E := by
  intro p l e R s m args below meth c Z al0 ad0 ad al H locs cells slots ls cx hrc hec w x0 hS hl hL hs hc hsl
  have K2 := K p l e R s m args below meth c Z al0 ad0 ad al H locs cells slots ls cx hrc hec w x0 hS hl hL (okS.c (hL _ (lk_mem hx)) hs) hc hsl
  cases o with
  | none => exact lv_aload_nN cx.1 cx.2.1 d rfl (lv_lk hl hx) K2
  | some a => exact lv_aload_n cx.1 cx.2.1 d rfl (lv_lk hl hx) K2
theorem v_aload {n : Nat} {o : Option Ad} (d : decode (kC k) pc = .ok (.aload n, 2)) (hx : lk n L = some (pO o)) (K : V g k dd rc rs (pc + 2) L (pO o :: st) h Q E) : V g k dd rc rs (pc) L (st) h Q E := by
  intro p l e R s m args below meth c Z al0 ad0 ad al H locs cells slots ls cx hrc hec w x0 hS hl hL hs hc hsl
  have K2 := K p l e R s m args below meth c Z al0 ad0 ad al H locs cells slots ls cx hrc hec w x0 hS hl hL (okS.c (hL _ (lk_mem hx)) hs) hc hsl
  cases o with
  | none => exact lv_aloadN cx.1 cx.2.1 d (lv_lk hl hx) K2
  | some a => exact lv_aload cx.1 cx.2.1 d (lv_lk hl hx) K2
theorem v_istore_n {n : Fin 4} {x : Int32} (d : decode (kC k) pc = .ok (.istore_n n, 1)) (hn : n.val < kL k) (K : V g k dd rc rs (pc + 1) (sto n.val (pI x) L) (st) h Q E) : V g k dd rc rs (pc) L (pI x :: st) h Q E := by
  intro p l e R s m args below meth c Z al0 ad0 ad al H locs cells slots ls cx hrc hec w x0 hS hl hL hs hc hsl
  exact lv_istore_n cx.1 cx.2.1 d rfl hl hn (emL_sto ad n.val (pI x) L) (fun ls hl => (K p l e R s m args below meth c Z al0 ad0 ad al H locs cells slots ls cx hrc hec w x0 hS hl (okL_sto trivial hL) hs.t hc hsl))
theorem v_istore {n : Nat} {x : Int32} (d : decode (kC k) pc = .ok (.istore n, 2)) (hn : n < kL k) (K : V g k dd rc rs (pc + 2) (sto n (pI x) L) (st) h Q E) : V g k dd rc rs (pc) L (pI x :: st) h Q E := by
  intro p l e R s m args below meth c Z al0 ad0 ad al H locs cells slots ls cx hrc hec w x0 hS hl hL hs hc hsl
  exact lv_istore cx.1 cx.2.1 d hl hn (emL_sto ad n (pI x) L) (fun ls hl => (K p l e R s m args below meth c Z al0 ad0 ad al H locs cells slots ls cx hrc hec w x0 hS hl (okL_sto trivial hL) hs.t hc hsl))
theorem v_lstore_n {n : Fin 4} {x : Int64} (d : decode (kC k) pc = .ok (.lstore_n n, 1)) (hn : n.val + 1 < kL k) (K : V g k dd rc rs (pc + 1) (sto2 n.val (pL x) L) (st) h Q E) : V g k dd rc rs (pc) L (pL x :: st) h Q E := by
  intro p l e R s m args below meth c Z al0 ad0 ad al H locs cells slots ls cx hrc hec w x0 hS hl hL hs hc hsl
  exact lv_lstore_n cx.1 cx.2.1 d rfl hl hn (emL_sto2 ad n.val (pL x) L) (fun ls hl => (K p l e R s m args below meth c Z al0 ad0 ad al H locs cells slots ls cx hrc hec w x0 hS hl (okL_sto2 trivial hL) hs.t hc hsl))
theorem v_lstore {n : Nat} {x : Int64} (d : decode (kC k) pc = .ok (.lstore n, 2)) (hn : n + 1 < kL k) (K : V g k dd rc rs (pc + 2) (sto2 n (pL x) L) (st) h Q E) : V g k dd rc rs (pc) L (pL x :: st) h Q E := by
  intro p l e R s m args below meth c Z al0 ad0 ad al H locs cells slots ls cx hrc hec w x0 hS hl hL hs hc hsl
  exact lv_lstore cx.1 cx.2.1 d hl hn (emL_sto2 ad n (pL x) L) (fun ls hl => (K p l e R s m args below meth c Z al0 ad0 ad al H locs cells slots ls cx hrc hec w x0 hS hl (okL_sto2 trivial hL) hs.t hc hsl))
theorem v_astore_n {n : Fin 4} {o : Option Ad} (d : decode (kC k) pc = .ok (.astore_n n, 1)) (hn : n.val < kL k) (K : V g k dd rc rs (pc + 1) (sto n.val (pO o) L) (st) h Q E) : V g k dd rc rs (pc) L (pO o :: st) h Q E := by
  intro p l e R s m args below meth c Z al0 ad0 ad al H locs cells slots ls cx hrc hec w x0 hS hl hL hs hc hsl
  have K2 := fun ls hl => K p l e R s m args below meth c Z al0 ad0 ad al H locs cells slots ls cx hrc hec w x0 hS hl (okL_sto hs.hd hL) hs.t hc hsl
  cases o with
  | none => exact lv_astore_nN cx.1 cx.2.1 d rfl hl hn (emL_sto ad n.val (pO none) L) K2
  | some a => exact lv_astore_n cx.1 cx.2.1 d rfl hl hn (emL_sto ad n.val (pO (some a)) L) K2
theorem v_astore {n : Nat} {o : Option Ad} (d : decode (kC k) pc = .ok (.astore n, 2)) (hn : n < kL k) (K : V g k dd rc rs (pc + 2) (sto n (pO o) L) (st) h Q E) : V g k dd rc rs (pc) L (pO o :: st) h Q E := by
  intro p l e R s m args below meth c Z al0 ad0 ad al H locs cells slots ls cx hrc hec w x0 hS hl hL hs hc hsl
  have K2 := fun ls hl => K p l e R s m args below meth c Z al0 ad0 ad al H locs cells slots ls cx hrc hec w x0 hS hl (okL_sto hs.hd hL) hs.t hc hsl
  cases o with
  | none => exact lv_astoreN cx.1 cx.2.1 d hl hn (emL_sto ad n (pO none) L) K2
  | some a => exact lv_astore cx.1 cx.2.1 d hl hn (emL_sto ad n (pO (some a)) L) K2
theorem v_iinc {n : Nat} {m : Int} {x : Int32} (v : Int32) (d : decode (kC k) pc = .ok (.iinc n m, 3)) (hx : lk n L = some (pI x)) (hv : x + Int32.ofInt m = v) (hn : n < kL k) (K : V g k dd rc rs (pc + 3) (sto n (pI v) L) (st) h Q E) : V g k dd rc rs (pc) L (st) h Q E := by
  intro p l e R s m args below meth c Z al0 ad0 ad al H locs cells slots ls cx hrc hec w x0 hS hl hL hs hc hsl
  obtain ⟨j, hj⟩ := List.getElem?_of_mem (lk_mem hx)
  have hj2 : (emL ad L)[j]? = some (n, .int x) := by unfold emL; rw [List.getElem?_map, hj]; rfl
  exact lv_iinc cx.1 cx.2.1 d hl hj2 hv hn (emL_sto ad n (pI v) L) (fun ls hl => (K p l e R s m args below meth c Z al0 ad0 ad al H locs cells slots ls cx hrc hec w x0 hS hl (okL_sto trivial hL) hs hc hsl))
theorem v_iadd {x y : Int32} (d : decode (kC k) pc = .ok (.iadd, 1)) (K : V g k dd rc rs (pc + 1) L (pI (x + y) :: st) h Q E) : V g k dd rc rs (pc) L (pI y :: pI x :: st) h Q E := by
  intro p l e R s m args below meth c Z al0 ad0 ad al H locs cells slots ls cx hrc hec w x0 hS hl hL hs hc hsl
  exact lv_iadd cx.1 cx.2.1 d (K p l e R s m args below meth c Z al0 ad0 ad al H locs cells slots ls cx hrc hec w x0 hS hl hL (okS.c trivial hs.t.t) hc hsl)
theorem v_isub {x y : Int32} (d : decode (kC k) pc = .ok (.isub, 1)) (K : V g k dd rc rs (pc + 1) L (pI (x - y) :: st) h Q E) : V g k dd rc rs (pc) L (pI y :: pI x :: st) h Q E := by
  intro p l e R s m args below meth c Z al0 ad0 ad al H locs cells slots ls cx hrc hec w x0 hS hl hL hs hc hsl
  exact lv_isub cx.1 cx.2.1 d (K p l e R s m args below meth c Z al0 ad0 ad al H locs cells slots ls cx hrc hec w x0 hS hl hL (okS.c trivial hs.t.t) hc hsl)
theorem v_imul {x y : Int32} (d : decode (kC k) pc = .ok (.imul, 1)) (K : V g k dd rc rs (pc + 1) L (pI (x * y) :: st) h Q E) : V g k dd rc rs (pc) L (pI y :: pI x :: st) h Q E := by
  intro p l e R s m args below meth c Z al0 ad0 ad al H locs cells slots ls cx hrc hec w x0 hS hl hL hs hc hsl
  exact lv_imul cx.1 cx.2.1 d (K p l e R s m args below meth c Z al0 ad0 ad al H locs cells slots ls cx hrc hec w x0 hS hl hL (okS.c trivial hs.t.t) hc hsl)
theorem v_iand {x y : Int32} (d : decode (kC k) pc = .ok (.iand, 1)) (K : V g k dd rc rs (pc + 1) L (pI (x &&& y) :: st) h Q E) : V g k dd rc rs (pc) L (pI y :: pI x :: st) h Q E := by
  intro p l e R s m args below meth c Z al0 ad0 ad al H locs cells slots ls cx hrc hec w x0 hS hl hL hs hc hsl
  exact lv_iand cx.1 cx.2.1 d (K p l e R s m args below meth c Z al0 ad0 ad al H locs cells slots ls cx hrc hec w x0 hS hl hL (okS.c trivial hs.t.t) hc hsl)
theorem v_ior {x y : Int32} (d : decode (kC k) pc = .ok (.ior, 1)) (K : V g k dd rc rs (pc + 1) L (pI (x ||| y) :: st) h Q E) : V g k dd rc rs (pc) L (pI y :: pI x :: st) h Q E := by
  intro p l e R s m args below meth c Z al0 ad0 ad al H locs cells slots ls cx hrc hec w x0 hS hl hL hs hc hsl
  exact lv_ior cx.1 cx.2.1 d (K p l e R s m args below meth c Z al0 ad0 ad al H locs cells slots ls cx hrc hec w x0 hS hl hL (okS.c trivial hs.t.t) hc hsl)
theorem v_ixor {x y : Int32} (d : decode (kC k) pc = .ok (.ixor, 1)) (K : V g k dd rc rs (pc + 1) L (pI (x ^^^ y) :: st) h Q E) : V g k dd rc rs (pc) L (pI y :: pI x :: st) h Q E := by
  intro p l e R s m args below meth c Z al0 ad0 ad al H locs cells slots ls cx hrc hec w x0 hS hl hL hs hc hsl
  exact lv_ixor cx.1 cx.2.1 d (K p l e R s m args below meth c Z al0 ad0 ad al H locs cells slots ls cx hrc hec w x0 hS hl hL (okS.c trivial hs.t.t) hc hsl)
theorem v_idiv {x y : Int32} (d : decode (kC k) pc = .ok (.idiv, 1)) (hy : ¬ y = 0) (K : V g k dd rc rs (pc + 1) L (pI (x / y) :: st) h Q E) : V g k dd rc rs (pc) L (pI y :: pI x :: st) h Q E := by
  intro p l e R s m args below meth c Z al0 ad0 ad al H locs cells slots ls cx hrc hec w x0 hS hl hL hs hc hsl
  exact lv_idiv cx.1 cx.2.1 d hy (K p l e R s m args below meth c Z al0 ad0 ad al H locs cells slots ls cx hrc hec w x0 hS hl hL (okS.c trivial hs.t.t) hc hsl)
theorem v_irem {x y : Int32} (d : decode (kC k) pc = .ok (.irem, 1)) (hy : ¬ y = 0) (K : V g k dd rc rs (pc + 1) L (pI (x - x / y * y) :: st) h Q E) : V g k dd rc rs (pc) L (pI y :: pI x :: st) h Q E := by
  intro p l e R s m args below meth c Z al0 ad0 ad al H locs cells slots ls cx hrc hec w x0 hS hl hL hs hc hsl
  exact lv_irem cx.1 cx.2.1 d hy (K p l e R s m args below meth c Z al0 ad0 ad al H locs cells slots ls cx hrc hec w x0 hS hl hL (okS.c trivial hs.t.t) hc hsl)
theorem v_ishl {x y : Int32} (d : decode (kC k) pc = .ok (.ishl, 1)) (K : V g k dd rc rs (pc + 1) L (pI (x <<< (y &&& 31)) :: st) h Q E) : V g k dd rc rs (pc) L (pI y :: pI x :: st) h Q E := by
  intro p l e R s m args below meth c Z al0 ad0 ad al H locs cells slots ls cx hrc hec w x0 hS hl hL hs hc hsl
  exact lv_ishl cx.1 cx.2.1 d (K p l e R s m args below meth c Z al0 ad0 ad al H locs cells slots ls cx hrc hec w x0 hS hl hL (okS.c trivial hs.t.t) hc hsl)
theorem v_ishr {x y : Int32} (d : decode (kC k) pc = .ok (.ishr, 1)) (K : V g k dd rc rs (pc + 1) L (pI (x >>> (y &&& 31)) :: st) h Q E) : V g k dd rc rs (pc) L (pI y :: pI x :: st) h Q E := by
  intro p l e R s m args below meth c Z al0 ad0 ad al H locs cells slots ls cx hrc hec w x0 hS hl hL hs hc hsl
  exact lv_ishr cx.1 cx.2.1 d (K p l e R s m args below meth c Z al0 ad0 ad al H locs cells slots ls cx hrc hec w x0 hS hl hL (okS.c trivial hs.t.t) hc hsl)
theorem v_iushr {x y : Int32} (d : decode (kC k) pc = .ok (.iushr, 1)) (K : V g k dd rc rs (pc + 1) L (pI ((x.toUInt32 >>> (y.toUInt32 &&& Int32.toUInt32 31)).toInt32) :: st) h Q E) : V g k dd rc rs (pc) L (pI y :: pI x :: st) h Q E := by
  intro p l e R s m args below meth c Z al0 ad0 ad al H locs cells slots ls cx hrc hec w x0 hS hl hL hs hc hsl
  exact lv_iushr cx.1 cx.2.1 d rfl (K p l e R s m args below meth c Z al0 ad0 ad al H locs cells slots ls cx hrc hec w x0 hS hl hL (okS.c trivial hs.t.t) hc hsl)
theorem v_ladd {x y : Int64} (d : decode (kC k) pc = .ok (.ladd, 1)) (K : V g k dd rc rs (pc + 1) L (pL (x + y) :: st) h Q E) : V g k dd rc rs (pc) L (pL y :: pL x :: st) h Q E := by
  intro p l e R s m args below meth c Z al0 ad0 ad al H locs cells slots ls cx hrc hec w x0 hS hl hL hs hc hsl
  exact lv_ladd cx.1 cx.2.1 d (K p l e R s m args below meth c Z al0 ad0 ad al H locs cells slots ls cx hrc hec w x0 hS hl hL (okS.c trivial hs.t.t) hc hsl)
theorem v_lmul {x y : Int64} (d : decode (kC k) pc = .ok (.lmul, 1)) (K : V g k dd rc rs (pc + 1) L (pL (x * y) :: st) h Q E) : V g k dd rc rs (pc) L (pL y :: pL x :: st) h Q E := by
  intro p l e R s m args below meth c Z al0 ad0 ad al H locs cells slots ls cx hrc hec w x0 hS hl hL hs hc hsl
  exact lv_lmul cx.1 cx.2.1 d (K p l e R s m args below meth c Z al0 ad0 ad al H locs cells slots ls cx hrc hec w x0 hS hl hL (okS.c trivial hs.t.t) hc hsl)
theorem v_lsub {x y : Int64} (d : decode (kC k) pc = .ok (.lsub, 1)) (K : V g k dd rc rs (pc + 1) L (pL (x - y) :: st) h Q E) : V g k dd rc rs (pc) L (pL y :: pL x :: st) h Q E := by
  intro p l e R s m args below meth c Z al0 ad0 ad al H locs cells slots ls cx hrc hec w x0 hS hl hL hs hc hsl
  exact lv_lsub cx.1 cx.2.1 d (K p l e R s m args below meth c Z al0 ad0 ad al H locs cells slots ls cx hrc hec w x0 hS hl hL (okS.c trivial hs.t.t) hc hsl)
theorem v_i2l {x : Int32} (d : decode (kC k) pc = .ok (.i2l, 1)) (K : V g k dd rc rs (pc + 1) L (pL x.toInt64 :: st) h Q E) : V g k dd rc rs (pc) L (pI x :: st) h Q E := by
  intro p l e R s m args below meth c Z al0 ad0 ad al H locs cells slots ls cx hrc hec w x0 hS hl hL hs hc hsl
  exact lv_i2l cx.1 cx.2.1 d rfl (K p l e R s m args below meth c Z al0 ad0 ad al H locs cells slots ls cx hrc hec w x0 hS hl hL (okS.c trivial hs.t) hc hsl)
theorem v_l2i {x : Int64} (d : decode (kC k) pc = .ok (.l2i, 1)) (K : V g k dd rc rs (pc + 1) L (pI x.toInt32 :: st) h Q E) : V g k dd rc rs (pc) L (pL x :: st) h Q E := by
  intro p l e R s m args below meth c Z al0 ad0 ad al H locs cells slots ls cx hrc hec w x0 hS hl hL hs hc hsl
  exact lv_l2i cx.1 cx.2.1 d rfl (K p l e R s m args below meth c Z al0 ad0 ad al H locs cells slots ls cx hrc hec w x0 hS hl hL (okS.c trivial hs.t) hc hsl)
theorem v_i2b {x : Int32} (d : decode (kC k) pc = .ok (.i2b, 1)) (K : V g k dd rc rs (pc + 1) L (pI x.toInt8.toInt32 :: st) h Q E) : V g k dd rc rs (pc) L (pI x :: st) h Q E := by
  intro p l e R s m args below meth c Z al0 ad0 ad al H locs cells slots ls cx hrc hec w x0 hS hl hL hs hc hsl
  exact lv_i2b cx.1 cx.2.1 d rfl (K p l e R s m args below meth c Z al0 ad0 ad al H locs cells slots ls cx hrc hec w x0 hS hl hL (okS.c trivial hs.t) hc hsl)
theorem v_i2c {x : Int32} (d : decode (kC k) pc = .ok (.i2c, 1)) (K : V g k dd rc rs (pc + 1) L (pI (x.toUInt32 % 65536).toInt32 :: st) h Q E) : V g k dd rc rs (pc) L (pI x :: st) h Q E := by
  intro p l e R s m args below meth c Z al0 ad0 ad al H locs cells slots ls cx hrc hec w x0 hS hl hL hs hc hsl
  exact lv_i2c cx.1 cx.2.1 d rfl (K p l e R s m args below meth c Z al0 ad0 ad al H locs cells slots ls cx hrc hec w x0 hS hl hL (okS.c trivial hs.t) hc hsl)
theorem v_lcmp {x y : Int64} (d : decode (kC k) pc = .ok (.lcmp, 1)) (K : V g k dd rc rs (pc + 1) L (pI (lg_cmp x y) :: st) h Q E) : V g k dd rc rs (pc) L (pL y :: pL x :: st) h Q E := by
  intro p l e R s m args below meth c Z al0 ad0 ad al H locs cells slots ls cx hrc hec w x0 hS hl hL hs hc hsl
  exact W.lcmp cx.1 cx.2.1 d (K p l e R s m args below meth c Z al0 ad0 ad al H locs cells slots ls cx hrc hec w x0 hS hl hL (okS.c trivial hs.t.t) hc hsl)
theorem v_dup {v : PV} (d : decode (kC k) pc = .ok (.dup, 1)) (hv : ct v = 1) (K : V g k dd rc rs (pc + 1) L (v :: v :: st) h Q E) : V g k dd rc rs (pc) L (v :: st) h Q E := by
  intro p l e R s m args below meth c Z al0 ad0 ad al H locs cells slots ls cx hrc hec w x0 hS hl hL hs hc hsl
  exact lv_dup cx.1 cx.2.1 d ((em_cat ad v).trans hv) (K p l e R s m args below meth c Z al0 ad0 ad al H locs cells slots ls cx hrc hec w x0 hS hl hL (okS.c hs.hd hs) hc hsl)
theorem v_pop {v : PV} (d : decode (kC k) pc = .ok (.pop, 1)) (hv : ct v = 1) (K : V g k dd rc rs (pc + 1) L (st) h Q E) : V g k dd rc rs (pc) L (v :: st) h Q E := by
  intro p l e R s m args below meth c Z al0 ad0 ad al H locs cells slots ls cx hrc hec w x0 hS hl hL hs hc hsl
  exact lv_pop cx.1 cx.2.1 d ((em_cat ad v).trans hv) (K p l e R s m args below meth c Z al0 ad0 ad al H locs cells slots ls cx hrc hec w x0 hS hl hL hs.t hc hsl)
theorem v_dup_x1 {v u : PV} (d : decode (kC k) pc = .ok (.dup_x1, 1)) (hv : ct v = 1) (hu : ct u = 1) (K : V g k dd rc rs (pc + 1) L (v :: u :: v :: st) h Q E) : V g k dd rc rs (pc) L (v :: u :: st) h Q E := by
  intro p l e R s m args below meth c Z al0 ad0 ad al H locs cells slots ls cx hrc hec w x0 hS hl hL hs hc hsl
  exact lv_dup_x1 cx.1 cx.2.1 d ((em_cat ad v).trans hv) ((em_cat ad u).trans hu) (K p l e R s m args below meth c Z al0 ad0 ad al H locs cells slots ls cx hrc hec w x0 hS hl hL (okS.c hs.hd (okS.c hs.t.hd (okS.c hs.hd hs.t.t))) hc hsl)
theorem v_dup2 {v u : PV} (d : decode (kC k) pc = .ok (.dup2, 1)) (hv : ct v = 1) (hu : ct u = 1) (K : V g k dd rc rs (pc + 1) L (v :: u :: v :: u :: st) h Q E) : V g k dd rc rs (pc) L (v :: u :: st) h Q E := by
  intro p l e R s m args below meth c Z al0 ad0 ad al H locs cells slots ls cx hrc hec w x0 hS hl hL hs hc hsl
  exact lv_dup2_11 cx.1 cx.2.1 d ((em_cat ad v).trans hv) ((em_cat ad u).trans hu) (K p l e R s m args below meth c Z al0 ad0 ad al H locs cells slots ls cx hrc hec w x0 hS hl hL (okS.c hs.hd (okS.c hs.t.hd hs)) hc hsl)
theorem v_if_eq {x : Int32} {off : Int} (t : Nat) (d : decode (kC k) pc = .ok (.ifCond .eq off, 3)) (ht : (pc : Int) + off = (t : Int)) (KT : x = 0 → V g k dd rc rs (t) L (st) h Q E) (KF : ¬ (x = 0) → V g k dd rc rs (pc + 3) L (st) h Q E) : V g k dd rc rs (pc) L (pI x :: st) h Q E := by
  intro p l e R s m args below meth c Z al0 ad0 ad al H locs cells slots ls cx hrc hec w x0 hS hl hL hs hc hsl
  exact lv_if_eq cx.1 cx.2.1 d ht (fun q => KT q p l e R s m args below meth c Z al0 ad0 ad al H locs cells slots ls cx hrc hec w x0 hS hl hL hs.t hc hsl) (fun q => KF q p l e R s m args below meth c Z al0 ad0 ad al H locs cells slots ls cx hrc hec w x0 hS hl hL hs.t hc hsl)
theorem v_icmp_eq {x y : Int32} {off : Int} (t : Nat) (d : decode (kC k) pc = .ok (.if_icmp .eq off, 3)) (ht : (pc : Int) + off = (t : Int)) (KT : x = y → V g k dd rc rs (t) L (st) h Q E) (KF : ¬ (x = y) → V g k dd rc rs (pc + 3) L (st) h Q E) : V g k dd rc rs (pc) L (pI y :: pI x :: st) h Q E := by
  intro p l e R s m args below meth c Z al0 ad0 ad al H locs cells slots ls cx hrc hec w x0 hS hl hL hs hc hsl
  exact lv_icmp_eq cx.1 cx.2.1 d ht (fun q => KT q p l e R s m args below meth c Z al0 ad0 ad al H locs cells slots ls cx hrc hec w x0 hS hl hL hs.t.t hc hsl) (fun q => KF q p l e R s m args below meth c Z al0 ad0 ad al H locs cells slots ls cx hrc hec w x0 hS hl hL hs.t.t hc hsl)
theorem v_if_ne {x : Int32} {off : Int} (t : Nat) (d : decode (kC k) pc = .ok (.ifCond .ne off, 3)) (ht : (pc : Int) + off = (t : Int)) (KT : ¬ x = 0 → V g k dd rc rs (t) L (st) h Q E) (KF : x = 0 → V g k dd rc rs (pc + 3) L (st) h Q E) : V g k dd rc rs (pc) L (pI x :: st) h Q E := by
  intro p l e R s m args below meth c Z al0 ad0 ad al H locs cells slots ls cx hrc hec w x0 hS hl hL hs hc hsl
  exact lv_if_ne cx.1 cx.2.1 d ht (fun q => KT q p l e R s m args below meth c Z al0 ad0 ad al H locs cells slots ls cx hrc hec w x0 hS hl hL hs.t hc hsl) (fun q => KF q p l e R s m args below meth c Z al0 ad0 ad al H locs cells slots ls cx hrc hec w x0 hS hl hL hs.t hc hsl)
theorem v_icmp_ne {x y : Int32} {off : Int} (t : Nat) (d : decode (kC k) pc = .ok (.if_icmp .ne off, 3)) (ht : (pc : Int) + off = (t : Int)) (KT : ¬ x = y → V g k dd rc rs (t) L (st) h Q E) (KF : x = y → V g k dd rc rs (pc + 3) L (st) h Q E) : V g k dd rc rs (pc) L (pI y :: pI x :: st) h Q E := by
  intro p l e R s m args below meth c Z al0 ad0 ad al H locs cells slots ls cx hrc hec w x0 hS hl hL hs hc hsl
  exact lv_icmp_ne cx.1 cx.2.1 d ht (fun q => KT q p l e R s m args below meth c Z al0 ad0 ad al H locs cells slots ls cx hrc hec w x0 hS hl hL hs.t.t hc hsl) (fun q => KF q p l e R s m args below meth c Z al0 ad0 ad al H locs cells slots ls cx hrc hec w x0 hS hl hL hs.t.t hc hsl)
theorem v_if_lt {x : Int32} {off : Int} (t : Nat) (d : decode (kC k) pc = .ok (.ifCond .lt off, 3)) (ht : (pc : Int) + off = (t : Int)) (KT : x < 0 → V g k dd rc rs (t) L (st) h Q E) (KF : ¬ (x < 0) → V g k dd rc rs (pc + 3) L (st) h Q E) : V g k dd rc rs (pc) L (pI x :: st) h Q E := by
  intro p l e R s m args below meth c Z al0 ad0 ad al H locs cells slots ls cx hrc hec w x0 hS hl hL hs hc hsl
  exact lv_if_lt cx.1 cx.2.1 d ht (fun q => KT q p l e R s m args below meth c Z al0 ad0 ad al H locs cells slots ls cx hrc hec w x0 hS hl hL hs.t hc hsl) (fun q => KF q p l e R s m args below meth c Z al0 ad0 ad al H locs cells slots ls cx hrc hec w x0 hS hl hL hs.t hc hsl)
theorem v_icmp_lt {x y : Int32} {off : Int} (t : Nat) (d : decode (kC k) pc = .ok (.if_icmp .lt off, 3)) (ht : (pc : Int) + off = (t : Int)) (KT : x < y → V g k dd rc rs (t) L (st) h Q E) (KF : ¬ (x < y) → V g k dd rc rs (pc + 3) L (st) h Q E) : V g k dd rc rs (pc) L (pI y :: pI x :: st) h Q E := by
  intro p l e R s m args below meth c Z al0 ad0 ad al H locs cells slots ls cx hrc hec w x0 hS hl hL hs hc hsl
  exact lv_icmp_lt cx.1 cx.2.1 d ht (fun q => KT q p l e R s m args below meth c Z al0 ad0 ad al H locs cells slots ls cx hrc hec w x0 hS hl hL hs.t.t hc hsl) (fun q => KF q p l e R s m args below meth c Z al0 ad0 ad al H locs cells slots ls cx hrc hec w x0 hS hl hL hs.t.t hc hsl)
theorem v_if_ge {x : Int32} {off : Int} (t : Nat) (d : decode (kC k) pc = .ok (.ifCond .ge off, 3)) (ht : (pc : Int) + off = (t : Int)) (KT : 0 ≤ x → V g k dd rc rs (t) L (st) h Q E) (KF : ¬ (0 ≤ x) → V g k dd rc rs (pc + 3) L (st) h Q E) : V g k dd rc rs (pc) L (pI x :: st) h Q E := by
  intro p l e R s m args below meth c Z al0 ad0 ad al H locs cells slots ls cx hrc hec w x0 hS hl hL hs hc hsl
  exact lv_if_ge cx.1 cx.2.1 d ht (fun q => KT q p l e R s m args below meth c Z al0 ad0 ad al H locs cells slots ls cx hrc hec w x0 hS hl hL hs.t hc hsl) (fun q => KF q p l e R s m args below meth c Z al0 ad0 ad al H locs cells slots ls cx hrc hec w x0 hS hl hL hs.t hc hsl)
theorem v_icmp_ge {x y : Int32} {off : Int} (t : Nat) (d : decode (kC k) pc = .ok (.if_icmp .ge off, 3)) (ht : (pc : Int) + off = (t : Int)) (KT : y ≤ x → V g k dd rc rs (t) L (st) h Q E) (KF : ¬ (y ≤ x) → V g k dd rc rs (pc + 3) L (st) h Q E) : V g k dd rc rs (pc) L (pI y :: pI x :: st) h Q E := by
  intro p l e R s m args below meth c Z al0 ad0 ad al H locs cells slots ls cx hrc hec w x0 hS hl hL hs hc hsl
  exact lv_icmp_ge cx.1 cx.2.1 d ht (fun q => KT q p l e R s m args below meth c Z al0 ad0 ad al H locs cells slots ls cx hrc hec w x0 hS hl hL hs.t.t hc hsl) (fun q => KF q p l e R s m args below meth c Z al0 ad0 ad al H locs cells slots ls cx hrc hec w x0 hS hl hL hs.t.t hc hsl)
theorem v_if_gt {x : Int32} {off : Int} (t : Nat) (d : decode (kC k) pc = .ok (.ifCond .gt off, 3)) (ht : (pc : Int) + off = (t : Int)) (KT : 0 < x → V g k dd rc rs (t) L (st) h Q E) (KF : ¬ (0 < x) → V g k dd rc rs (pc + 3) L (st) h Q E) : V g k dd rc rs (pc) L (pI x :: st) h Q E := by
  intro p l e R s m args below meth c Z al0 ad0 ad al H locs cells slots ls cx hrc hec w x0 hS hl hL hs hc hsl
  exact lv_if_gt cx.1 cx.2.1 d ht (fun q => KT q p l e R s m args below meth c Z al0 ad0 ad al H locs cells slots ls cx hrc hec w x0 hS hl hL hs.t hc hsl) (fun q => KF q p l e R s m args below meth c Z al0 ad0 ad al H locs cells slots ls cx hrc hec w x0 hS hl hL hs.t hc hsl)
theorem v_icmp_gt {x y : Int32} {off : Int} (t : Nat) (d : decode (kC k) pc = .ok (.if_icmp .gt off, 3)) (ht : (pc : Int) + off = (t : Int)) (KT : y < x → V g k dd rc rs (t) L (st) h Q E) (KF : ¬ (y < x) → V g k dd rc rs (pc + 3) L (st) h Q E) : V g k dd rc rs (pc) L (pI y :: pI x :: st) h Q E := by
  intro p l e R s m args below meth c Z al0 ad0 ad al H locs cells slots ls cx hrc hec w x0 hS hl hL hs hc hsl
  exact lv_icmp_gt cx.1 cx.2.1 d ht (fun q => KT q p l e R s m args below meth c Z al0 ad0 ad al H locs cells slots ls cx hrc hec w x0 hS hl hL hs.t.t hc hsl) (fun q => KF q p l e R s m args below meth c Z al0 ad0 ad al H locs cells slots ls cx hrc hec w x0 hS hl hL hs.t.t hc hsl)
theorem v_if_le {x : Int32} {off : Int} (t : Nat) (d : decode (kC k) pc = .ok (.ifCond .le off, 3)) (ht : (pc : Int) + off = (t : Int)) (KT : x ≤ 0 → V g k dd rc rs (t) L (st) h Q E) (KF : ¬ (x ≤ 0) → V g k dd rc rs (pc + 3) L (st) h Q E) : V g k dd rc rs (pc) L (pI x :: st) h Q E := by
  intro p l e R s m args below meth c Z al0 ad0 ad al H locs cells slots ls cx hrc hec w x0 hS hl hL hs hc hsl
  exact lv_if_le cx.1 cx.2.1 d ht (fun q => KT q p l e R s m args below meth c Z al0 ad0 ad al H locs cells slots ls cx hrc hec w x0 hS hl hL hs.t hc hsl) (fun q => KF q p l e R s m args below meth c Z al0 ad0 ad al H locs cells slots ls cx hrc hec w x0 hS hl hL hs.t hc hsl)
theorem v_icmp_le {x y : Int32} {off : Int} (t : Nat) (d : decode (kC k) pc = .ok (.if_icmp .le off, 3)) (ht : (pc : Int) + off = (t : Int)) (KT : x ≤ y → V g k dd rc rs (t) L (st) h Q E) (KF : ¬ (x ≤ y) → V g k dd rc rs (pc + 3) L (st) h Q E) : V g k dd rc rs (pc) L (pI y :: pI x :: st) h Q E := by
  intro p l e R s m args below meth c Z al0 ad0 ad al H locs cells slots ls cx hrc hec w x0 hS hl hL hs hc hsl
  exact lv_icmp_le cx.1 cx.2.1 d ht (fun q => KT q p l e R s m args below meth c Z al0 ad0 ad al H locs cells slots ls cx hrc hec w x0 hS hl hL hs.t.t hc hsl) (fun q => KF q p l e R s m args below meth c Z al0 ad0 ad al H locs cells slots ls cx hrc hec w x0 hS hl hL hs.t.t hc hsl)
theorem v_goto {off : Int} (t : Nat) (d : decode (kC k) pc = .ok (.goto off, 3)) (ht : (pc : Int) + off = (t : Int)) (K : V g k dd rc rs (t) L (st) h Q E) : V g k dd rc rs (pc) L (st) h Q E := by
  intro p l e R s m args below meth c Z al0 ad0 ad al H locs cells slots ls cx hrc hec w x0 hS hl hL hs hc hsl
  exact lv_goto cx.1 cx.2.1 d ht (K p l e R s m args below meth c Z al0 ad0 ad al H locs cells slots ls cx hrc hec w x0 hS hl hL hs hc hsl)
theorem v_ifnull {o : Option Ad} {off : Int} (t : Nat) (d : decode (kC k) pc = .ok (.ifnull off, 3)) (ht : (pc : Int) + off = (t : Int)) (KN : o = none → V g k dd rc rs (t) L (st) h Q E) (KS : ∀ a, o = some a → V g k dd rc rs (pc + 3) L (st) h Q E) : V g k dd rc rs (pc) L (pO o :: st) h Q E := by
  intro p l e R s m args below meth c Z al0 ad0 ad al H locs cells slots ls cx hrc hec w x0 hS hl hL hs hc hsl
  cases o with
  | none => exact lv_ifnullN cx.1 cx.2.1 d ht (KN rfl p l e R s m args below meth c Z al0 ad0 ad al H locs cells slots ls cx hrc hec w x0 hS hl hL hs.t hc hsl)
  | some a => exact lv_ifnull cx.1 cx.2.1 d (KS a rfl p l e R s m args below meth c Z al0 ad0 ad al H locs cells slots ls cx hrc hec w x0 hS hl hL hs.t hc hsl)
theorem v_ifnonnull {o : Option Ad} {off : Int} (t : Nat) (d : decode (kC k) pc = .ok (.ifnonnull off, 3)) (ht : (pc : Int) + off = (t : Int)) (KN : o = none → V g k dd rc rs (pc + 3) L (st) h Q E) (KS : ∀ a, o = some a → V g k dd rc rs (t) L (st) h Q E) : V g k dd rc rs (pc) L (pO o :: st) h Q E := by
  intro p l e R s m args below meth c Z al0 ad0 ad al H locs cells slots ls cx hrc hec w x0 hS hl hL hs hc hsl
  cases o with
  | none => exact lv_ifnonnullN cx.1 cx.2.1 d (KN rfl p l e R s m args below meth c Z al0 ad0 ad al H locs cells slots ls cx hrc hec w x0 hS hl hL hs.t hc hsl)
  | some a => exact lv_ifnonnull cx.1 cx.2.1 d ht (KS a rfl p l e R s m args below meth c Z al0 ad0 ad al H locs cells slots ls cx hrc hec w x0 hS hl hL hs.t hc hsl)
theorem v_tableOut {dflt lo hi : Int} {offs : Array Int} {len : Nat} {x : Int32} (t : Nat) (d : decode (kC k) pc = .ok (.tableswitch dflt lo hi offs, len)) (hx : x.toInt < lo ∨ hi < x.toInt) (ht : (pc : Int) + dflt = (t : Int)) (K : V g k dd rc rs (t) L (st) h Q E) : V g k dd rc rs (pc) L (pI x :: st) h Q E := by
  intro p l e R s m args below meth c Z al0 ad0 ad al H locs cells slots ls cx hrc hec w x0 hS hl hL hs hc hsl
  exact lv_tableOut cx.1 cx.2.1 d hx ht (K p l e R s m args below meth c Z al0 ad0 ad al H locs cells slots ls cx hrc hec w x0 hS hl hL hs.t hc hsl)
theorem v_tableIn {dflt lo hi : Int} {offs : Array Int} {len : Nat} {x : Int32} {off : Int} (t : Nat) (d : decode (kC k) pc = .ok (.tableswitch dflt lo hi offs, len)) (h1 : ¬ x.toInt < lo) (h2 : ¬ hi < x.toInt) (ho : offs[(x.toInt - lo).toNat]? = some off) (ht : (pc : Int) + off = (t : Int)) (K : V g k dd rc rs (t) L (st) h Q E) : V g k dd rc rs (pc) L (pI x :: st) h Q E := by
  intro p l e R s m args below meth c Z al0 ad0 ad al H locs cells slots ls cx hrc hec w x0 hS hl hL hs hc hsl
  exact lv_tableIn cx.1 cx.2.1 d h1 h2 ho ht (K p l e R s m args below meth c Z al0 ad0 ad al H locs cells slots ls cx hrc hec w x0 hS hl hL hs.t hc hsl)
theorem v_lookup {dflt : Int} {ps : Array (Int × Int)} {len : Nat} {x : Int32} {off : Int} (t : Nat) (d : decode (kC k) pc = .ok (.lookupswitch dflt ps, len)) (hp : (ps.toList.zip (ps.toList.drop 1)).all (fun (a, next) => a.1 < next.1) = true) (ho : Op.lookupswitch.offset ps.toList dflt x.toInt = off) (ht : (pc : Int) + off = (t : Int)) (K : V g k dd rc rs (t) L (st) h Q E) : V g k dd rc rs (pc) L (pI x :: st) h Q E := by
  intro p l e R s m args below meth c Z al0 ad0 ad al H locs cells slots ls cx hrc hec w x0 hS hl hL hs hc hsl
  exact lv_lookup cx.1 cx.2.1 d hp ho ht (K p l e R s m args below meth c Z al0 ad0 ad al H locs cells slots ls cx hrc hec w x0 hS hl hL hs.t hc hsl)
theorem v_ireturn {x : Int32} {ty : FieldType} (d : decode (kC k) pc = .ok (.ireturn, 1)) (hr : kR k = some ty) (hn : narrow ty (.int x) = .int x) (q : Q (some (pI x)) h) : V g k dd rc rs pc L [pI x] h Q E := by
  intro p l e R s m args below meth c Z al0 ad0 ad al H locs cells slots ls cx hrc hec w x0 hS hl hL hs hc hsl
  exact hrc (some (pI x)) h ad al H locs cells slots pc ls q w x0 hS (fun v hv => by cases hv; trivial) (by omega) (by omega) ⟨d, ty, hr, hn⟩
theorem v_lreturn {x : Int64} (d : decode (kC k) pc = .ok (.lreturn, 1)) (hr : kR k = some .long) (q : Q (some (pL x)) h) : V g k dd rc rs pc L [pL x] h Q E := by
  intro p l e R s m args below meth c Z al0 ad0 ad al H locs cells slots ls cx hrc hec w x0 hS hl hL hs hc hsl
  exact hrc (some (pL x)) h ad al H locs cells slots pc ls q w x0 hS (fun v hv => by cases hv; trivial) (by omega) (by omega) ⟨d, hr⟩
theorem v_areturn {o : Option Ad} {ty : FieldType} (d : decode (kC k) pc = .ok (.areturn, 1)) (hr : kR k = some ty) (hn : (∃ n, ty = .object n) ∨ ∃ u, ty = .array u) (q : Q (some (pO o)) h) : V g k dd rc rs pc L [pO o] h Q E := by
  intro p l e R s m args below meth c Z al0 ad0 ad al H locs cells slots ls cx hrc hec w x0 hS hl hL hs hc hsl
  exact hrc (some (pO o)) h ad al H locs cells slots pc ls q w x0 hS (fun v hv => by cases hv; exact hs.hd) (by omega) (by omega) ⟨d, ty, hr, hn⟩
theorem v_return (d : decode (kC k) pc = .ok (.return_, 1)) (hr : kR k = none) (q : Q none h) : V g k dd rc rs pc L [] h Q E := by
  intro p l e R s m args below meth c Z al0 ad0 ad al H locs cells slots ls cx hrc hec w x0 hS hl hL hs hc hsl
  exact hrc none h ad al H locs cells slots pc ls q w x0 hS (fun v hv => by cases hv) (by omega) (by omega) ⟨d, hr⟩
theorem v_loc (L' : List (Nat × PV)) (hq : L'.map (fun q => lk q.1 L) = L'.map (fun q => some q.2)) (K : V g k dd rc rs pc L' st h Q E) : V g k dd rc rs pc L st h Q E := by
  intro p l e R s m args below meth c Z al0 ad0 ad al H locs cells slots ls cx hrc hec w x0 hS hl hL hs hc hsl
  have key : ∀ q ∈ L', q ∈ L := fun q hq2 => lk_mem ((List.map_inj_left.mp hq) q hq2)
  exact K p l e R s m args below meth c Z al0 ad0 ad al H locs cells slots ls cx hrc hec w x0 hS ⟨hl.1, hl.2.1, fun q hq2 => by
    obtain ⟨q1, h1, h2⟩ := List.mem_map.mp hq2
    exact hl.2.2 q (List.mem_map.mpr ⟨q1, key q1 h1, h2⟩)⟩ (fun q hq2 => hL q (key q hq2)) hs hc hsl
theorem v_less {rc' rs' : Nat} (h1 : rc' ≤ rc) (h2 : rs' ≤ rs) (K : V g k dd rc' rs' pc L st h Q E) : V g k dd rc rs pc L st h Q E := by
  intro p l e R s m args below meth c Z al0 ad0 ad al H locs cells slots ls cx hrc hec w x0 hS hl hL hs hc hsl
  exact K p l e R s m args below meth c Z al0 ad0 ad al H locs cells slots ls cx hrc hec w x0 hS hl hL hs (by omega) (by omega)
theorem v_at {pc' : Nat} (e : pc = pc') (K : V g k dd rc rs pc' L st h Q E) : V g k dd rc rs pc L st h Q E := e ▸ K
end VR1
