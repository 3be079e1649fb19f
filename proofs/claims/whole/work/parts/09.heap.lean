/-! the world under the heap's moves -/
theorem nF_of {ci : Nat} {q : vw_C} (hc : vwCl[ci]? = some q) : nF ci = q.2.2 := by simp [nF, hc]
theorem ce_obj {cA : Nat → ClassId} {ad : Ad → Nat} {h : Hp} {a : Ad} {ci : Nat} (hp : pk a.1 = .inl ci) : ce cA ad h a = .inr (ci, (List.range (nF ci)).map fun k => fv ad h ci a k) := by
  unfold ce; rw [hp]
theorem ce_int {cA : Nat → ClassId} {ad : Ad → Nat} {h : Hp} {a : Ad} {t : Nat} (hp : pk a.1 = .inr t) (ht : t < 3) : ce cA ad h a = .inl (cA t, ln h a, .inl (fun j => vi h a j)) := by
  unfold ce; rw [hp]; simp [ht]
theorem ce_ref {cA : Nat → ClassId} {ad : Ad → Nat} {h : Hp} {a : Ad} {t : Nat} (hp : pk a.1 = .inr t) (ht : ¬ t < 3) : ce cA ad h a = .inl (cA t, ln h a, .inr (.inr (.inr (.inr fun j => (vr h a j).map ad)))) := by
  unfold ce; rw [hp]; simp [ht]
theorem fv_congr {ad ad' : Ad → Nat} {h h' : Hp} {ci : Nat} {a : Ad} {k : Nat} (h1 : vi h' a k = vi h a k) (h2 : vl h' a k = vl h a k) (h3 : er ad' (vr h' a k) = er ad (vr h a k)) : fv ad' h' ci a k = fv ad h ci a k := by
  unfold fv; rw [h1, h2, h3]
theorem ce_congr {cA : Nat → ClassId} {ad ad' : Ad → Nat} {h h' : Hp} {a : Ad} (h0 : ln h' a = ln h a) (h1 : ∀ k, vi h' a k = vi h a k) (h2 : ∀ k, vl h' a k = vl h a k) (h3 : ∀ k, (vr h' a k).map ad' = (vr h a k).map ad) : ce cA ad' h' a = ce cA ad h a := by
  unfold ce
  cases pk a.1 with
  | inl ci =>
    have e : (fun k => fv ad' h' ci a k) = fun k => fv ad h ci a k := funext fun k => fv_congr (h1 k) (h2 k) (by unfold er; rw [h3 k])
    simp only [e]
  | inr t =>
    have e1 : (fun j => vi h' a j) = fun j => vi h a j := funext h1
    have e2 : (fun j => (vr h' a j).map ad') = fun j => (vr h a j).map ad := funext h3
    simp only [h0, e1, e2]
theorem wl_get {cA : Nat → ClassId} {ad : Ad → Nat} {h : Hp} {al : List Ad} {n : Nat} {a : Ad} (hn : al[n]? = some a) : (wl cA ad h al)[n]? = some (ad a, ce cA ad h a) := by
  unfold wl; rw [List.getElem?_map, hn]; rfl
theorem wl_set {cA : Nat → ClassId} {ad : Ad → Nat} {h h' : Hp} {al : List Ad} {n : Nat} {a : Ad} {A : Nat → Prop} (hD : va_D A (wl cA ad h al)) (hn : al[n]? = some a) (hb : ∀ b ∈ al, b ≠ a → ce cA ad h' b = ce cA ad h b) : (wl cA ad h al).set n (ad a, ce cA ad h' a) = wl cA ad h' al := by
  apply List.ext_getElem?
  intro j
  have hl := (List.getElem?_eq_some_iff.mp (wl_get (cA := cA) (ad := ad) (h := h) hn)).1
  by_cases hj : j = n
  · subst hj
    rw [List.getElem?_set_self hl, wl_get hn]
  · rw [List.getElem?_set_ne (Ne.symm hj)]
    cases hb2 : al[j]? with
    | none => unfold wl; rw [List.getElem?_map, List.getElem?_map, hb2]; rfl
    | some b =>
      rw [wl_get hb2, wl_get hb2]
      have hne : b ≠ a := by
        intro e
        subst e
        exact hj (hD.1 j n _ _ (wl_get hb2) (wl_get hn) rfl)
      rw [hb b (List.mem_of_getElem? hb2) hne]
/-- a cell's contents move -/
theorem Wo.set {g : G0} {ad : Ad → Nat} {al : List Ad} {h h' : Hp} {H H' : Heap} {a : Ad} {n : Nat} (w : Wo g ad al h H) (hn : al[n]? = some a) (hcn : cn h' = cn h) (hb : ∀ b ∈ al, b ≠ a → ce (gA g) ad h' b = ce (gA g) ad h b)
    (hr : ∀ b ∈ al, ∀ k, okr h' (vr h' b k)) (hP : va_P (gD g) vwCl ((wl (gA g) ad h al).set n (ad a, ce (gA g) ad h' a)) H') (hD : va_D (gF g) ((wl (gA g) ad h al).set n (ad a, ce (gA g) ad h' a))) {s0 : Heap} {locs : List Loc} (hS : va_S (gF g) s0 H' locs) (hs0 : (gG g).size ≤ s0.size) (hk : ∀ q, q < (gG g).size → H'[q]? = (gG g)[q]?) : Wo g ad al h' H' := by
  have e := wl_set (cA := gA g) (h' := h') w.2.2.2.2.1 hn hb
  rw [e] at hP hD
  exact ⟨fun b => by rw [hcn]; exact w.1 b, hr, w.2.2.1, hP, hD, Nat.le_trans hs0 hS.1, hk⟩
theorem va_S.ground {g : G0} {s0 H : Heap} {locs : List Loc} (hS : va_S (gF g) s0 H locs) (hs0 : (gG g).size ≤ s0.size) {H' : Heap} {locs' : List Loc} (hS' : va_S (gF g) s0 H' locs') (hk : ∀ q, q < (gG g).size → H[q]? = (gG g)[q]?) : ∀ q, q < (gG g).size → H'[q]? = (gG g)[q]? := by
  intro q hq
  have hq0 : q < s0.size := Nat.lt_of_lt_of_le hq hs0
  have n : ¬ gF g q := Nat.not_le.mpr hq
  rw [hS'.2.1 q hq0 n, ← hS.2.1 q hq0 n]
  exact hk q hq
theorem okr_of {h h' : Hp} (hcn : cn h' = cn h) {o : Option Ad} (ho : okr h o) : okr h' o := fun a ha => by rw [hcn]; exact ho a ha
theorem okv_of {h h' : Hp} (hcn : cn h' = cn h) {v : PV} (ho : okv h v) : okv h' v := by
  rcases v with x | x | o
  · trivial
  · trivial
  · exact okr_of hcn ho
theorem okS_of {h h' : Hp} (hcn : cn h' = cn h) {st : List PV} (ho : okS h st) : okS h' st := fun v hv => okv_of hcn (ho v hv)
theorem okL_of {h h' : Hp} (hcn : cn h' = cn h) {L : List (Nat × PV)} (ho : okL h L) : okL h' L := fun v hv => okv_of hcn (ho v hv)
theorem range_set {α : Type} {N k : Nat} {f f' : Nat → α} {v : α} (hk : k < N) (hv : f' k = v) (ho : ∀ j, j ≠ k → f' j = f j) : ((List.range N).map f).set k v = (List.range N).map f' := by
  apply List.ext_getElem?
  intro j
  by_cases hj : j = k
  · subst hj
    rw [List.getElem?_set_self (by simpa using hk), List.getElem?_map, List.getElem?_range hk]
    exact congrArg some hv.symm
  · rw [List.getElem?_set_ne (Ne.symm hj), List.getElem?_map, List.getElem?_map]
    by_cases hl : j < N
    · rw [List.getElem?_range hl]
      exact congrArg some (ho j hj).symm
    · rw [List.getElem?_eq_none (by simpa using Nat.le_of_not_lt hl)]
      rfl
theorem map_up (f f' : Nat → Option Ad) (ad : Ad → Nat) (i : Nat) (o : Option Ad) (hv : f' i = o) (ho : ∀ j, j ≠ i → f' j = f j) : va_up (fun j => (f j).map ad) i (o.map ad) = fun j => (f' j).map ad := by
  funext j
  unfold va_up
  by_cases hj : j = i
  · rw [if_pos hj, hj, hv]
  · rw [if_neg hj, ho j hj]
theorem int_up (f f' : Nat → Int32) (i : Nat) (x : Int32) (hv : f' i = x) (ho : ∀ j, j ≠ i → f' j = f j) : upd f i x = f' := by
  funext j
  by_cases hj : j = i
  · subst hj; rw [pk_us, hv]
  · rw [pk_un hj, ho j hj]
theorem tyl_at (cA : Nat → ClassId) {t : Nat} (ht : t < 6) : (tyl cA)[t]? = some (cA t, aty t) := by
  unfold tyl; rw [List.getElem?_map, List.getElem?_range ht]; rfl
theorem er_inj {g : G0} {ad : Ad → Nat} {al : List Ad} {h : Hp} {H : Heap} (w : Wo g ad al h H) {a b : Ad} (ha : a ∈ al) (hb : b ∈ al) (e : ad a = ad b) : a = b := by
  obtain ⟨n, hn⟩ := List.getElem?_of_mem ha
  obtain ⟨m, hm⟩ := List.getElem?_of_mem hb
  have := w.2.2.2.2.1.1 n m _ _ (wl_get hn) (wl_get hm) e
  subst this
  rw [hn] at hm
  exact Option.some.inj hm
section VR2
variable {g : G0} {k : Kf} {dd rc rs pc : Nat} {L : List (Nat × PV)} {st : List PV} {h : Hp} {Q : Option PV → Hp → Prop} {E : EP}
/-- a field is read -/
theorem v_get {i ci f : Nat} {ty : FieldType} {fin nest : Bool} {a : Ad} (v : PV) (hf : FL (kO k) i ci f ty fin nest) (d : decode (kC k) pc = .ok (.getfield i, 3)) (hp : pk a.1 = .inl ci) (ha : a.2 < cn h a.1) (h64 : a.1 < 64)
    (hv : ∀ ad, em ad v = fv ad h ci a f) (hok : okv h v) (K : V g k dd rc rs (pc + 3) L (v :: st) h Q E) : V g k dd rc rs pc L (pR a :: st) h Q E := by
  intro p l e R s m args below meth c Z al0 ad0 ad al H locs cells slots ls cx hrc hec w x0 hS hl hL hs hc hsl
  have K2 := K p l e R s m args below meth c Z al0 ad0 ad al H locs cells slots ls cx hrc hec w x0 hS hl hL (okS.c hok hs.t) hc hsl
  obtain ⟨hx, hb, hml, hown, hts, hgd, -⟩ := cx
  obtain ⟨ref, q, hc2, hk2, -, -, hlink, hsame⟩ := hf
  obtain ⟨n, hn⟩ := List.getElem?_of_mem ((w.1 a).mpr ⟨ha, h64⟩)
  have he := wl_get (cA := gA g) (ad := ad) (h := h) hn
  rw [ce_obj hp] at he
  have hfs : ((List.range (nF ci)).map fun k => fv ad h ci a k)[f]? = some (em ad v) := by
    rw [List.getElem?_map, List.getElem?_range (by rw [nF_of hc2]; exact hk2), hv ad]; rfl
  have hsm : ∀ x, s.fieldFound? (q.2.1 f).1 (q.2.1 f).2.1 (q.2.1 f).2.2.1 = some x → s.fieldFound? ref (q.2.1 f).2.1 (q.2.1 f).2.2.1 = some x := by
    rcases hsame with rfl | z
    · exact fun _ h9 => h9
    · exact u_same (hts _ z)
  rcases hlink with ⟨-, z⟩ | ⟨-, host, z⟩
  · exact va_get hx hb hts (cf_all ci q hc2).1 hown hgd.1 w.2.2.2.1 n he hc2 f hk2 (hts _ z) hsm hfs d K2
  · exact va_getN hx hb hts (cf_all ci q hc2).1 hown hgd.1 w.2.2.2.1 n he hc2 f hk2 (va_Nw.use rfl (hgd.2.1 _ z)) hsm hfs d K2
theorem v_getI {i ci f : Nat} {ty : FieldType} {fin nest : Bool} {a : Ad} (hf : FL (kO k) i ci f ty fin nest) (d : decode (kC k) pc = .ok (.getfield i, 3)) (hp : pk a.1 = .inl ci) (hk : fk ci f = 0) (h64 : a.1 < 64) (ha : a.2 < cn h a.1)
    (K : V g k dd rc rs (pc + 3) L (pI (vi h a f) :: st) h Q E) : V g k dd rc rs pc L (pR a :: st) h Q E :=
  v_get (pI (vi h a f)) hf d hp ha h64 (fun ad => by unfold fv; rw [hk]; rfl) trivial K
theorem v_getL {i ci f : Nat} {ty : FieldType} {fin nest : Bool} {a : Ad} (hf : FL (kO k) i ci f ty fin nest) (d : decode (kC k) pc = .ok (.getfield i, 3)) (hp : pk a.1 = .inl ci) (hk : fk ci f = 1) (h64 : a.1 < 64) (ha : a.2 < cn h a.1)
    (K : V g k dd rc rs (pc + 3) L (pL (vl h a f) :: st) h Q E) : V g k dd rc rs pc L (pR a :: st) h Q E :=
  v_get (pL (vl h a f)) hf d hp ha h64 (fun ad => by unfold fv; rw [hk]; rfl) trivial K
theorem v_getR {i ci f : Nat} {ty : FieldType} {fin nest : Bool} {a : Ad} (o : Option Ad) (hf : FL (kO k) i ci f ty fin nest) (d : decode (kC k) pc = .ok (.getfield i, 3)) (hp : pk a.1 = .inl ci) (hk : fk ci f = 2) (h64 : a.1 < 64) (ha : a.2 < cn h a.1) (ho : vr h a f = o)
    (K : V g k dd rc rs (pc + 3) L (pO o :: st) h Q E) : V g k dd rc rs pc L (pR a :: st) h Q E := by
  intro p l e R s m args below meth c Z al0 ad0 ad al H locs cells slots ls cx hrc hec w x0 hS hl hL hs hc hsl
  have hok : okv h (pO o) := by
    have z := w.2.1 a ((w.1 a).mpr ⟨ha, h64⟩) f
    rw [ho] at z
    exact z
  exact v_get (pO o) hf d hp ha h64 (fun ad => by unfold fv; rw [hk, ho]; rfl) hok K p l e R s m args below meth c Z al0 ad0 ad al H locs cells slots ls cx hrc hec w x0 hS hl hL hs hc hsl
/-- a field is written -/
theorem v_put {i ci f : Nat} {ty : FieldType} {fin nest : Bool} {a : Ad} (h' : Hp) (v : PV) (hf : FL (kO k) i ci f ty fin nest) (hfin : fin = true → nest = false ∧ kN k = "<init>" ∧ ∃ q, vwCl[ci]? = some q ∧ (q.2.1 f).1 = kO k) (d : decode (kC k) pc = .ok (.putfield i, 3)) (hp : pk a.1 = .inl ci) (ha : a.2 < cn h a.1) (h64 : a.1 < 64)
    (hn : ∀ ad, narrow ty (em ad v) = em ad v) (hfit : ∀ ad, fits ty (em ad v) = true) (hcn : cn h' = cn h) (hv : ∀ ad, fv ad h' ci a f = em ad v) (hoth : ∀ ad j, j ≠ f → fv ad h' ci a j = fv ad h ci a j)
    (hb : ∀ (cA : Nat → ClassId) ad b, b ≠ a → ce cA ad h' b = ce cA ad h b) (hr : ∀ b j, vr h' b j = vr h b j ∨ ∃ o, v = pO o ∧ vr h' b j = o) (K : V g k dd rc rs (pc + 3) L st h' Q E) : V g k dd rc rs pc L (v :: pR a :: st) h Q E := by
  intro p l e R s m args below meth c Z al0 ad0 ad al H locs cells slots ls cx hrc hec w x0 hS hl hL hs hc hsl
  have K2 := fun H1 locs1 w1 hS1 => K p l e R s m args below meth c Z al0 ad0 ad al H1 locs1 cells slots ls cx hrc hec w1 x0 hS1 hl (okL_of hcn hL) (okS_of hcn hs.t.t) hc hsl
  obtain ⟨hx, hbb, hml, hown, hts, hgd, -, -, hnm, hsz⟩ := cx
  obtain ⟨ref, q, hc2, hk2, hfi, hty, hlink, hsame⟩ := hf
  obtain ⟨n, hnn⟩ := List.getElem?_of_mem ((w.1 a).mpr ⟨ha, h64⟩)
  have he := wl_get (cA := gA g) (ad := ad) (h := h) hnn
  rw [ce_obj hp] at he
  have hkN : f < nF ci := by rw [nF_of hc2]; exact hk2
  have hsm : ∀ x, s.fieldFound? (q.2.1 f).1 (q.2.1 f).2.1 (q.2.1 f).2.2.1 = some x → s.fieldFound? ref (q.2.1 f).2.1 (q.2.1 f).2.2.1 = some x := by
    rcases hsame with rfl | z
    · exact fun _ h9 => h9
    · exact u_same (hts _ z)
  obtain ⟨hin, ⟨ty0, hty0⟩, hnms, -⟩ := cf_all ci q hc2
  have hset : (ad a, (Sum.inr (ci, ((List.range (nF ci)).map fun k => fv ad h ci a k).set f (em ad v)) : va_E)) = (ad a, ce (gA g) ad h' a) := by
    rw [ce_obj hp, range_set hkN (hv ad) (fun j hj => hoth ad j hj)]
  have fin2 : ∀ (H1 : Heap) (locs1 : List Loc), va_P (gD g) vwCl ((wl (gA g) ad h al).set n (ad a, .inr (ci, ((List.range (nF ci)).map fun k => fv ad h ci a k).set f (em ad v)))) H1 → va_D (gF g) ((wl (gA g) ad h al).set n (ad a, .inr (ci, ((List.range (nF ci)).map fun k => fv ad h ci a k).set f (em ad v)))) → va_S (gF g) s.heap H1 locs1 → W p l e R s m args below meth c H1 locs1 cells slots Z (F0 m (pc + 3) ls (st.map (em ad))) := by
    intro H1 locs1 hP hD hS1
    rw [hset] at hP hD
    refine K2 H1 locs1 (w.set hnn hcn (fun b _ hne => hb _ ad b hne) (fun b hbl j => ?_) hP hD hS1 hsz (hS.ground hsz hS1 w.2.2.2.2.2.2)) hS1
    rcases hr b j with z | ⟨o, rfl, z⟩
    · rw [z]; exact okr_of hcn (w.2.1 b hbl j)
    · rw [z]; exact okr_of hcn hs.hd
  rcases hlink with ⟨-, z⟩ | ⟨hne, host, z⟩
  · cases fin with
    | false => exact va_put hx hbb hts hin ty0 hty0 hnms hown hgd.1 w.2.2.2.1 w.2.2.2.2.1 hS n he hc2 f hk2 (hts _ z) hsm hfi hty (hn ad) (hfit ad) (by simpa using hkN) d fin2
    | true =>
      obtain ⟨-, hni, q', hq', hde⟩ := hfin rfl
      have : q' = q := Option.some.inj (hq'.symm.trans hc2)
      subst this
      exact va_putF hx hbb hts hin ty0 hty0 hnms hown hgd.1 w.2.2.2.1 w.2.2.2.2.1 hS n he hc2 f hk2 (hts _ z) hsm hfi (hnm.trans hni) hde hty (hn ad) (hfit ad) (by simpa using hkN) d fin2
  · cases fin with
    | false => exact va_putN hx hbb hts hin ty0 hty0 hnms hown hgd.1 w.2.2.2.1 w.2.2.2.2.1 hS n he hc2 f hk2 (va_Nw.use rfl (hgd.2.1 _ z)) hsm hfi hty (hn ad) (hfit ad) (by simpa using hkN) d fin2
    | true =>
      exact absurd (hne.symm.trans (hfin rfl).1) (by decide)
end VR2
