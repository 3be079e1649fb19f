/-! constants of the ground: texts, statics, the empty row -/
theorem Wo.base {g : G0} {ad : Ad → Nat} {al : List Ad} {h : Hp} {H s0 : Heap} {locs : List Loc} (w : Wo g ad al h H) (hS : va_S (gF g) s0 H locs) (hs0 : (gG g).size ≤ s0.size) : ∀ a : Nat, a < (gG g).size → ¬ gF g a → s0[a]? = (gG g)[a]? := by
  intro a ha hn
  rw [← hS.2.1 a (Nat.lt_of_lt_of_le ha hs0) hn]
  exact w.2.2.2.2.2.2 a ha
section VR8
variable {g : G0} {k : Kf} {dd rc rs pc : Nat} {L : List (Nat × PV)} {st : List PV} {h : Hp} {Q : Option PV → Hp → Prop} {E : EP}
theorem ok64 (h : Hp) (p i : Nat) (hp : 64 ≤ p) : okv h (pR (p, i)) := fun a ha => by cases ha; exact Or.inr hp
/-- a text constant -/
theorem v_ldcS {i j : Nat} {tx : String} (d : decode (kC k) pc = .ok (.ldc i, 2)) (hq : (kO k, i, tx, j) ∈ strL) (K : V g k dd rc rs (pc + 2) L (pR (64, j) :: st) h Q E) : V g k dd rc rs pc L st h Q E := by
  intro p l e R s m args below meth c Z al0 ad0 ad al H locs cells slots ls cx hrc hec w x0 hS hl hL hs hc hsl
  have K2 := K p l e R s m args below meth c Z al0 ad0 ad al H locs cells slots ls cx hrc hec w x0 hS hl hL (okS.c (ok64 h 64 j (by decide)) hs) hc hsl
  obtain ⟨hx, hb, hml, hown, hts, hgd, -⟩ := cx
  have e1 : (pR (64, j) :: st).map (em ad) = .ref (gC g (64, j)) :: st.map (em ad) := by
    show va_rf (some (ad (64, j))) :: _ = _
    rw [w.2.2.1 (64, j) (Nat.le_of_ble_eq_true rfl)]; rfl
  rw [e1] at K2
  exact va_ldcS hx hb hown (hgd.2.2.2.2.2.1 _ hq) d K2
theorem v_getst {i : Nat} {C n d0 : String} {v : PV} (d : decode (kC k) pc = .ok (.getstatic i, 3)) (hln : Cond.fieldLink (kO k) i C n d0 ∈ lw_g) (hv : ∀ s, Gs g s → va_Z C n d0 (em (gC g) v) (gF g) s (gG g)) (h64 : ∀ a, v = pR a → 64 ≤ a.1) (K : V g k dd rc rs (pc + 3) L (v :: st) h Q E) : V g k dd rc rs pc L st h Q E := by
  intro p l e R s m args below meth c Z al0 ad0 ad al H locs cells slots ls cx hrc hec w x0 hS hl hL hs hc hsl
  have hok : okv h v := by
    rcases v with x | x | o
    · trivial
    · trivial
    · intro a ha
      subst ha
      exact Or.inr (h64 a rfl)
  have K2 := K p l e R s m args below meth c Z al0 ad0 ad al H locs cells slots ls cx hrc hec w x0 hS hl hL (okS.c hok hs) hc hsl
  obtain ⟨hx, hb, hml, hown, hts, hgd, -, -, -, hsz⟩ := cx
  have e1 : em ad v = em (gC g) v := by
    rcases v with x | x | o
    · rfl
    · rfl
    · cases o with
      | none => rfl
      | some a =>
        show va_rf (some (ad a)) = va_rf (some (gC g a))
        rw [w.2.2.1 a (h64 a rfl)]
  rw [List.map_cons, e1] at K2
  exact va_gets hx hb ((hv s hgd.2.2.2.2.2).kept (w.base hS hsz)) hS hown (hts _ hln) (fun _ h9 => h9) d K2
/-- a text's fields -/
theorem v_strVal {i j : Nat} (d : decode (kC k) pc = .ok (.getfield i, 3)) (hln : Cond.fieldLink (kO k) i "java/lang/String" "value" "[B" ∈ lw_g) (hj : j < 11) (K : V g k dd rc rs (pc + 3) L (pR (65, j) :: st) h Q E) : V g k dd rc rs pc L (pR (64, j) :: st) h Q E := by
  intro p l e R s m args below meth c Z al0 ad0 ad al H locs cells slots ls cx hrc hec w x0 hS hl hL hs hc hsl
  have K2 := K p l e R s m args below meth c Z al0 ad0 ad al H locs cells slots ls cx hrc hec w x0 hS hl hL (okS.c (ok64 h 65 j (by decide)) hs.t) hc hsl
  obtain ⟨hx, hb, hml, hown, hts, hgd, -, -, -, hsz⟩ := cx
  have e1 : (pR (65, j) :: st).map (em ad) = .ref (gC g (65, j)) :: st.map (em ad) := by
    show va_rf (some (ad (65, j))) :: _ = _
    rw [w.2.2.1 (65, j) (Nat.le_of_ble_eq_true rfl)]; rfl
  have e2 : (pR (64, j) :: st).map (em ad) = .ref (gC g (64, j)) :: st.map (em ad) := by
    show va_rf (some (ad (64, j))) :: _ = _
    rw [w.2.2.1 (64, j) (Nat.le_of_ble_eq_true rfl)]; rfl
  rw [e1] at K2
  rw [e2]
  have hz := (hgd.2.2.2.2.2.2.1.kept (w.base hS hsz)).1 j hj
  exact vk_getf hx hb hz.2.2.1 hS hown (hts _ hln) (fun _ h9 => h9) d K2
theorem v_strCod {i j : Nat} (d : decode (kC k) pc = .ok (.getfield i, 3)) (hln : Cond.fieldLink (kO k) i "java/lang/String" "coder" "B" ∈ lw_g) (hj : j < 11) (K : V g k dd rc rs (pc + 3) L (pI 0 :: st) h Q E) : V g k dd rc rs pc L (pR (64, j) :: st) h Q E := by
  intro p l e R s m args below meth c Z al0 ad0 ad al H locs cells slots ls cx hrc hec w x0 hS hl hL hs hc hsl
  have K2 := K p l e R s m args below meth c Z al0 ad0 ad al H locs cells slots ls cx hrc hec w x0 hS hl hL (okS.c trivial hs.t) hc hsl
  obtain ⟨hx, hb, hml, hown, hts, hgd, -, -, -, hsz⟩ := cx
  have e2 : (pR (64, j) :: st).map (em ad) = .ref (gC g (64, j)) :: st.map (em ad) := by
    show va_rf (some (ad (64, j))) :: _ = _
    rw [w.2.2.1 (64, j) (Nat.le_of_ble_eq_true rfl)]; rfl
  rw [e2]
  have hz := (hgd.2.2.2.2.2.2.1.kept (w.base hS hsz)).1 j hj
  exact vk_getf hx hb hz.2.1 hS hown (hts _ hln) (fun _ h9 => h9) d K2
theorem v_strLen {j : Nat} (d : decode (kC k) pc = .ok (.arraylength, 1)) (hj : j < 11) (K : V g k dd rc rs (pc + 1) L (pI (nI (lenS.getD j 0)) :: st) h Q E) : V g k dd rc rs pc L (pR (65, j) :: st) h Q E := by
  intro p l e R s m args below meth c Z al0 ad0 ad al H locs cells slots ls cx hrc hec w x0 hS hl hL hs hc hsl
  have K2 := K p l e R s m args below meth c Z al0 ad0 ad al H locs cells slots ls cx hrc hec w x0 hS hl hL (okS.c trivial hs.t) hc hsl
  obtain ⟨hx, hb, hml, hown, hts, hgd, -, -, -, hsz⟩ := cx
  have e2 : (pR (65, j) :: st).map (em ad) = .ref (gC g (65, j)) :: st.map (em ad) := by
    show va_rf (some (ad (65, j))) :: _ = _
    rw [w.2.2.1 (65, j) (Nat.le_of_ble_eq_true rfl)]; rfl
  rw [e2]
  have hz := (hgd.2.2.2.2.2.2.1.kept (w.base hS hsz)).1 j hj
  exact va_tlen hx hb hz.2.2.2 hS rfl d K2
theorem v_strAt {j : Nat} {i : Int32} (d : decode (kC k) pc = .ok (.baload, 1)) (hj : j < 11) (hi : vp_in i (lenS.getD j 0)) (K : V g k dd rc rs (pc + 1) L (pI ((bytS.getD j []).getD i.toNatClampNeg 0) :: st) h Q E) : V g k dd rc rs pc L (pI i :: pR (65, j) :: st) h Q E := by
  intro p l e R s m args below meth c Z al0 ad0 ad al H locs cells slots ls cx hrc hec w x0 hS hl hL hs hc hsl
  have K2 := K p l e R s m args below meth c Z al0 ad0 ad al H locs cells slots ls cx hrc hec w x0 hS hl hL (okS.c trivial hs.t.t) hc hsl
  obtain ⟨hx, hb, hml, hown, hts, hgd, -, -, -, hsz⟩ := cx
  have e2 : (pI i :: pR (65, j) :: st).map (em ad) = .int i :: .ref (gC g (65, j)) :: st.map (em ad) := by
    show Value.int i :: va_rf (some (ad (65, j))) :: _ = _
    rw [w.2.2.1 (65, j) (Nat.le_of_ble_eq_true rfl)]; rfl
  rw [e2]
  have hz := (hgd.2.2.2.2.2.2.1.kept (w.base hS hsz)).1 j hj
  exact va_tb hx hb hz.2.2.2 hS hi rfl d K2
/-- the empty row of ArrayList -/
theorem v_len0 (d : decode (kC k) pc = .ok (.arraylength, 1)) (K : V g k dd rc rs (pc + 1) L (pI 0 :: st) h Q E) : V g k dd rc rs pc L (pR (66, 0) :: st) h Q E := by
  intro p l e R s m args below meth c Z al0 ad0 ad al H locs cells slots ls cx hrc hec w x0 hS hl hL hs hc hsl
  have K2 := K p l e R s m args below meth c Z al0 ad0 ad al H locs cells slots ls cx hrc hec w x0 hS hl hL (okS.c trivial hs.t) hc hsl
  obtain ⟨hx, hb, hml, hown, hts, hgd, -, -, -, hsz⟩ := cx
  have e2 : (pR (66, 0) :: st).map (em ad) = .ref (gC g (66, 0)) :: st.map (em ad) := by
    show va_rf (some (ad (66, 0))) :: _ = _
    rw [w.2.2.1 (66, 0) (by decide)]; rfl
  rw [e2]
  exact va_tlen hx hb (hgd.2.2.2.2.2.2.2.2.2.1.kept (w.base hS hsz)) hS (by rfl) d K2
/-- the law's script -/
theorem v_scrLen (d : decode (kC k) pc = .ok (.arraylength, 1)) (K : V g k dd rc rs (pc + 1) L (pI (nI (gL g)) :: st) h Q E) : V g k dd rc rs pc L (pR (67, 0) :: st) h Q E := by
  intro p l e R s m args below meth c Z al0 ad0 ad al H locs cells slots ls cx hrc hec w x0 hS hl hL hs hc hsl
  have K2 := K p l e R s m args below meth c Z al0 ad0 ad al H locs cells slots ls cx hrc hec w x0 hS hl hL (okS.c trivial hs.t) hc hsl
  obtain ⟨hx, hb, hml, hown, hts, hgd, -, -, -, hsz⟩ := cx
  have e2 : (pR (67, 0) :: st).map (em ad) = .ref (gC g (67, 0)) :: st.map (em ad) := by
    show va_rf (some (ad (67, 0))) :: _ = _
    rw [w.2.2.1 (67, 0) (by decide)]; rfl
  rw [e2]
  exact va_tlen hx hb (hgd.2.2.2.2.2.2.2.2.2.2.2.2.2.2.kept (w.base hS hsz)) hS rfl d K2
theorem v_scrAt {i : Int32} (d : decode (kC k) pc = .ok (.iaload, 1)) (hi : vp_in i (gL g)) (K : V g k dd rc rs (pc + 1) L (pI (gX g i.toNatClampNeg) :: st) h Q E) : V g k dd rc rs pc L (pI i :: pR (67, 0) :: st) h Q E := by
  intro p l e R s m args below meth c Z al0 ad0 ad al H locs cells slots ls cx hrc hec w x0 hS hl hL hs hc hsl
  have K2 := K p l e R s m args below meth c Z al0 ad0 ad al H locs cells slots ls cx hrc hec w x0 hS hl hL (okS.c trivial hs.t.t) hc hsl
  obtain ⟨hx, hb, hml, hown, hts, hgd, -, -, -, hsz⟩ := cx
  have e2 : (pI i :: pR (67, 0) :: st).map (em ad) = .int i :: .ref (gC g (67, 0)) :: st.map (em ad) := by
    show Value.int i :: va_rf (some (ad (67, 0))) :: _ = _
    rw [w.2.2.1 (67, 0) (by decide)]; rfl
  rw [e2]
  exact va_ti hx hb (hgd.2.2.2.2.2.2.2.2.2.2.2.2.2.2.kept (w.base hS hsz)) hS hi rfl d K2
/-- a text as receiver -/
theorem v_invStr {i nL' n' d' j : Nat} {y : MethodName} {cw : Cond} {As full : List PV} {R' : Option PV} {H' : Hp} (hM : Mx g y cw d' (pR (64, j) :: As) h 0 0 (qE R' H') noX) (dec : decode (kC k) pc = .ok (.invokevirtual i, 3)) (hcw : CW y cw nL' n') (hln : Cond.methodLink (kO k) i y ∈ lw_g ∧ Cond.instanceMethod y ∈ lw_g ∧ Cond.selects y.cls y y ∈ lw_g) (hy : y.cls = "java/lang/String") (hj : j < 11)
    (hfull : full = As.reverse ++ pR (64, j) :: st) (hn : As.length = n') (hd : d' + 1 ≤ dd) (hnl : nL' ≤ 22) (hst : cs st ≤ 8) (K : V g k dd rc rs (pc + 3) L (R'.toList ++ st) H' Q E) : V g k dd rc rs pc L full h Q E := by
  subst hfull
  intro p l e R s m args below meth c Z al0 ad0 ad al H locs cells slots ls cx hrc hec w x0 hS
  refine (v_callX rc rs hM hcw hd hnl (Nat.le_refl _) (Nat.le_refl _) hst dec (fun v hv => ?_) (fun v hv => by simp [hv]) ?_ (fun r h' q => by obtain ⟨rfl, rfl⟩ := q; exact K) (fun _ _ q => q.elim)) p l e R s m args below meth c Z al0 ad0 ad al H locs cells slots ls cx hrc hec w x0 hS
  · rcases List.mem_cons.mp hv with rfl | hv
    · simp
    · simp [hv]
  · intro p l e R s m args below meth c ad al H locs cells slots ls T cx w hs hT X
    obtain ⟨hx, hbb, hml, hown, hts, hgd, -, -, -, hsz⟩ := cx
    obtain ⟨cell, g1, g2, g3, -⟩ := (hgd.2.2.2.2.2.2.1.1 j hj).1
    have hlt : gC g (64, j) < (gG g).size := (Array.getElem?_eq_some_iff.mp g1).1
    have g1' : T.heap[ad (64, j)]? = some cell := by rw [hT, w.2.2.1 (64, j) (Nat.le_of_ble_eq_true rfl), w.2.2.2.2.2.2 _ hlt]; exact g1
    exact tw_ivV X hx hown (hts _ hln.1) (hts _ hln.2.1) (hts _ hln.2.2) hcw (hts _ hcw.1) g1' g2 (by rw [hy]; exact g3) rfl (argsL := As.map (em ad)) (by rw [List.length_map]; exact hn) (map_rev ad As (64, j) st) (by rw [hbb]; exact dec)
end VR8
