def fdef (n : Nat) : Value := match n with
  | 0 => .int 0
  | 1 => .long 0
  | _ => .null
theorem fk_chk : (List.range 16).all (fun ci => (List.range (nF ci)).all fun j => decide (((vwCl[ci]?).bind fun q => (parseFieldDescriptor (q.2.1 j).2.2.1).map defaultValue) = some (fdef (fk ci j)))) = true := by decide +kernel
theorem fk_ok {ci j : Nat} {q : vw_C} {ty : FieldType} (hc : vwCl[ci]? = some q) (hj : j < q.2.2) (ht : parseFieldDescriptor (q.2.1 j).2.2.1 = some ty) : defaultValue ty = fdef (fk ci j) := by
  have h1 : ci < 16 := by
    have := (List.getElem?_eq_some_iff.mp hc).1
    simpa [vwCl] using this
  have h2 := List.all_eq_true.mp fk_chk ci (List.mem_range.mpr h1)
  have h3 := List.all_eq_true.mp h2 j (List.mem_range.mpr (by rw [nF_of hc]; exact hj))
  have h4 := of_decide_eq_true h3
  rw [hc] at h4
  simp only [Option.bind_some, ht, Option.map_some] at h4
  exact Option.some.inj h4
theorem fv_new (ad : Ad → Nat) (h : Hp) (p n ci j : Nat) : fv ad (nw h p n) ci (p, cn h p) j = fdef (fk ci j) := by
  unfold fv fdef
  rw [vi_nw, vl_nw, vr_nw, if_pos rfl, if_pos rfl, if_pos rfl]
  rfl
section VR4
variable {g : G0} {k : Kf} {dd rc rs pc : Nat} {L : List (Nat × PV)} {st : List PV} {h : Hp} {Q : Option PV → Hp → Prop} {E : EP}
theorem v_new {i ci : Nat} {q : vw_C} (p rc' rs' : Nat) (d : decode (kC k) pc = .ok (.new i, 3)) (hq : vwCl[ci]? = some q) (hcl : Cond.classLink (kO k) i q.1 ∈ lw_g) (hp : pk p = .inl ci) (h64 : p < 64) (h1 : rc' + 1 ≤ rc) (h2 : rs' + q.2.2 ≤ rs)
    (K : V g k dd rc' rs' (pc + 3) L (pR (p, cn h p) :: st) (nw h p 0) Q E) : V g k dd rc rs pc L st h Q E := by
  intro pg l e R s m args below meth c Z al0 ad0 ad al H locs cells slots ls cx hrc hec w x0 hS hl hL hs hc hsl
  have cx' := cx
  obtain ⟨hx, hb, hml, hown, hts, hgd, -, -, -, hsz⟩ := cx
  obtain ⟨hin, ⟨ty0, hty0⟩, -, hins, hini⟩ := cf_all ci q hq
  refine va_new (ci := ci) (fs := (List.range (nF ci)).map fun j => fdef (fk ci j)) hx hb hts hin ty0 hty0 hown (hts _ hcl) (hts _ hins) (hts _ hini) hgd.1 w.2.2.2.1 w.2.2.2.2.1 hS (fun x hx2 => Nat.le_trans hsz hx2) hq ?_ (by omega) (by omega) d (fun qa H1 hP hD hS1 => ?_)
  · intro j hj
    rw [fk_ok hq hj (hty0 j hj)]
    unfold vp_V
    rw [List.getD_eq_getElem?_getD, List.getElem?_map, List.getElem?_range (by rw [nF_of hq]; exact hj)]
    rfl
  · have ee : (qa, (Sum.inr (ci, (List.range (nF ci)).map fun j => fdef (fk ci j)) : va_E)) = (qa, ce (gA g) (adU ad (p, cn h p) qa) (nw h p 0) (p, cn h p)) := by
      rw [ce_obj hp, show (fun j => fv (adU ad (p, cn h p) qa) (nw h p 0) ci (p, cn h p) j) = fun j => fdef (fk ci j) from funext fun j => fv_new _ h p 0 ci j]
    rw [ee] at hP hD
    obtain ⟨w1, x1⟩ := w.push h64 hS hS1 hsz hP hD
    have hst : (pR (p, cn h p) :: st).map (em (adU ad (p, cn h p) qa)) = .ref qa :: st.map (em ad) := by
      rw [List.map_cons, x1.eqS w hs]
      show va_rf (some (adU ad (p, cn h p) qa (p, cn h p))) :: _ = _
      rw [adU_s]; rfl
    have K2 := K pg l e R s m args below meth c Z al0 ad0 (adU ad (p, cn h p) qa) (al ++ [(p, cn h p)]) H1 locs (cells + 1) (slots + q.2.2) ls cx' hrc hec w1 (x0.tr x1) hS1 (by rw [x1.eqL w hL]; exact hl) (okL_mono w w1 x1 hL)
      (okS.c (fun a ha => by cases ha; left; show cn h p < cn (nw h p 0) p; rw [cn_nw, if_pos rfl]; exact Nat.lt_succ_self _) (okS_mono w w1 x1 hs)) (by omega) (by omega)
    rw [hst] at K2
    exact K2
theorem v_newa {t : Nat} {ty : ArrayType} {n : Int32} (p rc' rs' : Nat) (d : decode (kC k) pc = .ok (.newarray ty, 2)) (hty : newarray.typeOf ty = aty t) (hw : Cond.arrayClass (aty t) ∈ lw_g) (ht : t < 3) (hp : pk p = .inr t) (h64 : p < 64) (hn : ¬ n < 0) (hbd : n.toNatClampNeg ≤ 100000) (h1 : rc' + 1 ≤ rc) (h2 : rs' + n.toNatClampNeg ≤ rs)
    (K : V g k dd rc' rs' (pc + 2) L (pR (p, cn h p) :: st) (nw h p n.toNatClampNeg) Q E) : V g k dd rc rs pc L (pI n :: st) h Q E := by
  intro pg l e R s m args below meth c Z al0 ad0 ad al H locs cells slots ls cx hrc hec w x0 hS hl hL hs hc hsl
  have cx' := cx
  obtain ⟨hx, hb, hml, hown, hts, hgd, -, -, -, hsz⟩ := cx
  have hcb : n.toNatClampNeg * componentBytes (aty t) ≤ 536870912 := by
    rcases (show t = 0 ∨ t = 1 ∨ t = 2 by omega) with rfl | rfl | rfl
    · exact Nat.le_trans (Nat.mul_le_mul hbd (Nat.le_of_eq (show componentBytes (aty 0) = 4 from rfl))) (by decide)
    · exact Nat.le_trans (Nat.mul_le_mul hbd (Nat.le_of_eq (show componentBytes (aty 1) = 1 from rfl))) (by decide)
    · exact Nat.le_trans (Nat.mul_le_mul hbd (Nat.le_of_eq (show componentBytes (aty 2) = 1 from rfl))) (by decide)
  have hdv : defaultValue (aty t) = .int 0 := by
    rcases (show t = 0 ∨ t = 1 ∨ t = 2 by omega) with rfl | rfl | rfl <;> rfl
  refine va_newa (ty := aty t) (a0 := (n.toNatClampNeg, .inl fun _ => 0)) hx hb (by rw [hty]; exact hts _ hw) hty hgd.1 w.2.2.2.1 w.2.2.2.2.1 hS (fun x hx2 => Nat.le_trans hsz hx2) (fun cA => by rw [vp_cell_i, hdv]) hn rfl hcb (by omega) (by omega) d (fun qa cA H1 hK1 hP hD hS1 => ?_)
  have hcA : cA = gA g t := by
    have e1 := (hK1.2 6 (cA, aty t) (by rw [List.getElem?_append_right (by simp [tyl])]; simp [tyl])).2
    have e2 := (hgd.1.2 t _ (tyl_at (gA g) (by omega))).2
    exact RA_inj e1 e2
  subst hcA
  have ee : (qa, (Sum.inl (gA g t, n.toNatClampNeg, Sum.inl fun _ => 0) : va_E)) = (qa, ce (gA g) (adU ad (p, cn h p) qa) (nw h p n.toNatClampNeg) (p, cn h p)) := by
    rw [ce_int hp ht, ln_nw, if_pos rfl, show (fun j => vi (nw h p n.toNatClampNeg) (p, cn h p) j) = fun _ => 0 from funext fun j => by rw [vi_nw, if_pos rfl]]
  rw [ee] at hP hD
  obtain ⟨w1, x1⟩ := w.push h64 hS hS1 hsz hP hD
  have hst : (pR (p, cn h p) :: st).map (em (adU ad (p, cn h p) qa)) = .ref qa :: st.map (em ad) := by
    rw [List.map_cons, x1.eqS w hs.t]
    show va_rf (some (adU ad (p, cn h p) qa (p, cn h p))) :: _ = _
    rw [adU_s]; rfl
  have K2 := K pg l e R s m args below meth c Z al0 ad0 (adU ad (p, cn h p) qa) (al ++ [(p, cn h p)]) H1 locs (cells + 1) (slots + n.toNatClampNeg) ls cx' hrc hec w1 (x0.tr x1) hS1 (by rw [x1.eqL w hL]; exact hl) (okL_mono w w1 x1 hL)
    (okS.c (fun a ha => by cases ha; left; show cn h p < cn (nw h p _) p; rw [cn_nw, if_pos rfl]; exact Nat.lt_succ_self _) (okS_mono w w1 x1 hs.t)) (by omega) (by omega)
  rw [hst] at K2
  exact K2
theorem v_anew {t i : Nat} {C : String} {n : Int32} (p rc' rs' : Nat) (d : decode (kC k) pc = .ok (.anewarray i, 3)) (hC : aty t = .object C) (hcl : Cond.classLink (kO k) i C ∈ lw_g) (ht : t < 6) (h3 : ¬ t < 3) (hp : pk p = .inr t) (h64 : p < 64) (hn : ¬ n < 0) (hbd : n.toNatClampNeg ≤ 100000) (h1 : rc' + 1 ≤ rc) (h2 : rs' + n.toNatClampNeg ≤ rs)
    (K : V g k dd rc' rs' (pc + 3) L (pR (p, cn h p) :: st) (nw h p n.toNatClampNeg) Q E) : V g k dd rc rs pc L (pI n :: st) h Q E := by
  intro pg l e R s m args below meth c Z al0 ad0 ad al H locs cells slots ls cx hrc hec w x0 hS hl hL hs hc hsl
  have cx' := cx
  obtain ⟨hx, hb, hml, hown, hts, hgd, -, -, -, hsz⟩ := cx
  have hao : va_AO C s := by
    rcases (show t = 3 ∨ t = 4 ∨ t = 5 by omega) with rfl | rfl | rfl
    · cases hC; exact hgd.2.2.1
    · cases hC; exact hgd.2.2.2.1
    · cases hC; exact hgd.2.2.2.2.1
  refine va_newq hx hb hown (hts _ hcl) hao hgd.1 w.2.2.2.1 w.2.2.2.2.1 hS (fun x hx2 => Nat.le_trans hsz hx2) hn rfl (by omega) (by omega) (by omega) d (fun qa cA H1 hK1 hP hD hS1 => ?_)
  have hcA : cA = gA g t := by
    have e1 := (hK1.2 6 (cA, .object C) (by rw [List.getElem?_append_right (by simp [tyl])]; simp [tyl])).2
    have e2 := (hgd.1.2 t _ (tyl_at (gA g) ht)).2
    rw [hC] at e2
    exact RA_inj e1 e2
  subst hcA
  have ee : (qa, (Sum.inl (gA g t, n.toNatClampNeg, Sum.inr (Sum.inr (Sum.inr (Sum.inr fun _ => none)))) : va_E)) = (qa, ce (gA g) (adU ad (p, cn h p) qa) (nw h p n.toNatClampNeg) (p, cn h p)) := by
    rw [ce_ref hp h3, ln_nw, if_pos rfl, show (fun j => (vr (nw h p n.toNatClampNeg) (p, cn h p) j).map (adU ad (p, cn h p) qa)) = fun _ => none from funext fun j => by rw [vr_nw, if_pos rfl]; rfl]
  rw [ee] at hP hD
  obtain ⟨w1, x1⟩ := w.push h64 hS hS1 hsz hP hD
  have hst : (pR (p, cn h p) :: st).map (em (adU ad (p, cn h p) qa)) = .ref qa :: st.map (em ad) := by
    rw [List.map_cons, x1.eqS w hs.t]
    show va_rf (some (adU ad (p, cn h p) qa (p, cn h p))) :: _ = _
    rw [adU_s]; rfl
  have K2 := K pg l e R s m args below meth c Z al0 ad0 (adU ad (p, cn h p) qa) (al ++ [(p, cn h p)]) H1 locs (cells + 1) (slots + n.toNatClampNeg) ls cx' hrc hec w1 (x0.tr x1) hS1 (by rw [x1.eqL w hL]; exact hl) (okL_mono w w1 x1 hL)
    (okS.c (fun a ha => by cases ha; left; show cn h p < cn (nw h p _) p; rw [cn_nw, if_pos rfl]; exact Nat.lt_succ_self _) (okS_mono w w1 x1 hs.t)) (by omega) (by omega)
  rw [hst] at K2
  exact K2
/-- an object of our own, of just that class, or null -/
theorem v_cast {i : Nat} {o : Option Ad} {nm : String} (d : decode (kC k) pc = .ok (.checkcast i, 3)) (hcl : Cond.classLink (kO k) i nm ∈ lw_g) (ho : ∀ a, o = some a → a.1 < 64 ∧ ∃ ci q, pk a.1 = .inl ci ∧ vwCl[ci]? = some q ∧ q.1 = nm)
    (K : V g k dd rc rs (pc + 3) L (pO o :: st) h Q E) : V g k dd rc rs pc L (pO o :: st) h Q E := by
  intro pg l e R s m args below meth c Z al0 ad0 ad al H locs cells slots ls cx hrc hec w x0 hS hl hL hs hc hsl
  have K2 := K pg l e R s m args below meth c Z al0 ad0 ad al H locs cells slots ls cx hrc hec w x0 hS hl hL hs hc hsl
  obtain ⟨hx, hb, hml, hown, hts, hgd, -, -, -, hsz⟩ := cx
  cases o with
  | none => exact lv_castN hx hb d K2
  | some a =>
    obtain ⟨h64, ci, q, hp, hq, rfl⟩ := ho a rfl
    have hal : a ∈ al := by
      rcases w.okr_al hs.hd a rfl with z | z
      · exact z
      · omega
    obtain ⟨n, hn⟩ := List.getElem?_of_mem hal
    have he := wl_get (cA := gA g) (ad := ad) (h := h) hn
    rw [ce_obj hp] at he
    exact va_castS hx hb hown (hts _ hcl) (hgd.1.1 ci q hq).2 (va_recv hgd.1 w.2.2.2.1 hq he) d K2
/-- the same reference twice -/
theorem v_acmpeq_same {o : Option Ad} {off : Int} (t : Nat) (d : decode (kC k) pc = .ok (.if_acmp .eq off, 3)) (ht : (pc : Int) + off = (t : Int)) (K : V g k dd rc rs t L st h Q E) : V g k dd rc rs pc L (pO o :: pO o :: st) h Q E := by
  intro pg l e R s m args below meth c Z al0 ad0 ad al H locs cells slots ls cx hrc hec w x0 hS hl hL hs hc hsl
  exact lv_acmp_eq cx.1 cx.2.1 d ht (fun _ => K pg l e R s m args below meth c Z al0 ad0 ad al H locs cells slots ls cx hrc hec w x0 hS hl hL hs.t.t hc hsl) (fun z => absurd rfl z)
theorem v_acmpne_same {o : Option Ad} {off : Int} (t : Nat) (d : decode (kC k) pc = .ok (.if_acmp .ne off, 3)) (ht : (pc : Int) + off = (t : Int)) (K : V g k dd rc rs (pc + 3) L st h Q E) : V g k dd rc rs pc L (pO o :: pO o :: st) h Q E := by
  intro pg l e R s m args below meth c Z al0 ad0 ad al H locs cells slots ls cx hrc hec w x0 hS hl hL hs hc hsl
  exact lv_acmp_ne cx.1 cx.2.1 d ht (fun z => absurd rfl z) (fun _ => K pg l e R s m args below meth c Z al0 ad0 ad al H locs cells slots ls cx hrc hec w x0 hS hl hL hs.t.t hc hsl)
end VR4
