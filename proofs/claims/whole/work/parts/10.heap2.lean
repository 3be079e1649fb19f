theorem fv_other {ad : Ad → Nat} {h h' : Hp} {ci : Nat} {a : Ad} {j : Nat} (h1 : vi h' a j = vi h a j) (h2 : vl h' a j = vl h a j) (h3 : vr h' a j = vr h a j) : fv ad h' ci a j = fv ad h ci a j := by
  unfold fv; rw [h1, h2, h3]
theorem ce_other {cA : Nat → ClassId} {ad : Ad → Nat} {h h' : Hp} {b : Ad} (h0 : ln h' b = ln h b) (h1 : ∀ j, vi h' b j = vi h b j) (h2 : ∀ j, vl h' b j = vl h b j) (h3 : ∀ j, vr h' b j = vr h b j) : ce cA ad h' b = ce cA ad h b :=
  ce_congr h0 h1 h2 (fun j => by rw [h3 j])
theorem RA_inj {s : State} {c1 c2 : ClassId} {ty : FieldType} (h1 : va_RA s c1 ty) (h2 : va_RA s c2 ty) : c1 = c2 := by
  cases ty with
  | object C =>
    obtain ⟨k1, p1, -, -, -, f1⟩ := h1
    obtain ⟨k2, p2, -, -, -, f2⟩ := h2
    exact Option.some.inj (f1.symm.trans f2)
  | _ => exact Option.some.inj ((show s.vm.findClass _ = some c1 from h1).symm.trans (show s.vm.findClass _ = some c2 from h2))
def adU (ad : Ad → Nat) (a : Ad) (q : Nat) : Ad → Nat := fun b => if b = a then q else ad b
theorem adU_s (ad : Ad → Nat) (a : Ad) (q : Nat) : adU ad a q a = q := if_pos rfl
theorem adU_n (ad : Ad → Nat) {a b : Ad} (q : Nat) (h : b ≠ a) : adU ad a q b = ad b := if_neg h
/-- a new cell comes -/
theorem Wo.push {g : G0} {ad : Ad → Nat} {al : List Ad} {h : Hp} {H H' : Heap} {p n q : Nat} (w : Wo g ad al h H) (hp : p < 64) {s0 : Heap} {locs locs' : List Loc} (hS : va_S (gF g) s0 H locs) (hS' : va_S (gF g) s0 H' locs') (hs0 : (gG g).size ≤ s0.size)
    (hP : va_P (gD g) vwCl (wl (gA g) ad h al ++ [(q, ce (gA g) (adU ad (p, cn h p) q) (nw h p n) (p, cn h p))]) H') (hD : va_D (gF g) (wl (gA g) ad h al ++ [(q, ce (gA g) (adU ad (p, cn h p) q) (nw h p n) (p, cn h p))])) :
    Wo g (adU ad (p, cn h p) q) (al ++ [(p, cn h p)]) (nw h p n) H' ∧ Ex al ad (al ++ [(p, cn h p)]) (adU ad (p, cn h p) q) := by
  have hnew : (p, cn h p) ∉ al := fun z => Nat.lt_irrefl _ ((w.1 _).mp z).1
  have x : Ex al ad (al ++ [(p, cn h p)]) (adU ad (p, cn h p) q) := by
    refine ⟨fun a ha => ⟨List.mem_append_left _ ha, ?_⟩, fun a ha => ?_⟩
    · exact adU_n ad q (fun e => hnew (by rw [← e]; exact ha))
    · refine adU_n ad q (fun e => ?_)
      rw [e] at ha
      exact absurd hp (Nat.not_lt.mpr ha)
  have hok : ∀ o, okr h o → okr (nw h p n) o := by
    intro o ho a ha
    rcases ho a ha with z | z
    · left
      rw [cn_nw]
      by_cases e : a.1 = p
      · rw [if_pos e, ← e]; omega
      · rw [if_neg e]; exact z
    · exact Or.inr z
  have ew : wl (gA g) ad h al ++ [(q, ce (gA g) (adU ad (p, cn h p) q) (nw h p n) (p, cn h p))] = wl (gA g) (adU ad (p, cn h p) q) (nw h p n) (al ++ [(p, cn h p)]) := by
    unfold wl
    rw [List.map_append, List.map_cons, List.map_nil]
    congr 1
    · apply List.map_congr_left
      intro a ha
      have hne : a ≠ (p, cn h p) := fun e => hnew (by rw [← e]; exact ha)
      rw [adU_n ad q hne]
      congr 1
      refine (ce_congr (by rw [ln_nw, if_neg hne]) (fun j => by rw [vi_nw, if_neg hne]) (fun j => by rw [vl_nw, if_neg hne]) (fun j => ?_)).symm
      rw [vr_nw, if_neg hne]
      have hz := w.okr_al (w.2.1 a ha j)
      cases hv : vr h a j with
      | none => rfl
      | some b =>
        show some _ = some _
        rcases hz b hv with z | z
        · rw [(x.1 b z).2]
        · rw [x.2 b z]
    · rw [adU_s]
  rw [ew] at hP hD
  refine ⟨⟨fun a => ?_, fun a ha j => ?_, fun a ha => (x.2 a ha).trans (w.2.2.1 a ha), hP, hD, Nat.le_trans hs0 hS'.1, hS.ground hs0 hS' w.2.2.2.2.2.2⟩, x⟩
  · rw [List.mem_append, List.mem_singleton, cn_nw]
    constructor
    · rintro (z | rfl)
      · obtain ⟨z1, z2⟩ := (w.1 a).mp z
        refine ⟨?_, z2⟩
        by_cases e : a.1 = p
        · rw [if_pos e, ← e]; omega
        · rw [if_neg e]; exact z1
      · exact ⟨by rw [if_pos rfl]; exact Nat.lt_succ_self _, hp⟩
    · rintro ⟨z1, z2⟩
      by_cases e : a.1 = p
      · rw [if_pos e] at z1
        by_cases e2 : a.2 = cn h p
        · exact Or.inr (Prod.ext e e2)
        · exact Or.inl ((w.1 a).mpr ⟨by rw [e]; omega, z2⟩)
      · rw [if_neg e] at z1
        exact Or.inl ((w.1 a).mpr ⟨z1, z2⟩)
  · rw [vr_nw]
    by_cases e : a = (p, cn h p)
    · rw [if_pos e]; intro b hb; cases hb
    · rw [if_neg e]
      rcases List.mem_append.mp ha with z | z
      · exact hok _ (w.2.1 a z j)
      · exact absurd (List.mem_singleton.mp z) e
section VR3
variable {g : G0} {k : Kf} {dd rc rs pc : Nat} {L : List (Nat × PV)} {st : List PV} {h : Hp} {Q : Option PV → Hp → Prop} {E : EP}
theorem v_putI {i ci f : Nat} {ty : FieldType} {fin nest : Bool} {a : Ad} {x : Int32} (hf : FL (kO k) i ci f ty fin nest) (hfin : fin = true → nest = false ∧ kN k = "<init>" ∧ ∃ q, vwCl[ci]? = some q ∧ (q.2.1 f).1 = kO k) (d : decode (kC k) pc = .ok (.putfield i, 3)) (hp : pk a.1 = .inl ci) (hk : fk ci f = 0) (h64 : a.1 < 64)
    (hn : narrow ty (.int x) = .int x) (hfit : fits ty (.int x) = true) (ha : a.2 < cn h a.1) (K : V g k dd rc rs (pc + 3) L st (sI h a f x) Q E) : V g k dd rc rs pc L (pI x :: pR a :: st) h Q E :=
  v_put (sI h a f x) (pI x) hf hfin d hp ha h64 (fun _ => hn) (fun _ => hfit) rfl (fun ad => by unfold fv; rw [hk]; show Value.int (vi _ _ _) = _; rw [vi_sI, if_pos ⟨rfl, rfl⟩]; rfl)
    (fun ad j hj => fv_other (by rw [vi_sI, if_neg (fun z => hj z.2)]) rfl rfl) (fun cA ad b hb => ce_other rfl (fun j => by rw [vi_sI, if_neg (fun z => hb z.1)]) (fun _ => rfl) (fun _ => rfl)) (fun _ _ => Or.inl rfl) K
theorem v_putL {i ci f : Nat} {fin nest : Bool} {a : Ad} {x : Int64} (hf : FL (kO k) i ci f .long fin nest) (hfin : fin = true → nest = false ∧ kN k = "<init>" ∧ ∃ q, vwCl[ci]? = some q ∧ (q.2.1 f).1 = kO k) (d : decode (kC k) pc = .ok (.putfield i, 3)) (hp : pk a.1 = .inl ci) (hk : fk ci f = 1) (h64 : a.1 < 64)
    (ha : a.2 < cn h a.1) (K : V g k dd rc rs (pc + 3) L st (sL h a f x) Q E) : V g k dd rc rs pc L (pL x :: pR a :: st) h Q E :=
  v_put (sL h a f x) (pL x) hf hfin d hp ha h64 (fun _ => rfl) (fun _ => rfl) rfl (fun ad => by unfold fv; rw [hk]; show Value.long (vl _ _ _) = _; rw [vl_sL, if_pos ⟨rfl, rfl⟩]; rfl)
    (fun ad j hj => fv_other rfl (by rw [vl_sL, if_neg (fun z => hj z.2)]) rfl) (fun cA ad b hb => ce_other rfl (fun _ => rfl) (fun j => by rw [vl_sL, if_neg (fun z => hb z.1)]) (fun _ => rfl)) (fun _ _ => Or.inl rfl) K
def isRefTy (ty : FieldType) : Bool := match ty with
  | .object _ => true
  | .array _ => true
  | _ => false
theorem ref_nar {ty : FieldType} (h : isRefTy ty = true) (ad : Ad → Nat) (o : Option Ad) : narrow ty (er ad o) = er ad o ∧ fits ty (er ad o) = true := by
  cases ty <;> first | (cases o <;> exact ⟨rfl, rfl⟩) | (exfalso; revert h; simp [isRefTy])
theorem v_putR {i ci f : Nat} {ty : FieldType} {fin nest : Bool} {a : Ad} {o : Option Ad} (hf : FL (kO k) i ci f ty fin nest) (hfin : fin = true → nest = false ∧ kN k = "<init>" ∧ ∃ q, vwCl[ci]? = some q ∧ (q.2.1 f).1 = kO k) (d : decode (kC k) pc = .ok (.putfield i, 3)) (hp : pk a.1 = .inl ci) (hk : fk ci f = 2) (h64 : a.1 < 64) (hty : isRefTy ty = true)
    (ha : a.2 < cn h a.1) (K : V g k dd rc rs (pc + 3) L st (sR h a f o) Q E) : V g k dd rc rs pc L (pO o :: pR a :: st) h Q E :=
  v_put (sR h a f o) (pO o) hf hfin d hp ha h64 (fun ad => (ref_nar hty ad o).1) (fun ad => (ref_nar hty ad o).2) rfl (fun ad => by unfold fv; rw [hk]; show er ad (vr _ _ _) = _; rw [vr_sR, if_pos ⟨rfl, rfl⟩]; rfl)
    (fun ad j hj => fv_other rfl rfl (by rw [vr_sR, if_neg (fun z => hj z.2)])) (fun cA ad b hb => ce_other rfl (fun _ => rfl) (fun _ => rfl) (fun j => by rw [vr_sR, if_neg (fun z => hb z.1)]))
    (fun b j => by
      rw [vr_sR]
      by_cases z : b = a ∧ j = f
      · exact Or.inr ⟨o, rfl, if_pos z⟩
      · exact Or.inl (if_neg z)) K
/-! arrays -/
theorem v_alen {t : Nat} {a : Ad} (d : decode (kC k) pc = .ok (.arraylength, 1)) (hp : pk a.1 = .inr t) (ht : t < 6) (h64 : a.1 < 64) (ha : a.2 < cn h a.1) (K : V g k dd rc rs (pc + 1) L (pI (nI (ln h a)) :: st) h Q E) : V g k dd rc rs pc L (pR a :: st) h Q E := by
  intro p l e R s m args below meth c Z al0 ad0 ad al H locs cells slots ls cx hrc hec w x0 hS hl hL hs hc hsl
  have K2 := K p l e R s m args below meth c Z al0 ad0 ad al H locs cells slots ls cx hrc hec w x0 hS hl hL (okS.c trivial hs.t) hc hsl
  obtain ⟨hx, hb, hml, hown, hts, hgd, -⟩ := cx
  obtain ⟨n, hn⟩ := List.getElem?_of_mem ((w.1 a).mpr ⟨ha, h64⟩)
  have he := wl_get (cA := gA g) (ad := ad) (h := h) hn
  by_cases h3 : t < 3
  · rw [ce_int hp h3] at he
    exact va_alen hx hb hgd.1 w.2.2.2.1 n t he (tyl_at _ ht) rfl d K2
  · rw [ce_ref hp h3] at he
    exact va_alen hx hb hgd.1 w.2.2.2.1 n t he (tyl_at _ ht) rfl d K2
theorem v_iald {a : Ad} {i : Int32} (d : decode (kC k) pc = .ok (.iaload, 1)) (hp : pk a.1 = .inr 0) (h64 : a.1 < 64) (ha : a.2 < cn h a.1) (hi : vp_in i (ln h a)) (K : V g k dd rc rs (pc + 1) L (pI (vi h a i.toNatClampNeg) :: st) h Q E) : V g k dd rc rs pc L (pI i :: pR a :: st) h Q E := by
  intro p l e R s m args below meth c Z al0 ad0 ad al H locs cells slots ls cx hrc hec w x0 hS hl hL hs hc hsl
  have K2 := K p l e R s m args below meth c Z al0 ad0 ad al H locs cells slots ls cx hrc hec w x0 hS hl hL (okS.c trivial hs.t.t) hc hsl
  obtain ⟨hx, hb, hml, hown, hts, hgd, -⟩ := cx
  obtain ⟨n, hn⟩ := List.getElem?_of_mem ((w.1 a).mpr ⟨ha, h64⟩)
  have he := wl_get (cA := gA g) (ad := ad) (h := h) hn
  rw [ce_int hp (by decide)] at he
  exact va_iald hx hb hgd.1 w.2.2.2.1 n 0 he (tyl_at _ (by decide)) hi d K2
theorem v_bald {a : Ad} {i : Int32} (d : decode (kC k) pc = .ok (.baload, 1)) (hp : pk a.1 = .inr 1) (h64 : a.1 < 64) (ha : a.2 < cn h a.1) (hi : vp_in i (ln h a)) (K : V g k dd rc rs (pc + 1) L (pI (vi h a i.toNatClampNeg) :: st) h Q E) : V g k dd rc rs pc L (pI i :: pR a :: st) h Q E := by
  intro p l e R s m args below meth c Z al0 ad0 ad al H locs cells slots ls cx hrc hec w x0 hS hl hL hs hc hsl
  have K2 := K p l e R s m args below meth c Z al0 ad0 ad al H locs cells slots ls cx hrc hec w x0 hS hl hL (okS.c trivial hs.t.t) hc hsl
  obtain ⟨hx, hb, hml, hown, hts, hgd, -⟩ := cx
  obtain ⟨n, hn⟩ := List.getElem?_of_mem ((w.1 a).mpr ⟨ha, h64⟩)
  have he := wl_get (cA := gA g) (ad := ad) (h := h) hn
  rw [ce_int hp (by decide)] at he
  exact va_bald hx hb hgd.1 w.2.2.2.1 n 1 he (tyl_at _ (by decide)) hi d K2
theorem v_zald {a : Ad} {i : Int32} (d : decode (kC k) pc = .ok (.baload, 1)) (hp : pk a.1 = .inr 2) (h64 : a.1 < 64) (ha : a.2 < cn h a.1) (hi : vp_in i (ln h a)) (K : V g k dd rc rs (pc + 1) L (pI (vi h a i.toNatClampNeg) :: st) h Q E) : V g k dd rc rs pc L (pI i :: pR a :: st) h Q E := by
  intro p l e R s m args below meth c Z al0 ad0 ad al H locs cells slots ls cx hrc hec w x0 hS hl hL hs hc hsl
  have K2 := K p l e R s m args below meth c Z al0 ad0 ad al H locs cells slots ls cx hrc hec w x0 hS hl hL (okS.c trivial hs.t.t) hc hsl
  obtain ⟨hx, hb, hml, hown, hts, hgd, -⟩ := cx
  obtain ⟨n, hn⟩ := List.getElem?_of_mem ((w.1 a).mpr ⟨ha, h64⟩)
  have he := wl_get (cA := gA g) (ad := ad) (h := h) hn
  rw [ce_int hp (by decide)] at he
  exact va_zald hx hb hgd.1 w.2.2.2.1 n 2 he (tyl_at _ (by decide)) hi d K2
theorem v_aald {t : Nat} {a : Ad} {i : Int32} (o : Option Ad) (d : decode (kC k) pc = .ok (.aaload, 1)) (hp : pk a.1 = .inr t) (ht : t < 6) (h3 : ¬ t < 3) (h64 : a.1 < 64) (ha : a.2 < cn h a.1) (hi : vp_in i (ln h a)) (ho : vr h a i.toNatClampNeg = o) (K : V g k dd rc rs (pc + 1) L (pO o :: st) h Q E) : V g k dd rc rs pc L (pI i :: pR a :: st) h Q E := by
  intro p l e R s m args below meth c Z al0 ad0 ad al H locs cells slots ls cx hrc hec w x0 hS hl hL hs hc hsl
  have hal := (w.1 a).mpr ⟨ha, h64⟩
  have K2 := K p l e R s m args below meth c Z al0 ad0 ad al H locs cells slots ls cx hrc hec w x0 hS hl hL (okS.c (by have z := w.2.1 a hal i.toNatClampNeg; rw [ho] at z; exact z) hs.t.t) hc hsl
  obtain ⟨hx, hb, hml, hown, hts, hgd, -⟩ := cx
  obtain ⟨n, hn⟩ := List.getElem?_of_mem hal
  have he := wl_get (cA := gA g) (ad := ad) (h := h) hn
  rw [ce_ref hp h3] at he
  subst ho
  have hty := tyl_at (gA g) ht
  obtain ⟨C, hC⟩ : ∃ C, aty t = .object C := by
    rcases (show t = 3 ∨ t = 4 ∨ t = 5 by omega) with rfl | rfl | rfl <;> exact ⟨_, rfl⟩
  rw [hC] at hty
  exact va_aldq hx hb hgd.1 w.2.2.2.1 n t he hty hi d K2
theorem v_iast {a : Ad} {i x : Int32} (d : decode (kC k) pc = .ok (.iastore, 1)) (hp : pk a.1 = .inr 0) (h64 : a.1 < 64) (ha : a.2 < cn h a.1) (hi : vp_in i (ln h a)) (K : V g k dd rc rs (pc + 1) L st (sI h a i.toNatClampNeg x) Q E) : V g k dd rc rs pc L (pI x :: pI i :: pR a :: st) h Q E := by
  intro p l e R s m args below meth c Z al0 ad0 ad al H locs cells slots ls cx hrc hec w x0 hS hl hL hs hc hsl
  have K2 := fun H1 locs1 w1 hS1 => K p l e R s m args below meth c Z al0 ad0 ad al H1 locs1 cells slots ls cx hrc hec w1 x0 hS1 hl (okL_of rfl hL) (okS_of rfl hs.t.t.t) hc hsl
  obtain ⟨hx, hb, hml, hown, hts, hgd, -, -, -, hsz⟩ := cx
  obtain ⟨n, hn⟩ := List.getElem?_of_mem ((w.1 a).mpr ⟨ha, h64⟩)
  have he := wl_get (cA := gA g) (ad := ad) (h := h) hn
  rw [ce_int hp (by decide)] at he
  refine va_iast hx hb hgd.1 w.2.2.2.1 w.2.2.2.2.1 hS n 0 he (tyl_at _ (by decide)) hi d (fun H1 locs1 hP hD hS1 => ?_)
  rw [int_up _ (fun j => vi (sI h a i.toNatClampNeg x) a j) i.toNatClampNeg x (by rw [vi_sI, if_pos ⟨rfl, rfl⟩]) (fun j hj => by rw [vi_sI, if_neg (fun z => hj z.2)])] at hP hD
  have e : (ad a, (Sum.inl (gA g 0, ln h a, Sum.inl fun j => vi (sI h a i.toNatClampNeg x) a j) : va_E)) = (ad a, ce (gA g) ad (sI h a i.toNatClampNeg x) a) := by rw [ce_int hp (by decide)]; rfl
  rw [e] at hP hD
  exact K2 H1 locs1 (w.set hn rfl (fun b _ hne => ce_other rfl (fun j => by rw [vi_sI, if_neg (fun z => hne z.1)]) (fun _ => rfl) (fun _ => rfl)) (fun b hbl j => w.2.1 b hbl j) hP hD hS1 hsz (hS.ground hsz hS1 w.2.2.2.2.2.2)) hS1
theorem v_bast {a : Ad} {i x : Int32} (d : decode (kC k) pc = .ok (.bastore, 1)) (hp : pk a.1 = .inr 1) (h64 : a.1 < 64) (ha : a.2 < cn h a.1) (hi : vp_in i (ln h a)) (K : V g k dd rc rs (pc + 1) L st (sI h a i.toNatClampNeg (vp_nar .byte x)) Q E) : V g k dd rc rs pc L (pI x :: pI i :: pR a :: st) h Q E := by
  intro p l e R s m args below meth c Z al0 ad0 ad al H locs cells slots ls cx hrc hec w x0 hS hl hL hs hc hsl
  have K2 := fun H1 locs1 w1 hS1 => K p l e R s m args below meth c Z al0 ad0 ad al H1 locs1 cells slots ls cx hrc hec w1 x0 hS1 hl (okL_of rfl hL) (okS_of rfl hs.t.t.t) hc hsl
  obtain ⟨hx, hb, hml, hown, hts, hgd, -, -, -, hsz⟩ := cx
  obtain ⟨n, hn⟩ := List.getElem?_of_mem ((w.1 a).mpr ⟨ha, h64⟩)
  have he := wl_get (cA := gA g) (ad := ad) (h := h) hn
  rw [ce_int hp (by decide)] at he
  refine va_bast hx hb hgd.1 w.2.2.2.1 w.2.2.2.2.1 hS n 1 he (tyl_at _ (by decide)) hi d (fun H1 locs1 hP hD hS1 => ?_)
  generalize vp_nar .byte x = y at hP hD K2
  rw [int_up _ (fun j => vi (sI h a i.toNatClampNeg y) a j) i.toNatClampNeg y (by rw [vi_sI, if_pos ⟨rfl, rfl⟩]) (fun j hj => by rw [vi_sI, if_neg (fun z => hj z.2)])] at hP hD
  have e : (ad a, (Sum.inl (gA g 1, ln h a, Sum.inl fun j => vi (sI h a i.toNatClampNeg y) a j) : va_E)) = (ad a, ce (gA g) ad (sI h a i.toNatClampNeg y) a) := by rw [ce_int hp (by decide)]; rfl
  rw [e] at hP hD
  exact K2 H1 locs1 (w.set hn rfl (fun b _ hne => ce_other rfl (fun j => by rw [vi_sI, if_neg (fun z => hne z.1)]) (fun _ => rfl) (fun _ => rfl)) (fun b hbl j => w.2.1 b hbl j) hP hD hS1 hsz (hS.ground hsz hS1 w.2.2.2.2.2.2)) hS1
theorem v_zast {a : Ad} {i x : Int32} (d : decode (kC k) pc = .ok (.bastore, 1)) (hp : pk a.1 = .inr 2) (h64 : a.1 < 64) (ha : a.2 < cn h a.1) (hi : vp_in i (ln h a)) (K : V g k dd rc rs (pc + 1) L st (sI h a i.toNatClampNeg (vp_nar .boolean x)) Q E) : V g k dd rc rs pc L (pI x :: pI i :: pR a :: st) h Q E := by
  intro p l e R s m args below meth c Z al0 ad0 ad al H locs cells slots ls cx hrc hec w x0 hS hl hL hs hc hsl
  have K2 := fun H1 locs1 w1 hS1 => K p l e R s m args below meth c Z al0 ad0 ad al H1 locs1 cells slots ls cx hrc hec w1 x0 hS1 hl (okL_of rfl hL) (okS_of rfl hs.t.t.t) hc hsl
  obtain ⟨hx, hb, hml, hown, hts, hgd, -, -, -, hsz⟩ := cx
  obtain ⟨n, hn⟩ := List.getElem?_of_mem ((w.1 a).mpr ⟨ha, h64⟩)
  have he := wl_get (cA := gA g) (ad := ad) (h := h) hn
  rw [ce_int hp (by decide)] at he
  refine va_zast hx hb hgd.1 w.2.2.2.1 w.2.2.2.2.1 hS n 2 he (tyl_at _ (by decide)) hi d (fun H1 locs1 hP hD hS1 => ?_)
  generalize vp_nar .boolean x = y at hP hD K2
  rw [int_up _ (fun j => vi (sI h a i.toNatClampNeg y) a j) i.toNatClampNeg y (by rw [vi_sI, if_pos ⟨rfl, rfl⟩]) (fun j hj => by rw [vi_sI, if_neg (fun z => hj z.2)])] at hP hD
  have e : (ad a, (Sum.inl (gA g 2, ln h a, Sum.inl fun j => vi (sI h a i.toNatClampNeg y) a j) : va_E)) = (ad a, ce (gA g) ad (sI h a i.toNatClampNeg y) a) := by rw [ce_int hp (by decide)]; rfl
  rw [e] at hP hD
  exact K2 H1 locs1 (w.set hn rfl (fun b _ hne => ce_other rfl (fun j => by rw [vi_sI, if_neg (fun z => hne z.1)]) (fun _ => rfl) (fun _ => rfl)) (fun b hbl j => w.2.1 b hbl j) hP hD hS1 hsz (hS.ground hsz hS1 w.2.2.2.2.2.2)) hS1
/-- null, or an object whose class may lie there, is stored -/
theorem v_aast {t : Nat} {E0 : String} {a : Ad} {i : Int32} {o : Option Ad} (d : decode (kC k) pc = .ok (.aastore, 1)) (hp : pk a.1 = .inr t) (ht : t < 6) (h3 : ¬ t < 3) (hE : aty t = .object E0) (h64 : a.1 < 64)
    (ho : ∀ b, o = some b → b.1 < 64 ∧ ∃ ci q, pk b.1 = .inl ci ∧ vwCl[ci]? = some q ∧ (Cond.castable q.1 E0 ∈ lw_n ∨ q.1 = E0)) (ha : a.2 < cn h a.1) (hi : vp_in i (ln h a)) (K : V g k dd rc rs (pc + 1) L st (sR h a i.toNatClampNeg o) Q E) : V g k dd rc rs pc L (pO o :: pI i :: pR a :: st) h Q E := by
  intro p l e R s m args below meth c Z al0 ad0 ad al H locs cells slots ls cx hrc hec w x0 hS hl hL hs hc hsl
  have K2 := fun H1 locs1 w1 hS1 => K p l e R s m args below meth c Z al0 ad0 ad al H1 locs1 cells slots ls cx hrc hec w1 x0 hS1 hl (okL_of rfl hL) (okS_of rfl hs.t.t.t) hc hsl
  obtain ⟨hx, hb, hml, hown, hts, hgd, -, -, -, hsz⟩ := cx
  obtain ⟨n, hn⟩ := List.getElem?_of_mem ((w.1 a).mpr ⟨ha, h64⟩)
  have he := wl_get (cA := gA g) (ad := ad) (h := h) hn
  rw [ce_ref hp h3] at he
  have hty := tyl_at (gA g) ht
  rw [hE] at hty
  have fin2 : ∀ (H1 : Heap) (locs1 : List Loc), va_P (gD g) vwCl ((wl (gA g) ad h al).set n (ad a, .inl (gA g t, ln h a, .inr (.inr (.inr (.inr (va_up (fun j => (vr h a j).map ad) i.toNatClampNeg (o.map ad)))))))) H1 → va_D (gF g) ((wl (gA g) ad h al).set n (ad a, .inl (gA g t, ln h a, .inr (.inr (.inr (.inr (va_up (fun j => (vr h a j).map ad) i.toNatClampNeg (o.map ad)))))))) → va_S (gF g) s.heap H1 locs1 → W p l e R s m args below meth c H1 locs1 cells slots Z (F0 m (pc + 1) ls (st.map (em ad))) := by
    intro H1 locs1 hP hD hS1
    rw [map_up _ (fun j => vr (sR h a i.toNatClampNeg o) a j) ad i.toNatClampNeg o (by rw [vr_sR, if_pos ⟨rfl, rfl⟩]) (fun j hj => by rw [vr_sR, if_neg (fun z => hj z.2)])] at hP hD
    have e : (ad a, (Sum.inl (gA g t, ln h a, Sum.inr (Sum.inr (Sum.inr (Sum.inr fun j => (vr (sR h a i.toNatClampNeg o) a j).map ad)))) : va_E)) = (ad a, ce (gA g) ad (sR h a i.toNatClampNeg o) a) := by rw [ce_ref hp h3]; rfl
    rw [e] at hP hD
    refine K2 H1 locs1 (w.set hn rfl (fun b _ hne => ce_other rfl (fun _ => rfl) (fun _ => rfl) (fun j => by rw [vr_sR, if_neg (fun z => hne z.1)])) (fun b hbl j => ?_) hP hD hS1 hsz (hS.ground hsz hS1 w.2.2.2.2.2.2)) hS1
    rw [vr_sR]
    by_cases z : b = a ∧ j = i.toNatClampNeg
    · rw [if_pos z]; exact hs.hd
    · rw [if_neg z]; exact w.2.1 b hbl j
  cases o with
  | none => exact va_astqN hx hb hgd.1 w.2.2.2.1 w.2.2.2.2.1 hS n t he hty hi d fin2
  | some b =>
    obtain ⟨hb64, ci, q, hpb, hq, hca⟩ := ho b rfl
    have hbal : b ∈ al := by
      rcases w.okr_al hs.hd b rfl with z | z
      · exact z
      · omega
    obtain ⟨nb, hnb⟩ := List.getElem?_of_mem hbal
    have heb := wl_get (cA := gA g) (ad := ad) (h := h) hnb
    rw [ce_obj hpb] at heb
    rcases hca with hca | hca
    · exact va_astqO hx hb hgd.1 w.2.2.2.1 w.2.2.2.2.1 hS n t nb ci he hty (hgd.2.1 _ hca) heb hq hi d fin2
    · subst hca
      exact va_astq hx hb hgd.1 w.2.2.2.1 w.2.2.2.2.1 hS n t nb ci he hty heb hq hi d fin2
end VR3
