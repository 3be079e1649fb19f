def yGC : MethodName := ⟨"java/lang/Object", "getClass", "()Ljava/lang/Class;"⟩
theorem gc_l : Cond.methodLink RJ7 86 yGC ∈ lw_g := lw_g_in (i := 667) (by decide +kernel) (by decide +kernel)
theorem gc_d : Cond.declares yGC ∈ lw_n := lw_n_in (i := 1655) (by decide +kernel) (by decide +kernel)
theorem gc_s : Cond.selects "[Ljava/lang/Object;" yGC yGC ∈ lw_g := lw_g_in (i := 1654) (by decide +kernel) (by decide +kernel)
theorem gc_i : Cond.instanceMethod yGC ∈ lw_g := lw_g_in (i := 668) (by decide +kernel) (by decide +kernel)
theorem gc_n : Cond.native yGC ∈ lw_g := lw_g_in (i := 686) (by decide +kernel) (by decide +kernel)
theorem ay_l : Cond.methodLink RJ7 150 arraycopyName ∈ lw_g := lw_g_in (i := 599) (by decide +kernel) (by decide +kernel)
theorem ay_n : Cond.native arraycopyName ∈ lw_g := lw_g_in (i := 601) (by decide +kernel) (by decide +kernel)
theorem ay_s : Cond.static arraycopyName ∈ lw_g := lw_g_in (i := 600) (by decide +kernel) (by decide +kernel)
theorem ay_i : Cond.initialized "java/lang/System" ∈ lw_g := lw_g_in (i := 93) (by decide +kernel) (by decide +kernel)
section VR9
variable {g : G0} {k : Kf} {dd rc rs pc : Nat} {L : List (Nat × PV)} {st : List PV} {h : Hp} {Q : Option PV → Hp → Prop} {E : EP}
theorem v_getC {a : Ad} (hk : kO k = RJ7) (d : decode (kC k) pc = .ok (.invokevirtual 86, 3)) (hp : pk a.1 = .inr 3) (h64 : a.1 < 64) (ha : a.2 < cn h a.1) (hd : 1 ≤ dd) (hst : cs st ≤ 8)
    (K : V g k dd rc rs (pc + 3) L (pR (68, 0) :: st) h Q E) : V g k dd rc rs pc L (pR a :: st) h Q E := by
  intro p l e R s m args below meth c Z al0 ad0 ad al H locs cells slots ls cx hrc hec w x0 hS hl hL hs hc hsl
  have K2 := K p l e R s m args below meth c Z al0 ad0 ad al H locs cells slots ls cx hrc hec w x0 hS hl hL (okS.c (ok64 h 68 0 (by decide)) hs.t) hc hsl
  obtain ⟨hx, hb, hml, hown, hts, hgd, hfr, hlo, -⟩ := cx
  have e1 : (pR (68, 0) :: st).map (em ad) = .ref (gC g (68, 0)) :: st.map (em ad) := by
    show va_rf (some (ad (68, 0))) :: _ = _
    rw [w.2.2.1 (68, 0) (Nat.le_of_ble_eq_true rfl)]; rfl
  rw [e1] at K2
  obtain ⟨n, hn⟩ := List.getElem?_of_mem ((w.1 a).mpr ⟨ha, h64⟩)
  have he := wl_get (cA := gA g) (ad := ad) (h := h) hn
  rw [ce_ref hp (by decide)] at he
  obtain ⟨kA, comp, k1, k2, k3, k4⟩ := (hgd.1.2 3 _ (tyl_at (gA g) (by decide))).2
  have hf : s.vm.findClass "[Ljava/lang/Object;" = some (gA g 3) := k4
  rw [hk] at hown
  refine va_getC hx hb (hml.trans hl.1.symm) hown (hts _ gc_l) (va_Nw.use rfl (hgd.2.1 _ gc_d)) (hts _ gc_s) (hts _ gc_i) (hts _ gc_n) hgd.2.2.2.2.2.2.2.2.2.2.2.2.2.1 ⟨_, w.2.2.2.1 n _ he, rfl, hf⟩ (by omega) (by rw [em_cs]; omega) d K2
theorem v_ldcM (hk : kO k = RJ7) (d : decode (kC k) pc = .ok (.ldc 110, 2)) (K : V g k dd rc rs (pc + 2) L (pR (68, 0) :: st) h Q E) : V g k dd rc rs pc L st h Q E := by
  intro p l e R s m args below meth c Z al0 ad0 ad al H locs cells slots ls cx hrc hec w x0 hS hl hL hs hc hsl
  have K2 := K p l e R s m args below meth c Z al0 ad0 ad al H locs cells slots ls cx hrc hec w x0 hS hl hL (okS.c (ok64 h 68 0 (by decide)) hs) hc hsl
  obtain ⟨hx, hb, hml, hown, hts, hgd, hfr, hlo, -⟩ := cx
  have e1 : (pR (68, 0) :: st).map (em ad) = .ref (gC g (68, 0)) :: st.map (em ad) := by
    show va_rf (some (ad (68, 0))) :: _ = _
    rw [w.2.2.1 (68, 0) (Nat.le_of_ble_eq_true rfl)]; rfl
  rw [e1] at K2
  rw [hk] at hown
  exact va_ldcM hx hb hown (hts _ clJ7_110) hgd.2.2.2.2.2.2.2.2.2.2.2.2.2.1 d K2
def cpy {α : Type} (f g : Nat → α) (sp dp n : Nat) : Nat → α := va_cpy f g sp dp n
theorem v_copyR {a0 a1 : Ad} {sp dp n : Int32} {ci : Nat} {q : vw_C} (hk : kO k = RJ7) (d : decode (kC k) pc = .ok (.invokestatic 150, 3)) (hp0 : pk a0.1 = .inr 3) (hp1 : pk a1.1 = .inr 3) (h64 : a0.1 < 64 ∧ a1.1 < 64) (ha0 : a0.2 < cn h a0.1) (ha1 : a1.2 < cn h a1.1) (hne : a0 ≠ a1) (h1 : ¬ sp < 0) (h2 : ¬ dp < 0) (h3 : ¬ n < 0) (h4 : sp.toNatClampNeg + n.toNatClampNeg ≤ ln h a0) (h5 : dp.toNatClampNeg + n.toNatClampNeg ≤ ln h a1)
    (hq : vwCl[ci]? = some q) (hca : Cond.castable q.1 "java/lang/Object" ∈ lw_n) (hel : ∀ i, i < n.toNatClampNeg → ∀ b, vr h a0 (sp.toNatClampNeg + i) = some b → b.1 < 64 ∧ pk b.1 = .inl ci) (hd : 1 ≤ dd) (hst : cs st ≤ 8)
    (K : V g k dd rc rs (pc + 3) L st (sRs h a1 (cpy (vr h a0) (vr h a1) sp.toNatClampNeg dp.toNatClampNeg n.toNatClampNeg)) Q E) : V g k dd rc rs pc L (pI n :: pI dp :: pR a1 :: pI sp :: pR a0 :: st) h Q E := by
  intro p l e R s m args below meth c Z al0 ad0 ad al H locs cells slots ls cx hrc hec w x0 hS hl hL hs hc hsl
  have K2 := fun H1 locs1 w1 hS1 => K p l e R s m args below meth c Z al0 ad0 ad al H1 locs1 cells slots ls cx hrc hec w1 x0 hS1 hl (okL_of rfl hL) (okS_of rfl hs.t.t.t.t.t) hc hsl
  obtain ⟨hx, hb, hml, hown, hts, hgd, hfr, hlo, -, hsz⟩ := cx
  rw [hk] at hown
  have hal0 := (w.1 a0).mpr ⟨ha0, h64.1⟩
  obtain ⟨n0, hn0⟩ := List.getElem?_of_mem hal0
  obtain ⟨n1, hn1⟩ := List.getElem?_of_mem ((w.1 a1).mpr ⟨ha1, h64.2⟩)
  have he0 := wl_get (cA := gA g) (ad := ad) (h := h) hn0
  have he1 := wl_get (cA := gA g) (ad := ad) (h := h) hn1
  rw [ce_ref hp0 (by decide)] at he0
  rw [ce_ref hp1 (by decide)] at he1
  have hnat : nativeFrameWords "java/lang/System" "arraycopy" 5 + 11 + 8 ≤ 41 := by decide +kernel
  refine va_copyq (C := q.1) hx hb (hml.trans hl.1.symm) hown (hts _ ay_l) (hts _ ay_n) (hts _ ay_s) (hts _ ay_i) hgd.1 w.2.2.2.1 w.2.2.2.2.1 hS n0 n1 3 3 he0 he1 (tyl_at _ (by decide)) (tyl_at _ (by decide)) h1 h2 h3 h4 h5 ?_ ?_ (by omega) (by rw [em_cs]; omega) d (fun H1 locs1 hP hD hS1 => ?_)
  · intro i hi y hy
    cases hv : vr h a0 (sp.toNatClampNeg + i) with
    | none => rw [hv] at hy; cases hy
    | some b =>
      rw [hv] at hy
      have hy2 : ad b = y := Option.some.inj hy
      obtain ⟨b64, bp⟩ := hel i hi b hv
      have hbal : b ∈ al := by
        rcases w.okr_al (w.2.1 a0 hal0 (sp.toNatClampNeg + i)) b hv with z | z
        · exact z
        · omega
      obtain ⟨nb, hnb⟩ := List.getElem?_of_mem hbal
      have heb := wl_get (cA := gA g) (ad := ad) (h := h) hnb
      rw [ce_obj bp] at heb
      rw [← hy2]
      exact va_recv hgd.1 w.2.2.2.1 hq heb
  · intro comp c0 hcomp hc0
    obtain ⟨c1, t1, f1, f2, f3⟩ := Cond.castable_spec (va_Nw.use (A := args) rfl (hgd.2.1 _ hca))
    cases hc0.symm.trans f1
    cases hcomp.symm.trans f2
    exact f3
  · have ef : va_cpy (fun j => (vr h a0 j).map ad) (fun j => (vr h a1 j).map ad) sp.toNatClampNeg dp.toNatClampNeg n.toNatClampNeg = fun j => (vr (sRs h a1 (cpy (vr h a0) (vr h a1) sp.toNatClampNeg dp.toNatClampNeg n.toNatClampNeg)) a1 j).map ad := by
      funext j
      rw [vr_sRs, if_pos rfl]
      unfold cpy va_cpy
      split <;> rfl
    rw [ef] at hP hD
    have ee : (ad a1, (Sum.inl (gA g 3, ln h a1, Sum.inr (Sum.inr (Sum.inr (Sum.inr fun j => (vr (sRs h a1 (cpy (vr h a0) (vr h a1) sp.toNatClampNeg dp.toNatClampNeg n.toNatClampNeg)) a1 j).map ad)))) : va_E)) = (ad a1, ce (gA g) ad (sRs h a1 (cpy (vr h a0) (vr h a1) sp.toNatClampNeg dp.toNatClampNeg n.toNatClampNeg)) a1) := by rw [ce_ref hp1 (by decide)]; rfl
    rw [ee] at hP hD
    refine K2 H1 locs1 (w.set hn1 rfl (fun b _ hne => ce_other rfl (fun _ => rfl) (fun _ => rfl) (fun j => by rw [vr_sRs, if_neg hne])) (fun b hbl j => ?_) hP hD hS1 hsz (hS.ground hsz hS1 w.2.2.2.2.2.2)) hS1
    rw [vr_sRs]
    by_cases z : b = a1
    · rw [if_pos z]
      unfold cpy va_cpy
      split
      · exact w.2.1 a0 hal0 _
      · exact w.2.1 a1 (z ▸ hbl) j
    · rw [if_neg z]; exact w.2.1 b hbl j
theorem v_copyI {a0 a1 : Ad} {sp dp n : Int32} (hk : kO k = RJ7) (d : decode (kC k) pc = .ok (.invokestatic 150, 3)) (hp0 : pk a0.1 = .inr 0) (hp1 : pk a1.1 = .inr 0) (h64 : a0.1 < 64 ∧ a1.1 < 64) (ha0 : a0.2 < cn h a0.1) (ha1 : a1.2 < cn h a1.1) (h1 : ¬ sp < 0) (h2 : ¬ dp < 0) (h3 : ¬ n < 0) (h4 : sp.toNatClampNeg + n.toNatClampNeg ≤ ln h a0) (h5 : dp.toNatClampNeg + n.toNatClampNeg ≤ ln h a1) (hd : 1 ≤ dd) (hst : cs st ≤ 8)
    (K : V g k dd rc rs (pc + 3) L st (sIs h a1 (cpy (vi h a0) (vi h a1) sp.toNatClampNeg dp.toNatClampNeg n.toNatClampNeg)) Q E) : V g k dd rc rs pc L (pI n :: pI dp :: pR a1 :: pI sp :: pR a0 :: st) h Q E := by
  intro p l e R s m args below meth c Z al0 ad0 ad al H locs cells slots ls cx hrc hec w x0 hS hl hL hs hc hsl
  have K2 := fun H1 locs1 w1 hS1 => K p l e R s m args below meth c Z al0 ad0 ad al H1 locs1 cells slots ls cx hrc hec w1 x0 hS1 hl (okL_of rfl hL) (okS_of rfl hs.t.t.t.t.t) hc hsl
  obtain ⟨hx, hb, hml, hown, hts, hgd, hfr, hlo, -, hsz⟩ := cx
  rw [hk] at hown
  obtain ⟨n0, hn0⟩ := List.getElem?_of_mem ((w.1 a0).mpr ⟨ha0, h64.1⟩)
  obtain ⟨n1, hn1⟩ := List.getElem?_of_mem ((w.1 a1).mpr ⟨ha1, h64.2⟩)
  have he0 := wl_get (cA := gA g) (ad := ad) (h := h) hn0
  have he1 := wl_get (cA := gA g) (ad := ad) (h := h) hn1
  rw [ce_int hp0 (by decide)] at he0
  rw [ce_int hp1 (by decide)] at he1
  have hnat : nativeFrameWords "java/lang/System" "arraycopy" 5 + 11 + 8 ≤ 41 := by decide +kernel
  refine va_copyi hx hb (hml.trans hl.1.symm) hown (hts _ ay_l) (hts _ ay_n) (hts _ ay_s) (hts _ ay_i) hgd.1 w.2.2.2.1 w.2.2.2.2.1 hS n0 n1 0 0 he0 he1 (tyl_at _ (by decide)) (tyl_at _ (by decide)) rfl h1 h2 h3 h4 h5 (fun _ _ => rfl) (by omega) (by rw [em_cs]; omega) d (fun H1 locs1 hP hD hS1 => ?_)
  have ef : va_cpy (fun j => vi h a0 j) (fun j => vi h a1 j) sp.toNatClampNeg dp.toNatClampNeg n.toNatClampNeg = fun j => vi (sIs h a1 (cpy (vi h a0) (vi h a1) sp.toNatClampNeg dp.toNatClampNeg n.toNatClampNeg)) a1 j := by
    funext j
    rw [vi_sIs, if_pos rfl]
    rfl
  rw [ef] at hP hD
  have ee : (ad a1, (Sum.inl (gA g 0, ln h a1, Sum.inl fun j => vi (sIs h a1 (cpy (vi h a0) (vi h a1) sp.toNatClampNeg dp.toNatClampNeg n.toNatClampNeg)) a1 j) : va_E)) = (ad a1, ce (gA g) ad (sIs h a1 (cpy (vi h a0) (vi h a1) sp.toNatClampNeg dp.toNatClampNeg n.toNatClampNeg)) a1) := by rw [ce_int hp1 (by decide)]; rfl
  rw [ee] at hP hD
  exact K2 H1 locs1 (w.set hn1 rfl (fun b _ hne => ce_other rfl (fun j => by rw [vi_sIs, if_neg hne]) (fun _ => rfl) (fun _ => rfl)) (fun b hbl j => w.2.1 b hbl j) hP hD hS1 hsz (hS.ground hsz hS1 w.2.2.2.2.2.2)) hS1
/-- a row of references is cast to its own class -/
theorem v_castA {i : Nat} {a : Ad} (d : decode (kC k) pc = .ok (.checkcast i, 3)) (hcl : Cond.classLink (kO k) i "[Ljava/lang/Object;" ∈ lw_g) (hp : pk a.1 = .inr 3) (h64 : a.1 < 64) (ha : a.2 < cn h a.1) (K : V g k dd rc rs (pc + 3) L (pR a :: st) h Q E) : V g k dd rc rs pc L (pR a :: st) h Q E := by
  intro p l e R s m args below meth c Z al0 ad0 ad al H locs cells slots ls cx hrc hec w x0 hS hl hL hs hc hsl
  have K2 := K p l e R s m args below meth c Z al0 ad0 ad al H locs cells slots ls cx hrc hec w x0 hS hl hL hs hc hsl
  obtain ⟨hx, hb, hml, hown, hts, hgd, hfr, hlo, -, hsz⟩ := cx
  obtain ⟨n, hn⟩ := List.getElem?_of_mem ((w.1 a).mpr ⟨ha, h64⟩)
  have he := wl_get (cA := gA g) (ad := ad) (h := h) hn
  rw [ce_ref hp (by decide)] at he
  obtain ⟨kA, comp, k1, k2, k3, k4⟩ := (hgd.1.2 3 _ (tyl_at (gA g) (by decide))).2
  exact va_castA hx hb hown (hts _ hcl) w.2.2.2.1 n he k4 d K2
end VR9
