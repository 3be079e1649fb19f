def noX : Ad → Hp → Prop := fun _ _ => False
def noE : EP := fun _ _ _ _ => False
def qE (r : Option PV) (h : Hp) : Option PV → Hp → Prop := fun r' h' => r' = r ∧ h' = h
theorem Mx.ofF {g : G0} {y : MethodName} {cc : ByteArray} {nL d mc ms : Nat} {rt : Option FieldType} {A : List PV} {h : Hp} {Q : Option PV → Hp → Prop} {X : Ad → Hp → Prop} (hy : plainFor y = true) (hA : cs A ≤ nL)
    (hV : V g (y.cls, y.name, cc, nL, rt) d mc ms 0 (pA 0 A) [] h Q (fun _ _ a h' => X a h')) : Mx g y (Cond.code y cc nL rt) d A h mc ms Q X := by
  intro l ad al hok
  refine MetFree.of_bodySF (code := cc) (maxLocals := nL) (ret := rt) hy ?_ ?_
  · intro args s m h hn
    obtain ⟨meth, c, h1, h2, h3, h4, h5, h6, -, -⟩ := Cond.code_spec hn (atoms_spec (ws := Cond.code y cc nL rt :: lw_g) h _ List.mem_cons_self)
    exact ⟨meth, c, h1, h2, h3, h4, h5, h6⟩
  · intro p e s m args below meth c s₁ B hml hP _
    obtain ⟨rfl, hw, hgd⟩ := hP
    have hh0 : s₁.heap = s.heap := by rw [B.state]; rfl
    have hts0 := atoms_spec (ws := Cond.code y cc nL rt :: lw_g) B.pre
    have hex : c.exceptionTable.isEmpty = true := by
      obtain ⟨meth', c', hm', hc', -, -, -, -, he', -⟩ := Cond.code_spec B.named (hts0 _ List.mem_cons_self)
      cases B.method.symm.trans hm'
      cases (Stand.of_body B).code.symm.trans hc'
      exact he'
    have hex2 : c.exceptionTable.toList = [] := by
      have h0 : c.exceptionTable.size = 0 := by simpa [Array.isEmpty] using hex
      exact List.eq_nil_of_length_eq_zero (by simpa using h0)
    have hl := lv_entry (A.map (em ad)) (n := nL) (by rw [lg_sl_cs]; exact hA)
    rw [lv_args_em] at hl
    have K := hV p l e _ s m (A.map (em ad)).toArray below meth c (ZM g below s al ad mc ms Q X) al ad ad al s.heap [] 0 0 _
      ⟨B.exec, B.bytes, hml, findClass_of_methodNamed B.named, fun w hw => hts0 w (List.mem_cons_of_mem _ hw), hgd, Nat.le_refl _, Nat.le_refl _, (name_of_methodNamed B.named B.method).1, hw.2.2.2.2.2.1⟩
      (RC_M (R := { frames := d, cells := mc, slots := ms, locals := 41 * d }) B.exec B.bytes B.returns B.notSynchronized)
      (EC_M (R := { frames := d, cells := mc, slots := ms, locals := 41 * d }) B.notSynchronized (fun pc L a h' he => ⟨fun z hz => (by rw [hex2] at hz; cases hz), he⟩))
      hw Ex.rf va_S.rf hl (okL_pA A 0 hok) (fun v hv => by cases hv) (Nat.le_of_eq (Nat.zero_add _)) (Nat.le_of_eq (Nat.zero_add _))
    have K2 : W p l e { frames := d, cells := mc, slots := ms, locals := 41 * d } s m (A.map (em ad)).toArray below meth c s₁.heap [] 0 0 (ZM g below s al ad mc ms Q X) (entryFrame m (A.map (em ad)).toArray nL) := by
      rw [hh0, lg_entry_eq]
      exact K
    obtain ⟨t, a1, o, b1, b2, b3⟩ := K2 s₁ rfl (Stand.of_body B)
    exact ⟨t, o, a1, b1, b2, b3⟩
theorem Mx.by {g : G0} {y : MethodName} {cc : ByteArray} {nL d mc ms : Nat} {rt : Option FieldType} {A : List PV} {h : Hp} {Q : Option PV → Hp → Prop} {X : Ad → Hp → Prop} (k : Kf) (hk : (y.cls, y.name, cc, nL, rt) = k) (hy : plainFor y = true) (hA : cs A ≤ nL)
    (hV : V g k d mc ms 0 (pA 0 A) [] h Q (fun _ _ a h' => X a h')) : Mx g y (Cond.code y cc nL rt) d A h mc ms Q X := by
  subst hk
  exact Mx.ofF hy hA hV
theorem V.mono {g : G0} {k : Kf} {dd rc rs pc : Nat} {L : List (Nat × PV)} {st : List PV} {h : Hp} {Q Q' : Option PV → Hp → Prop} {E E' : EP} (hQ : ∀ r h', Q r h' → Q' r h') (hE : ∀ pc L a h', E pc L a h' → E' pc L a h') (K : V g k dd rc rs pc L st h Q E) : V g k dd rc rs pc L st h Q' E' := by
  intro p l e R s m args below meth c Z al0 ad0 ad al H locs cells slots ls cx hrc hec
  exact K p l e R s m args below meth c Z al0 ad0 ad al H locs cells slots ls cx (fun r h' ad' al' H' locs' cells' slots' pc' ls' q => hrc r h' ad' al' H' locs' cells' slots' pc' ls' (hQ r h' q)) (fun a h' ad' al' H' locs' cells' slots' pc' ls' L' st' T q => hec a h' ad' al' H' locs' cells' slots' pc' ls' L' st' T (hE _ _ _ _ q))
theorem Mx.mono {g : G0} {y : MethodName} {cw : Cond} {d mc ms : Nat} {A : List PV} {h : Hp} {Q Q' : Option PV → Hp → Prop} {X X' : Ad → Hp → Prop} (hQ : ∀ r h', Q r h' → Q' r h') (hX : ∀ a h', X a h' → X' a h') (m : Mx g y cw d A h mc ms Q X) : Mx g y cw d A h mc ms Q' X' := by
  intro l ad al hok
  have := m l ad al hok
  intro p e ha hc hk s mm args below hf happ hP hK
  obtain ⟨n, o, h1, h2, h3, h4, h5⟩ := this p e ha hc hk s mm args below hf happ hP hK
  refine ⟨n, o, h1, h2, h3, ?_, h5⟩
  rcases h4 with ⟨r, h', ad', al', e1, q, z⟩ | ⟨a, h', ad', al', e1, q, z⟩
  · exact Or.inl ⟨r, h', ad', al', e1, hQ _ _ q, z⟩
  · exact Or.inr ⟨a, h', ad', al', e1, hX _ _ q, z⟩
section VR6
variable {g : G0} {k : Kf} {dd rc rs pc : Nat} {L : List (Nat × PV)} {st : List PV} {h : Hp} {Q : Option PV → Hp → Prop} {E : EP}
/-- a call whose end is known: R, H' -/
theorem v_invVE {i nL' n' d' : Nat} {y : MethodName} {cw : Cond} {b : Ad} {As full : List PV} {R' : Option PV} {H' : Hp} (hM : Mx g y cw d' (pR b :: As) h 0 0 (qE R' H') noX) (dec : decode (kC k) pc = .ok (.invokevirtual i, 3)) (hcw : CW y cw nL' n') (hln : Cond.methodLink (kO k) i y ∈ lw_g ∧ Cond.instanceMethod y ∈ lw_g ∧ Cond.selects y.cls y y ∈ lw_g) (hb : isOb b y.cls)
    (hfull : full = As.reverse ++ pR b :: st) (hn : As.length = n') (hd : d' + 1 ≤ dd) (hnl : nL' ≤ 22) (hst : cs st ≤ 8) (K : V g k dd rc rs (pc + 3) L (R'.toList ++ st) H' Q E) : V g k dd rc rs pc L full h Q E :=
  v_invV rc rs hM dec hcw hln hb hfull hn hd hnl hst (Nat.le_refl _) (Nat.le_refl _) (fun r h' q => by obtain ⟨rfl, rfl⟩ := q; exact K) (fun _ _ q => q.elim)
theorem v_invSE {i nL' n' d' : Nat} {y : MethodName} {cc : ByteArray} {rt : Option FieldType} {As full : List PV} {R' : Option PV} {H' : Hp} (hM : Mx g y (Cond.code y cc nL' rt) d' As h 0 0 (qE R' H') noX) (dec : decode (kC k) pc = .ok (.invokestatic i, 3)) (hcw : CW y (Cond.code y cc nL' rt) nL' n') (hln : Cond.methodLink (kO k) i y ∈ lw_g ∧ Cond.static y ∈ lw_g)
    (hfull : full = As.reverse ++ st) (hn : As.length = n') (hd : d' + 1 ≤ dd) (hnl : nL' ≤ 22) (hst : cs st ≤ 8) (K : V g k dd rc rs (pc + 3) L (R'.toList ++ st) H' Q E) : V g k dd rc rs pc L full h Q E :=
  v_invS rc rs hM dec hcw hln hfull hn hd hnl hst (Nat.le_refl _) (Nat.le_refl _) (fun r h' q => by obtain ⟨rfl, rfl⟩ := q; exact K) (fun _ _ q => q.elim)
theorem v_invIE {i nL' n' d' mc ms : Nat} {y : MethodName} {cc : ByteArray} {b : Ad} {As full : List PV} {R' : Option PV} {H' : Hp} (rc' rs' : Nat) (hM : Mx g y (Cond.code y cc nL' none) d' (pR b :: As) h mc ms (qE R' H') noX) (dec : decode (kC k) pc = .ok (.invokespecial i, 3)) (hcw : CW y (Cond.code y cc nL' none) nL' n') (hy : y.name = "<init>") (hln : (Cond.methodLink (kO k) i y ∈ lw_g ∨ ∃ host, Cond.methodLinkNest (kO k) i y host ∈ lw_n) ∧ Cond.instanceMethod y ∈ lw_g)
    (hfull : full = As.reverse ++ pR b :: st) (hn : As.length = n') (hd : d' + 1 ≤ dd) (hnl : nL' ≤ 22) (hst : cs st ≤ 8) (h1 : rc' + mc ≤ rc) (h2 : rs' + ms ≤ rs) (K : V g k dd rc' rs' (pc + 3) L (R'.toList ++ st) H' Q E) : V g k dd rc rs pc L full h Q E :=
  v_invI rc' rs' hM dec hcw hy hln hfull hn hd hnl hst h1 h2 (fun r h' q => by obtain ⟨rfl, rfl⟩ := q; exact K) (fun _ _ q => q.elim)
end VR6
/-! the JDK's own Math -/
section VR7
variable {g : G0} {k : Kf} {dd rc rs pc : Nat} {L : List (Nat × PV)} {st : List PV} {h : Hp} {Q : Option PV → Hp → Prop} {E : EP}
theorem v_mmax {i : Nat} {x y : Int32} (d : decode (kC k) pc = .ok (.invokestatic i, 3)) (hln : Cond.methodLink (kO k) i yJ9_max_7cf53 ∈ lw_g ∧ Cond.static yJ9_max_7cf53 ∈ lw_g) (hd : 1 ≤ dd) (hst : cs st ≤ 8)
    (K : V g k dd rc rs (pc + 3) L (pI (if x < y then y else x) :: st) h Q E) : V g k dd rc rs pc L (pI y :: pI x :: st) h Q E := by
  intro p l e R s m args below meth c Z al0 ad0 ad al H locs cells slots ls cx hrc hec w x0 hS hl hL hs hc hsl
  have K2 := K p l e R s m args below meth c Z al0 ad0 ad al H locs cells slots ls cx hrc hec w x0 hS hl hL (okS.c trivial hs.t.t) hc hsl
  obtain ⟨hx, hb, hml, hown, hts, hgd, hfr, hlo, -⟩ := cx
  exact va_mmax hx hb (hml.trans hl.1.symm) hown (hts _ hln.1) (hts _ hln.2) (hts _ cwJ9_max_7cf53.2.1) (hts _ cwJ9_max_7cf53.1) (by omega) (by rw [em_cs]; omega) (by omega) (by omega) d K2
theorem v_mmin {i : Nat} {x y : Int32} (d : decode (kC k) pc = .ok (.invokestatic i, 3)) (hln : Cond.methodLink (kO k) i yJ9_min_7cf53 ∈ lw_g ∧ Cond.static yJ9_min_7cf53 ∈ lw_g) (hd : 1 ≤ dd) (hst : cs st ≤ 8)
    (K : V g k dd rc rs (pc + 3) L (pI (if y < x then y else x) :: st) h Q E) : V g k dd rc rs pc L (pI y :: pI x :: st) h Q E := by
  intro p l e R s m args below meth c Z al0 ad0 ad al H locs cells slots ls cx hrc hec w x0 hS hl hL hs hc hsl
  have K2 := K p l e R s m args below meth c Z al0 ad0 ad al H locs cells slots ls cx hrc hec w x0 hS hl hL (okS.c trivial hs.t.t) hc hsl
  obtain ⟨hx, hb, hml, hown, hts, hgd, hfr, hlo, -⟩ := cx
  exact va_mmin hx hb (hml.trans hl.1.symm) hown (hts _ hln.1) (hts _ hln.2) (hts _ cwJ9_min_7cf53.2.1) (hts _ cwJ9_min_7cf53.1) (by omega) (by rw [em_cs]; omega) (by omega) (by omega) d K2
theorem v_mminL {i : Nat} {x y : Int64} (d : decode (kC k) pc = .ok (.invokestatic i, 3)) (hln : Cond.methodLink (kO k) i yJ9_min_f86c9 ∈ lw_g ∧ Cond.static yJ9_min_f86c9 ∈ lw_g) (hd : 1 ≤ dd) (hst : cs st ≤ 8)
    (K : V g k dd rc rs (pc + 3) L (pL (if y < x then y else x) :: st) h Q E) : V g k dd rc rs pc L (pL y :: pL x :: st) h Q E := by
  intro p l e R s m args below meth c Z al0 ad0 ad al H locs cells slots ls cx hrc hec w x0 hS hl hL hs hc hsl
  have K2 := K p l e R s m args below meth c Z al0 ad0 ad al H locs cells slots ls cx hrc hec w x0 hS hl hL (okS.c trivial hs.t.t) hc hsl
  obtain ⟨hx, hb, hml, hown, hts, hgd, hfr, hlo, -⟩ := cx
  exact va_mmin_long hx hb (hml.trans hl.1.symm) hown (hts _ hln.1) (hts _ hln.2) (hts _ cwJ9_min_f86c9.2.1) (hts _ cwJ9_min_f86c9.1) (by omega) (by rw [em_cs]; omega) (by omega) (by omega) d K2
end VR7
