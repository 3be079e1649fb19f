/-! a method with a handler -/
/-- a table of one entry that catches: the search ends there, and the entry's class is on record -/
theorem hd_find {e : Env} {u : State} {f : JFrame} {a : Addr} {meth : Method} {code : Code} {x : ExceptionTableEntry} {cT : ClassId} {cell : Cell} (hm : u.vm.method? f.method = some meth) (hc : meth.code = some code) (ht : code.exceptionTable.toList = [x]) (hx : covers x f.pc = true) (h0 : x.catchType ≠ 0)
    (hl : u.vm.ClassLinks e.platform f.method.cls x.catchType cT) (hcell : u.heap[a]? = some cell) (hobj : cell.vm.isStatics = false) (hk : ∃ k, u.vm.classes[cell.cls]? = some k) (hkT : ∃ k, u.vm.classes[cT]? = some k) (hfit : u.vm.assignable cell.cls cT = true)
    (Q : Handler → Pre) (E : CtlPost) (d : Bool) (acts : List Action) : wp (findHandler f a) Q E e d acts u ↔ Q (.found x.handlerPc) d acts (u.setVm (u.vm.noted f.method.cls x.catchType (.cls cT))) := by
  obtain ⟨r1, r2⟩ := (resolveClass_links e.toSetting hl).op (op := VmOp.resolveClass f.method.cls x.catchType) rfl
  have al : u.vm.Alike (u.vm.noted f.method.cls x.catchType (.cls cT)) := (Vm.Alike.refl u.vm).noted _ _ _
  have fit2 : (u.vm.noted f.method.cls x.catchType (.cls cT)).assignable cell.cls cT = true := (al.assignable _ _).trans hfit
  obtain ⟨c1, hc1⟩ := hk
  obtain ⟨c2, hc2⟩ := hkT
  obtain ⟨c1', hc1', -⟩ := al.2.2 _ _ hc1
  obtain ⟨c2', hc2', -⟩ := al.2.2 _ _ hc2
  have no := VmData.ne_statics_of hobj
  rw [W.findHandler_eq hm hc, ht]
  unfold covers at hx
  simp [findHandler.go, hx, h0, r1, r2, hcell, no, hc1', hc2', fit2, VmOp.dirties, VmOp.acts]
/-- the walk goes on at the handler -/
theorem hd_go {p : Program} {l : Launch} {e : Env} {R : Room} {s : State} {m : MethodId} {args : Array Value} {below : List Frame} {meth : Method} {c : Code} {T : State} {locs : List Loc} {cells slots : Nat} (X : Stand p l e R s m args below meth c T locs cells slots) (a : Addr) {gf : JFrame} (hg : gf.method = m) {own nm : String} (hown : s.vm.findClass own = some m.cls) {x : ExceptionTableEntry} (ht : c.exceptionTable.toList = [x]) (hx : covers x gf.pc = true) (h0 : x.catchType ≠ 0)
    (hlink : (Cond.classLink own x.catchType nm).before args s = true) {cT : ClassId} {cell : Cell} (hcT : s.vm.findClass nm = some cT) (hcell : T.heap[a]? = some cell) (hobj : cell.vm.isStatics = false) (hfit : s.vm.assignable cell.cls cT = true) :
    ∃ vm', Stand p l e R s m args below meth c (T.setVm vm') locs cells slots ∧ ∀ target, Steps p.tables e below ((T.setVm vm').setTop { gf with pc := x.handlerPc, stack := [.ref a] }) target → Steps p.tables e below ((T.setTop gf).pushFrame (.throwing a)) target := by
  subst hg
  have hpl : e.platform.magicAccessors = ({} : Platform).magicAccessors := by rw [X.admits.platform]
  obtain ⟨c', hc', hcl⟩ := Cond.classLink_spec hown hlink e.platform hpl
  cases hcT.symm.trans hc'
  obtain ⟨dk, _, _, kt, hd, _, _, _, _, hkt, _, hopen⟩ := hcl.here
  have al := X.warmed.alike
  obtain ⟨kt', hkt', -⟩ := al.2.2 _ _ hkt
  have fitT : T.vm.assignable cell.cls cT = true := (al.assignable _ _).trans hfit
  have W2 : s.WarmedH (T.vm.noted gf.method.cls x.catchType (.cls cT)) := X.warmed.noted hd hopen (State.rightAt_cls hcl)
  refine ⟨_, X.noted W2, fun target hrest => ?_⟩
  have hh : At T gf.method c below := X.here
  have evm : ((T.setTop gf).pushFrame (.throwing a)).vm = T.vm := Stand.throwing_vm T gf a
  have ehp : ((T.setTop gf).pushFrame (.throwing a)).heap = T.heap := Stand.throwing_heap T gf a
  have fd := hd_find (e := e) (u := (T.setTop gf).pushFrame (.throwing a)) (f := gf) (a := a) (meth := meth) (code := c) (x := x) (cT := cT) (cell := cell) (by rw [evm]; exact X.method') X.code ht hx h0 (by rw [evm]; exact X.warmed.classLinks hcl) (by rw [ehp]; exact hcell) hobj (by rw [evm]; exact Vm.classAt_of_assignable fitT ⟨kt', hkt'⟩) (by rw [evm]; exact ⟨kt', hkt'⟩) (by rw [evm]; exact fitT)
  rw [evm] at fd
  obtain ⟨g1, g2⟩ := hh.throwing a
  refine Steps.head g1 g2 ?_
  rw [stepThread_throwing (frames_entered hh.top _)]
  have st : (stepThrowing e ((T.setTop gf).pushFrame (.throwing a)) a (.java gf :: T.frames.tail)).1 = (((T.setTop gf).pushFrame (.throwing a)).setVm (T.vm.noted gf.method.cls x.catchType (.cls cT))).setFrames (.java { gf with pc := x.handlerPc, stack := [.ref a] } :: T.frames.tail) := by
    simp only [stepThrowing, searchFrame, vmDo]
    generalize hr : Sem.go _ e false [] _ = res
    obtain ⟨as, rfl, ha⟩ := Sem.eq_ok_of hr (a := Handler.found x.handlerPc) (s' := ((T.setTop gf).pushFrame (.throwing a)).setVm (T.vm.noted gf.method.cls x.catchType (.cls cT))) (acts' := []) (by simp [fd])
    rfl
  rw [st]
  obtain ⟨g₀, hg0⟩ := Option.isSome_iff_exists.mp hh.top
  obtain ⟨rr, hrr⟩ := State.topJava?_eq_some.mp hg0
  have hr2 : (T.setVm (T.vm.noted gf.method.cls x.catchType (.cls cT))).frames = .java g₀ :: rr := hrr
  rw [State.setTop_of_frames _ hr2] at hrest
  rw [hrr, List.tail_cons, State.setTop_of_frames _ hrr]
  have sw : ∀ (v : Vm) (F G : List Frame), (((T.setFrames F).pushFrame (.throwing a)).setVm v).setFrames G = (T.setVm v).setFrames G := by
    intro v F G
    rw [State.pushFrame, State.setFrames_setFrames]
    show ((T.setVm v).setFrames _).setFrames G = _
    rw [State.setFrames_setFrames]
  rw [sw]
  exact hrest
theorem Mx.byH {g : G0} {y : MethodName} {cc : ByteArray} {nL d mc ms : Nat} {rt : Option FieldType} {A : List PV} {h : Hp} {Q : Option PV → Hp → Prop} {s0 e0 t0 x0 : Nat} {nm : String} (k : Kf) (hk : (y.cls, y.name, cc, nL, rt) = k) (hy : plainFor y = true) (hA : cs A ≤ nL) (hx0 : x0 ≠ 0) (hcl : Cond.classLink (kO k) x0 nm ∈ lw_g)
    (hV : V g k d mc ms 0 (pA 0 A) [] h Q (fun pc L a h' => (s0 ≤ pc ∧ pc < e0) ∧ (a.1 < 64 ∧ ∃ ci q, pk a.1 = .inl ci ∧ vwCl[ci]? = some q ∧ q.1 = nm) ∧ V g k d 0 0 t0 L [pR a] h' Q noE)) : Mx g y (Cond.codeWith y cc nL rt [(s0, e0, t0, x0)]) d A h mc ms Q noX := by
  subst hk
  intro l ad al hok
  refine MetFree.of_bodySF (code := cc) (maxLocals := nL) (ret := rt) hy ?_ ?_
  · intro args s m h hn
    obtain ⟨m', meth, c, h0, h1, h2, h3, h4, -, h5, h6, -⟩ := Cond.codeWith_spec (atoms_spec (ws := Cond.codeWith y cc nL rt [(s0, e0, t0, x0)] :: lw_g) h _ List.mem_cons_self)
    cases hn.symm.trans h0
    exact ⟨meth, c, h1, h2, h3, h4, h5, h6⟩
  · intro p e s m args below meth c s₁ B hml hP _
    obtain ⟨rfl, hw, hgd⟩ := hP
    have hh0 : s₁.heap = s.heap := by rw [B.state]; rfl
    have hts0 := atoms_spec (ws := Cond.codeWith y cc nL rt [(s0, e0, t0, x0)] :: lw_g) B.pre
    have hex : ∃ x : ExceptionTableEntry, c.exceptionTable.toList = [x] ∧ x.startPc = s0 ∧ x.endPc = e0 ∧ x.handlerPc = t0 ∧ x.catchType = x0 := by
      obtain ⟨m', meth', c', hn', hm', hc', -, -, he', -⟩ := Cond.codeWith_spec (hts0 _ List.mem_cons_self)
      cases B.named.symm.trans hn'
      cases B.method.symm.trans hm'
      cases (Stand.of_body B).code.symm.trans hc'
      generalize c.exceptionTable.toList = tl at he' ⊢
      rcases tl with _ | ⟨x, _ | ⟨z, tl⟩⟩
      · simp at he'
      · simp at he'
        exact ⟨x, rfl, he'.1, he'.2.1, he'.2.2.1, he'.2.2.2⟩
      · simp at he'
    obtain ⟨x, hex1, hes, hee, heh, hec⟩ := hex
    have hl := lv_entry (A.map (em ad)) (n := nL) (by rw [lg_sl_cs]; exact hA)
    rw [lv_args_em] at hl
    have cx : Cx g (y.cls, y.name, cc, nL, rt) d p { frames := d, cells := mc, slots := ms, locals := 41 * d } s m (A.map (em ad)).toArray meth c := ⟨B.exec, B.bytes, hml, findClass_of_methodNamed B.named, fun w hw => hts0 w (List.mem_cons_of_mem _ hw), hgd, Nat.le_refl _, Nat.le_refl _, (name_of_methodNamed B.named B.method).1, hw.2.2.2.2.2.1⟩
    have hrc := RC_M (g := g) (k := (y.cls, y.name, cc, nL, rt)) (p := p) (l := l) (e := e) (s := s) (m := m) (args := (A.map (em ad)).toArray) (below := below) (al := al) (ad := ad) (Q := Q) (X := noX) (R := { frames := d, cells := mc, slots := ms, locals := 41 * d }) B.exec B.bytes B.returns B.notSynchronized
    have hn0 : EC g (y.cls, y.name, cc, nL, rt) p l e { frames := d, cells := mc, slots := ms, locals := 41 * d } s m (A.map (em ad)).toArray below meth c al ad noE (ZM g below s al ad mc ms Q noX) := fun _ _ _ _ _ _ _ _ _ _ _ _ _ z => z.elim
    have K := hV p l e _ s m (A.map (em ad)).toArray below meth c (ZM g below s al ad mc ms Q noX) al ad ad al s.heap [] 0 0 _ cx hrc ?_
      hw Ex.rf va_S.rf hl (okL_pA A 0 hok) (fun v hv => by cases hv) (Nat.le_of_eq (Nat.zero_add _)) (Nat.le_of_eq (Nat.zero_add _))
    · have K2 : W p l e { frames := d, cells := mc, slots := ms, locals := 41 * d } s m (A.map (em ad)).toArray below meth c s₁.heap [] 0 0 (ZM g below s al ad mc ms Q noX) (entryFrame m (A.map (em ad)).toArray nL) := by
        rw [hh0, lg_entry_eq]
        exact K
      obtain ⟨t, a1, o, b1, b2, b3⟩ := K2 s₁ rfl (Stand.of_body B)
      exact ⟨t, o, a1, b1, b2, b3⟩
    · intro a h' ad' al' H' locs' cells' slots' pc' ls' L' st' T he w x1 hS ho hL hlv hc hs hT X0
      obtain ⟨⟨p1, p2⟩, ⟨h64, ci, q, hp, hq, rfl⟩, hV2⟩ := he
      have hal : a ∈ al' := by
        rcases w.okr_al ho a rfl with z | z
        · exact z
        · omega
      obtain ⟨n, hn⟩ := List.getElem?_of_mem hal
      have hcell := wl_get (cA := gA g) (ad := ad') (h := h') hn
      rw [ce_obj hp] at hcell
      obtain ⟨cell, r1, r2, r3⟩ := va_recv hgd.1 w.2.2.2.1 hq hcell
      have hat := (hgd.1.1 ci q hq).2
      have hcov : covers x pc' = true := by
        unfold covers; rw [hes, hee]; simp; omega
      obtain ⟨vm', XV, st⟩ := hd_go X0 (ad' a) (gf := F0 m pc' ls' st') rfl (own := y.cls) (nm := q.1) cx.2.2.2.1 hex1 hcov (by rw [hec]; exact hx0) (by rw [hec]; exact cx.2.2.2.2.1 _ hcl) r3 (by rw [hT]; exact r1) r2 (by have e1 := Option.some.inj (hat.1.symm.trans r3); rw [← e1]; exact va_assign hat)
      have K3 := hV2 p l e _ s m (A.map (em ad)).toArray below meth c (ZM g below s al ad mc ms Q noX) al ad ad' al' H' locs' cells' slots' ls' cx hrc hn0 w x1 hS hlv hL (fun v hv => by rcases List.mem_cons.mp hv with rfl | z; exact ho; cases z) (by omega) (by omega)
      obtain ⟨t, b1, b2⟩ := K3 (T.setVm vm') hT XV
      refine ⟨t, ?_, b2⟩
      refine st t ?_
      rw [heh]
      exact b1
abbrev wX14_scheme : Cond := Cond.codeWith yX14_scheme cX14_scheme 6 (some .int) [(133, 139, 142, 24)]
theorem cwX14_scheme : CW yX14_scheme wX14_scheme 6 3 := by
  refine ⟨lw_g_in (i := 1377) (by decide +kernel) (by decide +kernel), lw_g_in (i := 80) (by decide +kernel) (by decide +kernel), ⟨by decide, by decide⟩, by decide +kernel, fun U a mk hn hb => ?_⟩
  obtain ⟨m', methM, cM, h0, hm, hcM, -, hl, -, -, -, hs⟩ := Cond.codeWith_spec hb
  cases hn.symm.trans h0
  exact ⟨methM, cM, hm, hcM, hl, hs⟩
