/-! calls -/
def tw_Iv (p : Program) (l : Launch) (e : Env) (R : Room) (s : State) (m : MethodId) (args : Array Value) (below : List Frame) (meth : Method) (c : Code) (T : State) (locs : List Loc) (cells slots : Nat) (gf : JFrame) (rest : List Value) (y : MethodName) (As : Array Value) : Prop :=
  ∃ (vm₁ : Vm) (mk : MethodId), s.WarmedH vm₁ ∧ Stand p l e R s m args below meth c (T.setVm vm₁) locs cells slots ∧ s.methodNamed? y = some mk ∧
    ∀ target, Steps p.tables e below (doInvoke e ((T.setVm vm₁).setTop { gf with stack := rest }) [] mk As).1 target → Steps p.tables e below (T.setTop gf) target
/-- what a method's code word says -/
def CW (y : MethodName) (cw : Cond) (nL n : Nat) : Prop :=
  cw ∈ lw_g ∧ Cond.initialized y.cls ∈ lw_g ∧ (y.cls ≠ "java/lang/invoke/MethodHandle" ∧ y.cls ≠ "java/lang/invoke/VarHandle") ∧ (parseMethodDescriptor y.desc).map (fun d => d.parameters.length) = some n ∧
  ∀ (U : State) (a : Array Value) (mk : MethodId), U.methodNamed? y = some mk → cw.before a U = true → ∃ (methY : Method) (cY : Code), U.vm.method? mk = some methY ∧ methY.code = some cY ∧ cY.maxLocals = nL ∧ parseMethodDescriptor y.desc = some methY.sig
theorem CW.of {y : MethodName} {cc : ByteArray} {nL n : Nat} {rt : Option FieldType} (h1 : Cond.code y cc nL rt ∈ lw_g) (h2 : Cond.initialized y.cls ∈ lw_g) (h3 : y.cls ≠ "java/lang/invoke/MethodHandle" ∧ y.cls ≠ "java/lang/invoke/VarHandle") (h4 : (parseMethodDescriptor y.desc).map (fun d => d.parameters.length) = some n) : CW y (Cond.code y cc nL rt) nL n := by
  refine ⟨h1, h2, h3, h4, fun U a mk hn hb => ?_⟩
  obtain ⟨methM, cM, hm, hcM, -, hl, -, -, -, hs⟩ := Cond.code_spec hn hb
  exact ⟨methM, cM, hm, hcM, hl, hs⟩
section IV
variable {p : Program} {l : Launch} {e : Env} {R : Room} {s : State} {m : MethodId} {args : Array Value} {below : List Frame} {meth : Method} {c : Code} {T : State} {locs : List Loc} {cells slots : Nat}
theorem tw_ivV (X : Stand p l e R s m args below meth c T locs cells slots) (hexec : p.tables.exec = Jvm.exec) {own C : String} {index nL n : Nat} {y : MethodName} {cw : Cond}
    (hown : s.vm.findClass own = some m.cls) (hlink : (Cond.methodLink own index y).before args s = true) (hinst : (Cond.instanceMethod y).before args s = true) (hsel : (Cond.selects C y y).before args s = true) (hcw : CW y cw nL n) (hcb : cw.before args s = true)
    {b : Addr} {cellB : Cell} (hcell : T.heap[b]? = some cellB) (hobj : cellB.vm.isStatics = false) (hcls : s.vm.findClass C = some cellB.cls)
    {gf : JFrame} (hg : gf.method = m) {argsL rest : List Value} (hlen : argsL.length = n) (hstack : gf.stack = argsL.reverse ++ .ref b :: rest) (hdg : decode c.code gf.pc = .ok (.invokevirtual index, 3)) :
    tw_Iv p l e R s m args below meth c T locs cells slots gf rest y (Value.ref b :: argsL).toArray := by
  obtain ⟨mk, methM, hnamed, hmethM, hstM, habM⟩ := Cond.instanceMethod_spec hinst
  obtain ⟨-, -, hy, hn, hsp⟩ := hcw
  obtain ⟨methM', cM, hmethM', -, -, hsigM⟩ := hsp s args mk hnamed hcb
  cases hmethM.symm.trans hmethM'
  obtain ⟨c2, r2, m2, q1, q2, q3, q4, kP, hkP, hkPi⟩ := Cond.selects_spec hsel
  cases hcls.symm.trans q1
  cases (State.methodFound?_of_named hnamed hy).symm.trans q2
  cases hnamed.symm.trans q3
  have hselP : selectMethod e.platform s.vm cellB.cls mk = .method mk := by rw [Launch.admits_selectMethod X.admits]; exact q4
  obtain ⟨vm₁, X₁, hstep₁⟩ := X.invokevirtual hexec hown hlink hnamed hmethM hstM hkP hkPi hy (a := b) (cell := cellB) hcell
    (fun z h => by rw [h] at hobj; cases hobj) hselP hmethM habM hkP hkPi (g := gf) hg (argsL := argsL) (rest := rest) (by rw [hsigM] at hn; exact hlen.trans (Option.some.inj hn).symm) hstack hdg
  exact ⟨vm₁, mk, X₁.warmed, X₁, hnamed, fun target h => hstep₁ _ fun acts => by rw [doInvoke_state]; exact h⟩
theorem tw_ivS (X : Stand p l e R s m args below meth c T locs cells slots) (hexec : p.tables.exec = Jvm.exec) {own : String} {index nL n : Nat} {y : MethodName} {cc : ByteArray} {rt : Option FieldType}
    (hown : s.vm.findClass own = some m.cls) (hlink : (Cond.methodLink own index y).before args s = true) (hstat : (Cond.static y).before args s = true) (hinit : (Cond.initialized y.cls).before args s = true) (hcw : CW y (Cond.code y cc nL rt) nL n) (hcode : (Cond.code y cc nL rt).before args s = true)
    {gf : JFrame} (hg : gf.method = m) {argsL rest : List Value} (hlen : argsL.length = n) (hstack : gf.stack = argsL.reverse ++ rest) (hdg : decode c.code gf.pc = .ok (.invokestatic index, 3)) :
    tw_Iv p l e R s m args below meth c T locs cells slots gf rest y argsL.toArray := by
  obtain ⟨mk, hnamed⟩ := Cond.code_named hcode
  obtain ⟨-, -, hy, hn, hsp⟩ := hcw
  obtain ⟨methM, cM, hmethM, -, -, hsigM⟩ := hsp s args mk hnamed hcode
  have hstatic : methM.isStatic = true := Cond.static_spec hnamed hmethM hstat
  obtain ⟨kP, hkP, -⟩ := className_of_methodNamed hnamed
  have hinitP : kP.init = .initialized := Cond.initialized_spec (findClass_of_methodNamed hnamed) hkP hinit
  obtain ⟨vm₁, X₁, hstep₁⟩ := X.invokestatic hexec hown hlink hnamed hmethM hstatic hkP hinitP hy (g := gf) hg (argsL := argsL) (rest := rest) (by rw [hsigM] at hn; exact hlen.trans (Option.some.inj hn).symm) hstack hdg
  exact ⟨vm₁, mk, X₁.warmed, X₁, hnamed, fun target h => hstep₁ _ fun acts => by rw [doInvoke_state]; exact h⟩
theorem tw_ivI (X : Stand p l e R s m args below meth c T locs cells slots) (hexec : p.tables.exec = Jvm.exec) {own : String} {index nL n : Nat} {y : MethodName} {cc : ByteArray}
    (hown : s.vm.findClass own = some m.cls) (hy1 : y.name = "<init>") (hlink : (Cond.methodLink own index y).before args s = true) (hinst : (Cond.instanceMethod y).before args s = true) (hcw : CW y (Cond.code y cc nL none) nL n) (hcode : (Cond.code y cc nL none).before args s = true)
    {gf : JFrame} (hg : gf.method = m) {a : Addr} {argsL rest : List Value} (hlen : argsL.length = n) (hstack : gf.stack = argsL.reverse ++ .ref a :: rest) (hdg : decode c.code gf.pc = .ok (.invokespecial index, 3)) :
    tw_Iv p l e R s m args below meth c T locs cells slots gf rest y (Value.ref a :: argsL).toArray := by
  subst hg
  obtain ⟨-, -, hy, hn, hsp⟩ := hcw
  have hpl : e.platform.magicAccessors = ({} : Platform).magicAccessors := by rw [X.admits.platform]
  obtain ⟨mk, methM, cM, kP, vm₁, hnamed, hmethM, hcodeM, -, hlocalsM, -, hkP, -, hW₁, hstep₁⟩ := Steps.initColdArgs (e := e) X.here hexec X.warmed hpl hown hy1 hy hlink hinst hcode (f := gf) rfl (fun sig hs => by rw [hs] at hn; exact hlen.trans (Option.some.inj hn).symm) hstack hdg
  exact ⟨vm₁, mk, hW₁, X.noted hW₁, hnamed, fun target h => hstep₁ _ fun acts => by rw [doInvoke_state]; exact h⟩
theorem tw_ivIN (X : Stand p l e R s m args below meth c T locs cells slots) (hexec : p.tables.exec = Jvm.exec) {own host : String} {index nL n : Nat} {y : MethodName} {cc : ByteArray}
    (hown : s.vm.findClass own = some m.cls) (hy1 : y.name = "<init>") (hlink : (Cond.methodLinkNest own index y host).before args s = true) (hinst : (Cond.instanceMethod y).before args s = true) (hcw : CW y (Cond.code y cc nL none) nL n) (hcode : (Cond.code y cc nL none).before args s = true)
    {gf : JFrame} (hg : gf.method = m) {a : Addr} {argsL rest : List Value} (hlen : argsL.length = n) (hstack : gf.stack = argsL.reverse ++ .ref a :: rest) (hdg : decode c.code gf.pc = .ok (.invokespecial index, 3)) :
    tw_Iv p l e R s m args below meth c T locs cells slots gf rest y (Value.ref a :: argsL).toArray := by
  subst hg
  obtain ⟨-, -, hy, hn, hsp⟩ := hcw
  have hpl : e.platform.magicAccessors = ({} : Platform).magicAccessors := by rw [X.admits.platform]
  obtain ⟨mk, methM, cM, kP, vm₁, hnamed, hmethM, hcodeM, -, hlocalsM, -, hkP, -, hW₁, hstep₁⟩ := Steps.initColdArgsNest (e := e) X.here hexec X.warmed hpl hown hy1 hy hlink hinst hcode (f := gf) rfl (fun sig hs => by rw [hs] at hn; exact hlen.trans (Option.some.inj hn).symm) hstack hdg
  exact ⟨vm₁, mk, hW₁, X.noted hW₁, hnamed, fun target h => hstep₁ _ fun acts => by rw [doInvoke_state]; exact h⟩
end IV
section VR5
variable {g : G0} {k : Kf} {dd rc rs pc : Nat} {L : List (Nat × PV)} {st : List PV} {h : Hp} {Q : Option PV → Hp → Prop} {E : EP}
theorem v_callX {y : MethodName} {cw : Cond} {nL' n' d' mc ms : Nat} {As full : List PV} {Q' : Option PV → Hp → Prop} {X' : Ad → Hp → Prop} {ig : Instr} (rc' rs' : Nat) (hM : Mx g y cw d' As h mc ms Q' X') (hcw : CW y cw nL' n') (hd : d' + 1 ≤ dd) (hnl : nL' ≤ 22) (h1 : rc' + mc ≤ rc) (h2 : rs' + ms ≤ rs) (hst : cs st ≤ 8)
    (dec : decode (kC k) pc = .ok (ig, 3)) (hA : ∀ v ∈ As, v ∈ full) (hS0 : ∀ v ∈ st, v ∈ full)
    (hiv : ∀ (p : Program) (l : Launch) (e : Env) (R : Room) (s : State) (m : MethodId) (args : Array Value) (below : List Frame) (meth : Method) (c : Code) (ad : Ad → Nat) (al : List Ad) (H : Heap) (locs : List Loc) (cells slots : Nat) (ls : Array Slot) (T : State),
      Cx g k dd p R s m args meth c → Wo g ad al h H → okS h full → T.heap = H → Stand p l e R s m args below meth c T locs cells slots → tw_Iv p l e R s m args below meth c T locs cells slots (F0 m pc ls (full.map (em ad))) (st.map (em ad)) y (As.map (em ad)).toArray)
    (KQ : ∀ r h', Q' r h' → V g k dd rc' rs' (pc + 3) L (r.toList ++ st) h' Q E) (KX : ∀ a h', X' a h' → E pc L a h') : V g k dd rc rs pc L full h Q E := by
  intro p l e R s m args below meth c Z al0 ad0 ad al H locs cells slots ls cx hrc hec w x0 hS hl hL hs hc hsl
  intro T hT X
  obtain ⟨vm₁, mk, hW₁, X₁, hnamed, hstep⟩ := hiv p l e R s m args below meth c ad al H locs cells slots ls T cx w hs hT X
  have cx' := cx
  obtain ⟨hx, hb, hml, hown, hts, hgd, hfr, hlo, -, hsz⟩ := cx
  have hws : ∀ w ∈ lw_g, ∀ (a' : Array Value) (U : State), s.WarmedH U.vm → w.before a' U = true := fun w hw a' U hW => word_at hW (good_of_word (List.mem_filter.mp hw).2) (hts w hw)
  have hokA : okS h As := fun v hv => hs v (hA v hv)
  have hokst : okS h st := fun v hv => hs v (hS0 v hv)
  have hB : tw_Bk l R p e below s args y 3 8
      (fun A a => A.cells + mc ≤ R.cells ∧ A.slots + ms ≤ R.slots ∧ a = (As.map (em ad)).toArray ∧ A.U.heap = H)
      (fun A a v B => ∃ (r : Option PV) (h' : Hp) (ad' : Ad → Nat) (al' : List Ad), v = r.map (em ad') ∧ Q' r h' ∧ okO h' r ∧ Wo g ad' al' h' B.U.heap ∧ Ex al ad al' ad' ∧ (∃ L2, B.locs = A.locs ++ L2 ∧ ∀ q ∈ L2, gF g q.base) ∧ B.cells = A.cells + mc ∧ B.slots = A.slots + ms ∧ A.U.heap.size ≤ B.U.heap.size ∧ ∀ q, q < A.U.heap.size → ¬ gF g q → B.U.heap[q]? = A.U.heap[q]?)
      (fun A a x B => ∃ (b : Ad) (h' : Hp) (ad' : Ad → Nat) (al' : List Ad), x = ad' b ∧ X' b h' ∧ okv h' (pR b) ∧ Wo g ad' al' h' B.U.heap ∧ Ex al ad al' ad' ∧ (∃ L2, B.locs = A.locs ++ L2 ∧ ∀ q ∈ L2, gF g q.base) ∧ B.cells = A.cells + mc ∧ B.slots = A.slots + ms ∧ A.U.heap.size ≤ B.U.heap.size ∧ ∀ q, q < A.U.heap.size → ¬ gF g q → B.U.heap[q]? = A.U.heap[q]?) := by
    refine tw_ofF (mc := mc) (ms := ms) (fr := gF g) (hM l ad al hokA) (maxL := nL') (by show d' + 1 ≤ R.frames; omega) (by show 8 + (nL' + 11) + 41 * d' ≤ R.locals; omega) ?_ ?_ ?_ ?_ ?_
    · intro m2 meth2 c2 A a XA hp
      refine ⟨atoms_intro fun w hw => ?_, fun mk2 hn2 => ?_, hws _ hcw.2.1 _ _ XA.warmed, hp.1, hp.2.1⟩
      · rcases List.mem_cons.mp hw with rfl | hw
        · exact hws _ hcw.1 _ _ XA.warmed
        · exact hws _ hw _ _ XA.warmed
      · obtain ⟨q1, q2, q3, q4, q5, -⟩ := hcw.2.2.2.2 A.U a mk2 hn2 (hws _ hcw.1 _ _ XA.warmed)
        exact ⟨q1, q2, q3, q4, q5⟩
    · intro m2 meth2 c2 A a g2 mk2 XA hp
      exact ⟨hp.2.2.1, by rw [show (A.U.calling g2 mk2 a).heap = A.U.heap from rfl, hp.2.2.2]; exact w, Gd.warm (U := A.U.calling g2 mk2 a) XA.warmed hgd⟩
    · rintro a first o t ⟨-, -, L2, hF, hL2⟩
      exact ⟨L2, hF, hL2⟩
    · rintro m2 meth2 c2 A a g2 mk2 v t L2 XA hp ⟨hq, hF, -⟩ hfe hL2
      rcases hq with ⟨r, h', ad', al', e1, q1, q2, q3, q4⟩ | ⟨b, h', ad', al', e1, -⟩
      · exact ⟨r, h', ad', al', Outcome.returned.inj e1, q1, q2, q3, q4, ⟨L2, rfl, hL2⟩, rfl, rfl, hF.1, hF.2⟩
      · cases e1
    · rintro m2 meth2 c2 A a g2 mk2 v t L2 XA hp ⟨hq, hF, -⟩ hfe hL2
      rcases hq with ⟨r, h', ad', al', e1, -⟩ | ⟨b, h', ad', al', e1, q1, q2, q3, q4⟩
      · cases e1
      · exact ⟨b, h', ad', al', Outcome.threw.inj e1, q1, q2, q3, q4, ⟨L2, rfl, hL2⟩, rfl, rfl, hF.1, hF.2⟩
  have hroom : 2 * ({ F0 m pc ls (full.map (em ad)) with stack := st.map (em ad) } : JFrame).monitorRoom + ((st.map (em ad)).map fun v => v.category).sum ≤ 8 := by
    rw [em_cs]
    show 2 * 0 + cs st ≤ 8
    omega
  have hfin : ∀ {B : Pt} {H' : Heap} {L2 : List Loc}, B.U.heap = H' → B.locs = locs ++ L2 → (∀ q ∈ L2, gF g q.base) → H.size ≤ H'.size → (∀ q, q < H.size → ¬ gF g q → H'[q]? = H[q]?) → va_S (gF g) s.heap H' (locs ++ L2) := by
    intro B H' L2 _ _ hq hsz2 hk2
    refine ⟨Nat.le_trans hS.1 hsz2, fun q h1 h2 => ?_, fun q hq2 => ?_⟩
    · rw [hk2 q (Nat.lt_of_lt_of_le h1 hS.1) h2]; exact hS.2.1 q h1 h2
    · rcases List.mem_append.mp hq2 with z | z
      · exact hS.2.2 q z
      · exact hq q z
  rcases hB m meth c ⟨T.setVm vm₁, locs, cells, slots⟩ { F0 m pc ls (full.map (em ad)) with stack := st.map (em ad) } ig mk (As.map (em ad)).toArray X₁ rfl (hl.1.trans hml.symm) (by rw [hb]; exact dec) hroom (X₁.named hnamed) ⟨by show cells + mc ≤ R.cells; omega, by show slots + ms ≤ R.slots; omega, rfl, hT⟩ with ⟨v, B, XB, ⟨r, h', ad', al', e1, q1, q2, q3, q4, ⟨L2, e2, hL2⟩, e3, e4, e5, e6⟩, stp⟩ | ⟨x, B, XB, ⟨b, h', ad', al', e1, q1, q2, q3, q4, ⟨L2, e2, hL2⟩, e3, e4, e5, e6⟩, stp⟩
  · have e5' : H.size ≤ B.U.heap.size := by rw [← hT]; exact e5
    have e6' : ∀ q, q < H.size → ¬ gF g q → B.U.heap[q]? = H[q]? := by rw [← hT]; exact e6
    rw [show B.locs = locs ++ L2 from e2, show B.cells = cells + mc from e3, show B.slots = slots + ms from e4] at XB
    have hS' := hfin (B := B) rfl e2 hL2 e5' e6'
    obtain ⟨t, a1, b1⟩ := KQ r h' q1 p l e R s m args below meth c Z al0 ad0 ad' al' B.U.heap (locs ++ L2) (cells + mc) (slots + ms) ls cx' hrc hec q3 (x0.tr q4) hS' (by rw [q4.eqL w hL]; exact hl) (okL_mono w q3 q4 hL)
      (fun v2 hv2 => by
        rcases List.mem_append.mp hv2 with z | z
        · cases r with
          | none => cases z
          | some r => rw [show v2 = r by simpa using z]; exact q2 r rfl
        · exact okv_mono w q3 q4 (hokst v2 z)) (by omega) (by omega) B.U rfl XB
    refine ⟨t, hstep t (stp.trans ?_), b1⟩
    have ef : ({ F0 m pc ls (full.map (em ad)) with pc := pc + 3, stack := v.toList ++ st.map (em ad) } : JFrame) = F0 m (pc + 3) ls ((r.toList ++ st).map (em ad')) := by
      rw [List.map_append, q4.eqS w hokst, e1]
      cases r <;> rfl
    show Steps p.tables e below (B.U.setTop { F0 m pc ls (full.map (em ad)) with pc := pc + 3, stack := v.toList ++ st.map (em ad) }) t
    rw [ef]
    exact a1
  · have e5' : H.size ≤ B.U.heap.size := by rw [← hT]; exact e5
    have e6' : ∀ q, q < H.size → ¬ gF g q → B.U.heap[q]? = H[q]? := by rw [← hT]; exact e6
    rw [show B.locs = locs ++ L2 from e2, show B.cells = cells + mc from e3, show B.slots = slots + ms from e4] at XB
    have hS' := hfin (B := B) rfl e2 hL2 e5' e6'
    obtain ⟨t, a1, b1⟩ := hec b h' ad' al' B.U.heap (locs ++ L2) (cells + mc) (slots + ms) pc ls L (st.map (em ad)) B.U (KX b h' q1) q3 (x0.tr q4) hS' q2 (okL_mono w q3 q4 hL) (by rw [q4.eqL w hL]; exact hl) (by omega) (by omega) rfl XB
    refine ⟨t, hstep t (stp.trans ?_), b1⟩
    rw [e1]
    exact a1
/-- the receiver: an object of class C, ours -/
def isOb (b : Ad) (C : String) : Prop := b.1 < 64 ∧ ∃ ci q, pk b.1 = .inl ci ∧ vwCl[ci]? = some q ∧ q.1 = C
theorem isOb.recv {ad : Ad → Nat} {al : List Ad} {H : Heap} {s : State} {b : Ad} {C : String} (hb : isOb b C) (w : Wo g ad al h H) (hgd : Gd g s) (ho : okv h (pR b)) : ∃ cell : Cell, H[ad b]? = some cell ∧ cell.vm.isStatics = false ∧ s.vm.findClass C = some cell.cls := by
  obtain ⟨h64, ci, q, hp, hq, rfl⟩ := hb
  have hal : b ∈ al := by
    rcases w.okr_al ho b rfl with z | z
    · exact z
    · omega
  obtain ⟨n, hn⟩ := List.getElem?_of_mem hal
  have he := wl_get (cA := gA g) (ad := ad) (h := h) hn
  rw [ce_obj hp] at he
  exact va_recv hgd.1 w.2.2.2.1 hq he
theorem map_rev (ad : Ad → Nat) (As : List PV) (b : Ad) (st : List PV) : (As.reverse ++ pR b :: st).map (em ad) = (As.map (em ad)).reverse ++ .ref (ad b) :: st.map (em ad) := by
  rw [List.map_append, List.map_cons, List.map_reverse]; rfl
theorem v_invV {i nL' n' d' mc ms : Nat} {y : MethodName} {cw : Cond} {b : Ad} {As full : List PV} {Q' : Option PV → Hp → Prop} {X' : Ad → Hp → Prop} (rc' rs' : Nat) (hM : Mx g y cw d' (pR b :: As) h mc ms Q' X') (dec : decode (kC k) pc = .ok (.invokevirtual i, 3)) (hcw : CW y cw nL' n') (hln : Cond.methodLink (kO k) i y ∈ lw_g ∧ Cond.instanceMethod y ∈ lw_g ∧ Cond.selects y.cls y y ∈ lw_g) (hb : isOb b y.cls)
    (hfull : full = As.reverse ++ pR b :: st) (hn : As.length = n') (hd : d' + 1 ≤ dd) (hnl : nL' ≤ 22) (hst : cs st ≤ 8) (h1 : rc' + mc ≤ rc) (h2 : rs' + ms ≤ rs)
    (KQ : ∀ r h', Q' r h' → V g k dd rc' rs' (pc + 3) L (r.toList ++ st) h' Q E) (KX : ∀ a h', X' a h' → E pc L a h') : V g k dd rc rs pc L full h Q E := by
  subst hfull
  refine v_callX rc' rs' hM hcw hd hnl h1 h2 hst dec (fun v hv => ?_) (fun v hv => by simp [hv]) ?_ KQ KX
  · rcases List.mem_cons.mp hv with rfl | hv
    · simp
    · simp [hv]
  · intro p l e R s m args below meth c ad al H locs cells slots ls T cx w hs hT X
    obtain ⟨hx, hbb, hml, hown, hts, hgd, -⟩ := cx
    obtain ⟨cell, g1, g2, g3⟩ := hb.recv w hgd (hs (pR b) (by simp))
    exact tw_ivV X hx hown (hts _ hln.1) (hts _ hln.2.1) (hts _ hln.2.2) hcw (hts _ hcw.1) (by rw [hT]; exact g1) g2 g3 rfl (argsL := As.map (em ad)) (by rw [List.length_map]; exact hn) (map_rev ad As b st) (by rw [hbb]; exact dec)
theorem v_invS {i nL' n' d' mc ms : Nat} {y : MethodName} {cc : ByteArray} {rt : Option FieldType} {As full : List PV} {Q' : Option PV → Hp → Prop} {X' : Ad → Hp → Prop} (rc' rs' : Nat) (hM : Mx g y (Cond.code y cc nL' rt) d' As h mc ms Q' X') (dec : decode (kC k) pc = .ok (.invokestatic i, 3)) (hcw : CW y (Cond.code y cc nL' rt) nL' n') (hln : Cond.methodLink (kO k) i y ∈ lw_g ∧ Cond.static y ∈ lw_g)
    (hfull : full = As.reverse ++ st) (hn : As.length = n') (hd : d' + 1 ≤ dd) (hnl : nL' ≤ 22) (hst : cs st ≤ 8) (h1 : rc' + mc ≤ rc) (h2 : rs' + ms ≤ rs)
    (KQ : ∀ r h', Q' r h' → V g k dd rc' rs' (pc + 3) L (r.toList ++ st) h' Q E) (KX : ∀ a h', X' a h' → E pc L a h') : V g k dd rc rs pc L full h Q E := by
  subst hfull
  refine v_callX rc' rs' hM hcw hd hnl h1 h2 hst dec (fun v hv => by simp [hv]) (fun v hv => by simp [hv]) ?_ KQ KX
  intro p l e R s m args below meth c ad al H locs cells slots ls T cx w hs hT X
  obtain ⟨hx, hbb, hml, hown, hts, hgd, -⟩ := cx
  exact tw_ivS X hx hown (hts _ hln.1) (hts _ hln.2) (hts _ hcw.2.1) hcw (hts _ hcw.1) rfl (argsL := As.map (em ad)) (by rw [List.length_map]; exact hn) (by show (As.reverse ++ st).map (em ad) = _; rw [List.map_append, List.map_reverse]) (by rw [hbb]; exact dec)
theorem v_invI {i nL' n' d' mc ms : Nat} {y : MethodName} {cc : ByteArray} {b : Ad} {As full : List PV} {Q' : Option PV → Hp → Prop} {X' : Ad → Hp → Prop} (rc' rs' : Nat) (hM : Mx g y (Cond.code y cc nL' none) d' (pR b :: As) h mc ms Q' X') (dec : decode (kC k) pc = .ok (.invokespecial i, 3)) (hcw : CW y (Cond.code y cc nL' none) nL' n') (hy : y.name = "<init>") (hln : (Cond.methodLink (kO k) i y ∈ lw_g ∨ ∃ host, Cond.methodLinkNest (kO k) i y host ∈ lw_n) ∧ Cond.instanceMethod y ∈ lw_g)
    (hfull : full = As.reverse ++ pR b :: st) (hn : As.length = n') (hd : d' + 1 ≤ dd) (hnl : nL' ≤ 22) (hst : cs st ≤ 8) (h1 : rc' + mc ≤ rc) (h2 : rs' + ms ≤ rs)
    (KQ : ∀ r h', Q' r h' → V g k dd rc' rs' (pc + 3) L (r.toList ++ st) h' Q E) (KX : ∀ a h', X' a h' → E pc L a h') : V g k dd rc rs pc L full h Q E := by
  subst hfull
  refine v_callX rc' rs' hM hcw hd hnl h1 h2 hst dec (fun v hv => ?_) (fun v hv => by simp [hv]) ?_ KQ KX
  · rcases List.mem_cons.mp hv with rfl | hv
    · simp
    · simp [hv]
  · intro p l e R s m args below meth c ad al H locs cells slots ls T cx w hs hT X
    obtain ⟨hx, hbb, hml, hown, hts, hgd, -⟩ := cx
    rcases hln.1 with z | ⟨host, z⟩
    · exact tw_ivI X hx hown hy (hts _ z) (hts _ hln.2) hcw (hts _ hcw.1) rfl (argsL := As.map (em ad)) (by rw [List.length_map]; exact hn) (map_rev ad As b st) (by rw [hbb]; exact dec)
    · exact tw_ivIN X hx hown hy (va_Nw.use rfl (hgd.2.1 _ z)) (hts _ hln.2) hcw (hts _ hcw.1) rfl (argsL := As.map (em ad)) (by rw [List.length_map]; exact hn) (map_rev ad As b st) (by rw [hbb]; exact dec)
/-- Object's own constructor -/
theorem v_obj {i : Nat} {o : Option Ad} (d : decode (kC k) pc = .ok (.invokespecial i, 3)) (hln : Cond.methodLink (kO k) i Lib.objectInit ∈ lw_g) (h2 : Cond.instanceMethod Lib.objectInit ∈ lw_g) (h3 : Cond.code Lib.objectInit ⟨#[0xb1]⟩ 1 none ∈ lw_g) (ho : o ≠ none) (hd : 1 ≤ dd) (hst : cs st ≤ 8)
    (K : V g k dd rc rs (pc + 3) L st h Q E) : V g k dd rc rs pc L (pO o :: st) h Q E := by
  intro p l e R s m args below meth c Z al0 ad0 ad al H locs cells slots ls cx hrc hec w x0 hS hl hL hs hc hsl
  have K2 := K p l e R s m args below meth c Z al0 ad0 ad al H locs cells slots ls cx hrc hec w x0 hS hl hL hs.t hc hsl
  obtain ⟨hx, hb, hml, hown, hts, hgd, hfr, hlo, -⟩ := cx
  cases o with
  | none => exact absurd rfl ho
  | some a => exact W.objInit hx hb hown (hts _ hln) (hts _ h2) (hts _ h3) rfl (hl.1.trans hml.symm) rfl d (by omega) (by rw [em_cs]; show 2 * 0 + cs st + 12 ≤ R.locals; omega) K2
theorem v_athrow {a : Ad} (d : decode (kC k) pc = .ok (.athrow, 1)) (he : E pc L a h) : V g k dd rc rs pc L (pR a :: st) h Q E := by
  intro p l e R s m args below meth c Z al0 ad0 ad al H locs cells slots ls cx hrc hec w x0 hS hl hL hs hc hsl
  intro T hT X
  obtain ⟨t, a1, b1⟩ := hec a h ad al H locs cells slots pc ls L (st.map (em ad)) T he w x0 hS hs.hd hL hl (by omega) (by omega) hT X
  refine ⟨t, ?_, b1⟩
  obtain ⟨hx, hb, -⟩ := cx
  have hdg : decode c.code pc = .ok (.athrow, 1) := by rw [hb]; exact d
  show Steps p.tables e below (T.setTop (F0 m pc ls (.ref (ad a) :: st.map (em ad)))) t
  jvm_step X.here [hx, hdg, athrow.wp_sem]
  exact a1
end VR5
