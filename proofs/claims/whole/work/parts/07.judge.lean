/-! the judgement: V speaks of pure values alone -/
abbrev Kf : Type := String × String × ByteArray × Nat × Option FieldType
abbrev kO (k : Kf) : String := k.1
abbrev kN (k : Kf) : String := k.2.1
abbrev kC (k : Kf) : ByteArray := k.2.2.1
abbrev kL (k : Kf) : Nat := k.2.2.2.1
abbrev kR (k : Kf) : Option FieldType := k.2.2.2.2
def Cx (g : G0) (k : Kf) (d : Nat) (p : Program) (R : Room) (s : State) (m : MethodId) (args : Array Value) (meth : Method) (c : Code) : Prop :=
  p.tables.exec = Jvm.exec ∧ c.code = kC k ∧ c.maxLocals = kL k ∧ s.vm.findClass (kO k) = some m.cls ∧ (∀ w ∈ lw_g, w.before args s = true) ∧ Gd g s ∧ d ≤ R.frames ∧ 41 * d ≤ R.locals ∧ meth.name = kN k ∧ (gG g).size ≤ s.heap.size
/-- the return instruction that hands r over -/
def rtAt (k : Kf) (pc : Nat) (r : Option PV) : Prop := match r with
  | none => decode (kC k) pc = .ok (.return_, 1) ∧ kR k = none
  | some (.inl x) => decode (kC k) pc = .ok (.ireturn, 1) ∧ ∃ ty, kR k = some ty ∧ narrow ty (.int x) = .int x
  | some (.inr (.inl _)) => decode (kC k) pc = .ok (.lreturn, 1) ∧ kR k = some .long
  | some (.inr (.inr _)) => decode (kC k) pc = .ok (.areturn, 1) ∧ ∃ t, kR k = some t ∧ ((∃ n, t = .object n) ∨ ∃ u, t = .array u)
def okO (h : Hp) (r : Option PV) : Prop := ∀ v, r = some v → okv h v
abbrev EP : Type := Nat → List (Nat × PV) → Ad → Hp → Prop
def RC (g : G0) (k : Kf) (p : Program) (l : Launch) (e : Env) (R : Room) (s : State) (m : MethodId) (args : Array Value) (below : List Frame) (meth : Method) (c : Code) (al0 : List Ad) (ad0 : Ad → Nat) (Q : Option PV → Hp → Prop) (Z : State → Prop) : Prop :=
  ∀ (r : Option PV) (h : Hp) (ad : Ad → Nat) (al : List Ad) (H : Heap) (locs : List Loc) (cells slots : Nat) (pc : Nat) (ls : Array Slot),
    Q r h → Wo g ad al h H → Ex al0 ad0 al ad → va_S (gF g) s.heap H locs → okO h r → cells ≤ R.cells → slots ≤ R.slots → rtAt k pc r →
    W p l e R s m args below meth c H locs cells slots Z (F0 m pc ls (r.toList.map (em ad)))
def EC (g : G0) (k : Kf) (p : Program) (l : Launch) (e : Env) (R : Room) (s : State) (m : MethodId) (args : Array Value) (below : List Frame) (meth : Method) (c : Code) (al0 : List Ad) (ad0 : Ad → Nat) (E : EP) (Z : State → Prop) : Prop :=
  ∀ (a : Ad) (h : Hp) (ad : Ad → Nat) (al : List Ad) (H : Heap) (locs : List Loc) (cells slots : Nat) (pc : Nat) (ls : Array Slot) (L : List (Nat × PV)) (st : List Value) (T : State),
    E pc L a h → Wo g ad al h H → Ex al0 ad0 al ad → va_S (gF g) s.heap H locs → okv h (pR a) → okL h L → lv_has ls (kL k) (emL ad L) → cells ≤ R.cells → slots ≤ R.slots →
    T.heap = H → Stand p l e R s m args below meth c T locs cells slots →
    ∃ t, Steps p.tables e below ((T.setTop (F0 m pc ls st)).pushFrame (.throwing (ad a))) t ∧ Z t
def V (g : G0) (k : Kf) (d rc rs pc : Nat) (L : List (Nat × PV)) (st : List PV) (h : Hp) (Q : Option PV → Hp → Prop) (E : EP) : Prop :=
  ∀ (p : Program) (l : Launch) (e : Env) (R : Room) (s : State) (m : MethodId) (args : Array Value) (below : List Frame) (meth : Method) (c : Code) (Z : State → Prop) (al0 : List Ad) (ad0 : Ad → Nat)
    (ad : Ad → Nat) (al : List Ad) (H : Heap) (locs : List Loc) (cells slots : Nat) (ls : Array Slot),
    Cx g k d p R s m args meth c → RC g k p l e R s m args below meth c al0 ad0 Q Z → EC g k p l e R s m args below meth c al0 ad0 E Z →
    Wo g ad al h H → Ex al0 ad0 al ad → va_S (gF g) s.heap H locs → lv_has ls (kL k) (emL ad L) → okL h L → okS h st → cells + rc ≤ R.cells → slots + rs ≤ R.slots →
    W p l e R s m args below meth c H locs cells slots Z (F0 m pc ls (st.map (em ad)))
/-- the contract -/
def Mx (g : G0) (y : MethodName) (cw : Cond) (d : Nat) (A : List PV) (h : Hp) (mc ms : Nat) (Q : Option PV → Hp → Prop) (X : Ad → Hp → Prop) : Prop :=
  ∀ (l : Launch) (ad : Ad → Nat) (al : List Ad), okS h A → MetFree l y (headSpec (cw :: lw_g) { frames := d, cells := mc, slots := ms, locals := 41 * d })
    (fun v U => v = (A.map (em ad)).toArray ∧ Wo g ad al h U.heap ∧ Gd g U) (fun _ _ _ _ _ => True)
    (fun _ u o t => ((∃ (r : Option PV) (h' : Hp) (ad' : Ad → Nat) (al' : List Ad), o = .returned (r.map (em ad')) ∧ Q r h' ∧ okO h' r ∧ Wo g ad' al' h' t.heap ∧ Ex al ad al' ad') ∨
      (∃ (a : Ad) (h' : Hp) (ad' : Ad → Nat) (al' : List Ad), o = .threw (ad' a) ∧ X a h' ∧ okv h' (pR a) ∧ Wo g ad' al' h' t.heap ∧ Ex al ad al' ad')) ∧ va_F (gF g) u t ∧
      ∃ L, tw_FE u t L mc ms ∧ ∀ q ∈ L, gF g q.base)
def pA : Nat → List PV → List (Nat × PV)
  | _, [] => []
  | i, v :: vs => (i, v) :: pA (if ct v = 2 then i + 2 else i + 1) vs
theorem lv_args_em (ad : Ad → Nat) : ∀ (A : List PV) (i : Nat), lv_args i (A.map (em ad)) = emL ad (pA i A)
  | [], _ => rfl
  | v :: A, i => by
    show (i, em ad v) :: lv_args (if (em ad v).category = 2 then i + 2 else i + 1) (A.map (em ad)) = _
    rw [em_cat, lv_args_em ad A]
    rfl
theorem lg_sl_cs (ad : Ad → Nat) : ∀ (A : List PV), (lg_sl (A.map (em ad))).length = cs A
  | [] => rfl
  | v :: A => by
    show (lg_sl (em ad v :: A.map (em ad))).length = _
    have e : lg_sl (em ad v :: A.map (em ad)) = (if (em ad v).category = 2 then [.val (em ad v), .second] else [.val (em ad v)]) ++ lg_sl (A.map (em ad)) := rfl
    rw [e, List.length_append, lg_sl_cs ad A, em_cat]
    have e2 : cs (v :: A) = ct v + cs A := by simp [cs]
    rw [e2]
    congr 1
    rcases v with x | x | o <;> rfl
theorem okL_pA {h : Hp} : ∀ (A : List PV) (i : Nat), okS h A → okL h (pA i A)
  | [], _, _ => fun q hq => by cases hq
  | v :: A, i, ho => by
    intro q hq
    rcases List.mem_cons.mp hq with rfl | hq
    · exact ho v List.mem_cons_self
    · exact okL_pA A _ (fun w hw => ho w (List.mem_cons_of_mem _ hw)) q hq
theorem W_mono {p : Program} {l : Launch} {e : Env} {R : Room} {s : State} {m : MethodId} {args : Array Value} {below : List Frame} {meth : Method} {c : Code} {H : Heap} {locs : List Loc} {cells slots : Nat} {Q Q' : State → Prop} {g : JFrame}
    (h : ∀ t, Q t → Q' t) (w : W p l e R s m args below meth c H locs cells slots Q g) : W p l e R s m args below meth c H locs cells slots Q' g := by
  intro T hT X
  obtain ⟨t, a, b⟩ := w T hT X
  exact ⟨t, a, h t b⟩
theorem er_or (ad : Ad → Nat) (o : Option Ad) : er ad o = .null ∨ ∃ a, er ad o = .ref a := by
  cases o with
  | none => exact Or.inl rfl
  | some a => exact Or.inr ⟨ad a, rfl⟩
def ZM (g : G0) (below : List Frame) (s : State) (al : List Ad) (ad : Ad → Nat) (mc ms : Nat) (Q : Option PV → Hp → Prop) (X : Ad → Hp → Prop) : State → Prop := fun t =>
  ∃ o, t.status = .running ∧ Ended t below o ∧ ((∃ (r : Option PV) (h' : Hp) (ad' : Ad → Nat) (al' : List Ad), o = .returned (r.map (em ad')) ∧ Q r h' ∧ okO h' r ∧ Wo g ad' al' h' t.heap ∧ Ex al ad al' ad') ∨
      (∃ (a : Ad) (h' : Hp) (ad' : Ad → Nat) (al' : List Ad), o = .threw (ad' a) ∧ X a h' ∧ okv h' (pR a) ∧ Wo g ad' al' h' t.heap ∧ Ex al ad al' ad')) ∧ va_F (gF g) s t ∧
      ∃ L, tw_FE s t L mc ms ∧ ∀ q ∈ L, gF g q.base
section JDG
variable {g : G0} {k : Kf} {p : Program} {l : Launch} {e : Env} {R : Room} {s : State} {m : MethodId} {args : Array Value} {below : List Frame} {meth : Method} {c : Code}
theorem RC_M {al : List Ad} {ad : Ad → Nat} {Q : Option PV → Hp → Prop} {X : Ad → Hp → Prop} (hx : p.tables.exec = Jvm.exec) (hb : c.code = kC k) (hr : meth.sig.returnType = kR k) (hlocks : meth.locks = false) : RC g k p l e R s m args below meth c al ad Q (ZM g below s al ad R.cells R.slots Q X) := by
  intro r h' ad' al' H' locs' cells' slots' pc' ls' hq w x hS ho hc hs hrt
  refine W.widen hc hs ?_
  have key : ∀ t : State, MQ below (fun _ st o t => o = .returned (r.map (em ad')) ∧ t.heap = H') args s R.cells R.slots (gF g) t → ZM g below s al ad R.cells R.slots Q X t := by
    rintro t ⟨o, h1, h2, ⟨rfl, h3⟩, L, ⟨-, h4, h5⟩, h6⟩
    exact ⟨_, h1, h2, Or.inl ⟨r, h', ad', al', rfl, hq, ho, by rw [h3]; exact w, x⟩, hS.F h3, L, ⟨h4, h5⟩, h6⟩
  refine W_mono key ?_
  rcases r with _ | r
  · exact W.vret hx hb (hr.trans hrt.2) (fun t ht _ => ⟨rfl, ht⟩) hS.2.2 hrt.1 hlocks
  · rcases r with v | v | o
    · obtain ⟨hd, ty, h1, h2⟩ := hrt
      exact W.zret hx hb (hr.trans h1) h2 (fun t ht _ => ⟨rfl, ht⟩) hS.2.2 hd hlocks
    · exact W.lret hx hb (hr.trans hrt.2) (fun t ht _ => ⟨rfl, ht⟩) hS.2.2 hrt.1 hlocks
    · obtain ⟨hd, ty, h1, h2⟩ := hrt
      exact W.aret hx hb (hr.trans h1) h2 (er_or ad' o) (fun t ht _ => ⟨rfl, ht⟩) hS.2.2 hd hlocks
theorem EC_M {al : List Ad} {ad : Ad → Nat} {Q : Option PV → Hp → Prop} {X : Ad → Hp → Prop} (hlocks : meth.locks = false) {E : EP} (hout : ∀ pc L a h', E pc L a h' → (∀ z ∈ c.exceptionTable.toList, covers z pc = false) ∧ X a h') : EC g k p l e R s m args below meth c al ad E (ZM g below s al ad R.cells R.slots Q X) := by
  intro a h' ad' al' H' locs' cells' slots' pc' ls' L' st' T he w x hS ho _ _ hc hs hT X0
  have X1 := stand_widen X0 hc hs
  obtain ⟨ho1, ho2⟩ := hout _ _ _ _ he
  obtain ⟨h1, h2, h3, h4, h5⟩ := X1.leaveThrown (ad' a) (g := F0 m pc' ls' st') rfl rfl rfl ho1 hlocks
  exact ⟨_, h1, _, h2, h3, Or.inr ⟨a, h', ad', al', rfl, ho2, ho, by rw [show (T.setFrames (.throwing (ad' a) :: below)).heap = H' from hT]; exact w, x⟩, hS.F hT, locs', ⟨h4, h5⟩, hS.2.2⟩
end JDG
theorem Mx.of {g : G0} {y : MethodName} {cc : ByteArray} {nL d mc ms : Nat} {rt : Option FieldType} {A : List PV} {h : Hp} {Q : Option PV → Hp → Prop} {X : Ad → Hp → Prop} (hy : plainName y.cls = true) (hA : cs A ≤ nL)
    (hV : V g (y.cls, y.name, cc, nL, rt) d mc ms 0 (pA 0 A) [] h Q (fun _ _ a h' => X a h')) : Mx g y (Cond.code y cc nL rt) d A h mc ms Q X := by
  intro l ad al hok
  refine MetFree.of_bodyS (code := cc) (maxLocals := nL) (ret := rt) hy ?_ ?_
  · intro args s m h hn
    obtain ⟨meth, c, h1, h2, h3, h4, h5, h6, -, -⟩ := Cond.code_spec hn (atoms_spec (ws := Cond.code y cc nL rt :: lw_g) h _ List.mem_cons_self)
    exact ⟨meth, c, h1, h2, h3, h4, h5, h6⟩
  · intro p e s m args below meth c s₁ B hml hP _
    obtain ⟨rfl, hw, hgd⟩ := hP
    have hh0 : s₁.heap = s.heap := by rw [B.state]; rfl
    have hts0 := atoms_spec (ws := Cond.code y cc nL rt :: lw_g) B.pre
    have hex : c.exceptionTable.isEmpty = true := by
      obtain ⟨meth', c', hm', hc', -, -, -, -, he', -⟩ := Cond.code_spec B.named (hts0 _ List.mem_cons_self)
      cases B.method.symm.trans hm'
      cases (Stand.of_body B).code.symm.trans hc'
      exact he'
    have hex2 : c.exceptionTable.toList = [] := by
      have h0 : c.exceptionTable.size = 0 := by simpa [Array.isEmpty] using hex
      exact List.eq_nil_of_length_eq_zero (by simpa using h0)
    have hl := lv_entry (A.map (em ad)) (n := nL) (by rw [lg_sl_cs]; exact hA)
    rw [lv_args_em] at hl
    have K := hV p l e _ s m (A.map (em ad)).toArray below meth c (ZM g below s al ad mc ms Q X) al ad ad al s.heap [] 0 0 _
      ⟨B.exec, B.bytes, hml, findClass_of_methodNamed B.named, fun w hw => hts0 w (List.mem_cons_of_mem _ hw), hgd, Nat.le_refl _, Nat.le_refl _, (name_of_methodNamed B.named B.method).1, hw.2.2.2.2.2.1⟩
      (RC_M (R := { frames := d, cells := mc, slots := ms, locals := 41 * d }) B.exec B.bytes B.returns B.notSynchronized)
      (EC_M (R := { frames := d, cells := mc, slots := ms, locals := 41 * d }) B.notSynchronized (fun pc L a h' he => ⟨fun z hz => (by rw [hex2] at hz; cases hz), he⟩))
      hw Ex.rf va_S.rf hl (okL_pA A 0 hok) (fun v hv => by cases hv) (Nat.le_of_eq (Nat.zero_add _)) (Nat.le_of_eq (Nat.zero_add _))
    have K2 : W p l e { frames := d, cells := mc, slots := ms, locals := 41 * d } s m (A.map (em ad)).toArray below meth c s₁.heap [] 0 0 (ZM g below s al ad mc ms Q X) (entryFrame m (A.map (em ad)).toArray nL) := by
      rw [hh0, lg_entry_eq]
      exact K
    obtain ⟨t, a1, o, b1, b2, b3⟩ := K2 s₁ rfl (Stand.of_body B)
    exact ⟨t, o, a1, b1, b2, b3⟩
