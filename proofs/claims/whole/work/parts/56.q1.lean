/-- what the reference's questions leave: thrown, foundScheme, foundChange and the pile alone -/
def Fr (h h' : Hp) : Prop := cn h' = cn h ∧ ln h' = ln h ∧ vl h' = vl h ∧ vr h' = vr h ∧ ∀ (a : Ad) (f : Nat), a ≠ (39, 1) → (a = (32, 0) → f ≠ 0 ∧ f ≠ 20 ∧ f ≠ 21) → vi h' a f = vi h a f
theorem Fr.rf (h : Hp) : Fr h h := ⟨rfl, rfl, rfl, rfl, fun _ _ _ _ => rfl⟩
theorem Fr.tr {h h1 h2 : Hp} (a : Fr h h1) (b : Fr h1 h2) : Fr h h2 := ⟨b.1.trans a.1, b.2.1.trans a.2.1, b.2.2.1.trans a.2.2.1, b.2.2.2.1.trans a.2.2.2.1, fun c f x y => (b.2.2.2.2 c f x y).trans (a.2.2.2.2 c f x y)⟩
/-- the reference's own cells agree -/
def Ag (h h' : Hp) : Prop := (∀ p, 32 ≤ p → cn h' p = cn h p) ∧ (∀ a : Ad, 32 ≤ a.1 → ln h' a = ln h a) ∧ (∀ (a : Ad) k, 32 ≤ a.1 → vr h' a k = vr h a k) ∧ ∀ (a : Ad) (f : Nat), 32 ≤ a.1 → a ≠ (39, 1) → (a = (32, 0) → f ≠ 0 ∧ f ≠ 20 ∧ f ≠ 21) → vi h' a f = vi h a f
theorem Ag.rf (h : Hp) : Ag h h := ⟨fun _ _ => rfl, fun _ _ => rfl, fun _ _ _ => rfl, fun _ _ _ _ _ => rfl⟩
theorem Ag.fr {h h1 h2 : Hp} (a : Ag h h1) (b : Fr h1 h2) : Ag h h2 := ⟨fun p hp => by rw [b.1]; exact a.1 p hp, fun p hp => by rw [b.2.1]; exact a.2.1 p hp, fun p k hp => by rw [b.2.2.2.1]; exact a.2.2.1 p k hp, fun c f z x y => (b.2.2.2.2 c f x y).trans (a.2.2.2 c f z x y)⟩
/-- h: of which the questions speak; h0: the heap in which they began; h': now -/
def Qf (h h0 h' : Hp) : Prop := Ag h h' ∧ Fr h0 h'
theorem Qf.of {h h0 : Hp} (a : Ag h h0) : Qf h h0 h0 := ⟨a, Fr.rf _⟩
theorem Qf.rf (h : Hp) : Qf h h h := Qf.of (Ag.rf h)
theorem Qf.to {h h0 h1 h2 : Hp} (a : Qf h h0 h1) (b : Fr h1 h2) : Qf h h0 h2 := ⟨a.1.fr b, a.2.tr b⟩
theorem Qf.v {h h0 h' : Hp} (q : Qf h h0 h') {p i f : Nat} (h1 : p ≠ 39 ∧ 32 ≤ p) (h2 : p ≠ 32) : vi h' (p, i) f = vi h (p, i) f := q.1.2.2.2 (p, i) f h1.2 (fun z => h1.1 (by cases z; rfl)) (fun z => (h2 (by cases z; rfl)).elim)
theorem Qf.m {h h0 h' : Hp} (q : Qf h h0 h') {f : Nat} (h1 : f ≠ 0 ∧ f ≠ 20 ∧ f ≠ 21) : vi h' (32, 0) f = vi h (32, 0) f := q.1.2.2.2 (32, 0) f (Nat.le_refl _) (fun z => by cases z) (fun _ => h1)
theorem Qf.k {h h0 h' : Hp} (q : Qf h h0 h') {i f : Nat} (h1 : i ≠ 1) : vi h' (39, i) f = vi h (39, i) f := q.1.2.2.2 (39, i) f (Nat.le_of_ble_eq_true rfl) (fun z => h1 (by cases z; rfl)) (fun z => by cases z)
theorem Qf.pile {h h0 h' : Hp} (q : Qf h h0 h') (i : Nat) (x : Int32) : Qf h h0 (sI h' (39, 1) i x) := q.to ⟨rfl, rfl, rfl, rfl, fun _ f h1 _ => vi_sI_ne _ _ _ f h1⟩
theorem Qf.ff {h h0 h' : Hp} (q : Qf h h0 h') (s : Int32 × Int32) : Qf h h0 (ff h' s) := q.to ⟨rfl, rfl, rfl, rfl, fun b f _ h2 => by
  by_cases hb : b = (32, 0)
  · subst hb
    show (if ((32, 0) : Ad) = (32, 0) then (if f = 20 then s.1 else if f = 21 then s.2 else vi h' (32, 0) f) else vi h' (32, 0) f) = _
    rw [if_pos rfl, if_neg (h2 rfl).2.1, if_neg (h2 rfl).2.2]
  · exact ff_o _ _ _ hb⟩
theorem Qf.mZ {h h0 h' : Hp} (q : Qf h h0 h') : Qf h h0 (mZ h') := q.to ⟨rfl, rfl, rfl, rfl, fun b f _ h2 => by
  by_cases hb : b = (32, 0)
  · exact mZ_v _ _ (h2 hb).1
  · exact mZ_o _ _ hb⟩
theorem mC32 : ∀ z ∈ mC, 32 ≤ z.1 := by decide
theorem mLn32 : ∀ z ∈ mLn, 32 ≤ z.1.1 := by decide
theorem mR32 : ∀ z ∈ mR, 32 ≤ z.1.1.1 := by decide
theorem SMQ {h h0 h' : Hp} (m : SM h) (q : Qf h h0 h') : SM h' := by
  obtain ⟨a, b, c⟩ := m
  exact ⟨fun z hz => by rw [q.1.1 _ (mC32 z hz)]; exact a z hz, fun z hz => by rw [q.1.2.1 _ (mLn32 z hz)]; exact b z hz, fun z hz => by rw [q.1.2.2.1 _ _ (mR32 z hz)]; exact c z hz⟩
theorem SKQ {h h0 h' : Hp} {k : Nat} (s : SK h k) (q : Qf h h0 h') : SK h' k := by
  obtain ⟨a, b, c, d, e, f⟩ := s
  have eC : ∀ p, 32 ≤ p → cn h' p = cn h p := q.1.1
  have eL : ∀ p i, 32 ≤ p → ln h' (p, i) = ln h (p, i) := fun p i hp => q.1.2.1 (p, i) hp
  have eR : ∀ p i j, 32 ≤ p → vr h' (p, i) j = vr h (p, i) j := fun p i j hp => q.1.2.2.1 (p, i) j hp
  unfold SK
  rw [eC 33 (by decide), eC 40 (by decide), eC 41 (by decide), eC 42 (by decide), eC 43 (by decide), eC 44 (by decide), eC 45 (by decide), eC 46 (by decide), eC 47 (by decide), eC 48 (by decide), eC 49 (by decide), eR 36 _ _ (by decide), eR 33 _ _ (by decide), eR 33 _ _ (by decide), eR 33 _ _ (by decide), eR 33 _ _ (by decide), eR 33 _ _ (by decide), eR 33 _ _ (by decide), eR 33 _ _ (by decide), eR 33 _ _ (by decide), eR 33 _ _ (by decide), eR 33 _ _ (by decide), eL 40 _ (by decide), eL 41 _ (by decide), eL 42 _ (by decide), eL 43 _ (by decide), eL 44 _ (by decide), eL 45 _ (by decide), eL 46 _ (by decide), eL 47 _ (by decide), eL 48 _ (by decide), eL 49 _ (by decide), q.v (by decide) (by decide)]
  exact ⟨a, b, c, d, e, f⟩
theorem MKQ {h h0 h' : Hp} {n : Nat} (m : MK h n) (q : Qf h h0 h') : MK h' n := ⟨SMQ m.1 q, m.2.1, by rw [q.m (by decide)]; exact m.2.2.1, fun k hk => SKQ (m.2.2.2 k hk) q⟩
theorem MIQ {h h0 h' : Hp} (m : MI h) (q : Qf h h0 h') : MI h' := by
  obtain ⟨a, b⟩ := m
  refine ⟨SMQ a q, ?_⟩
  rw [q.m (by decide), q.m (by decide), q.m (by decide), q.m (by decide), q.m (by decide)]
  exact b
theorem MJQ {h h0 h' : Hp} (m : MJ h) (q : Qf h h0 h') : MJ h' := by
  obtain ⟨a, b, c, d, e⟩ := m
  refine ⟨MIQ a q, fun p hp => ?_, fun p hp => ?_, fun p hp => ?_, fun p hp => ?_⟩
  · rw [q.v (by decide) (by decide)]; exact b p hp
  · rw [q.v (by decide) (by decide)]; exact c p hp
  · rw [q.v (by decide) (by decide)]; exact d p hp
  · rw [q.v (by decide) (by decide)]; exact e p hp
theorem mML_Q {h h0 h' : Hp} (q : Qf h h0 h') (day : Int32) : ∀ (j k : Nat) (b : Int32), mML h' day j k b = mML h day j k b
  | 0, _, _ => rfl
  | j + 1, k, b => by rw [mML, mML, q.v (by decide) (by decide), q.v (by decide) (by decide), mML_Q q day j, mML_Q q day j]
theorem mFc_Q {h h0 h' : Hp} (q : Qf h h0 h') (p k : Nat) (day : Int32) : mFc h' p k day = mFc h p k day := by
  have e8 : ∀ i f, vi h' (38, i) f = vi h (38, i) f := fun i f => q.v (by decide) (by decide)
  have e9 : vi h' (39, 0) p = vi h (39, 0) p := q.k (by decide)
  unfold mFc
  split
  · rw [e8]
  · rw [e8]
  · unfold mMean; rw [mML_Q q, e8, e8]
  · rw [e9]
  · rw [e8]
theorem fC_Q {h h0 h' : Hp} (q : Qf h h0 h') (k : Nat) (nu : Int32) : ∀ (j c : Nat) (s : Int32 × Int32), fC h' k nu j c s = fC h k nu j c s
  | 0, _, _ => rfl
  | j + 1, c, s => by rw [fC, fC, q.v (by decide) (by decide), q.v (by decide) (by decide), fC_Q q k nu j, fC_Q q k nu j]
theorem fO_Q {h h0 h' : Hp} (q : Qf h h0 h') (w nu d : Int32) : ∀ (j k : Nat) (s : Int32 × Int32), fO h' w nu d j k s = fO h w nu d j k s
  | 0, _, _ => rfl
  | j + 1, k, s => by
    have e : chN h' k = chN h k := by rw [chN, chN, q.v (by decide) (by decide)]
    rw [fO, fO, q.v (by decide) (by decide), q.v (by decide) (by decide), q.v (by decide) (by decide), fO_Q q w nu d j, fO_Q q w nu d j, fC_Q q, e]
theorem fEnd_Q {h h0 h' : Hp} (q : Qf h h0 h') (s : Int32 × Int32) : fEnd h' s = fEnd h s := by rw [fEnd, fEnd, q.v (by decide) (by decide)]
/-- finds under a question -/
theorem M_findsQ (g : G0) (h : Hp) {n : Nat} (m : MK h n) {h0 h' : Hp} (q : Qf h h0 h') {w nu d : Int32} : Mx g yX14_finds wX14_finds 0 [pR (32, 0), pI w, pI nu, pI d] h' 0 0 (fun r h2 => ∃ c, r = some (pI (fEnd h (fB h n w nu d c))) ∧ Qf h h0 h2 ∧ vi h2 (32, 0) 20 = (fB h n w nu d c).1 ∧ vi h2 (32, 0) 21 = (fB h n w nu d c).2) noX := by
  have m' := MKQ m q
  have K := M_finds g h' m'.1 m'.2.1 m'.2.2.1 m'.2.2.2 (w := w) (nu := nu) (d := d)
  rw [fO_Q q, fEnd_Q q] at K
  refine Mx.mono ?_ (fun _ _ z => z) K
  rintro r h2 ⟨rfl, rfl⟩
  exact ⟨_, rfl, q.ff _, rfl, rfl⟩
theorem M_factQ (g : G0) (h : Hp) (i : MJ h) {h0 h' : Hp} (q : Qf h h0 h') {p k : Nat} (hp : p < 40) (hk : k < 5) {day : Int32} : Mx g yX14_factOf wX14_factOf 1 [pR (32, 0), pI (nI p), pI day, pI (nI k)] h' 0 0 (qE (some (pI (mFc h p k day))) h') noX := by
  have K := M_factOf g h' (MJQ i q) hp hk (day := day)
  rw [mFc_Q q] at K
  exact K
/-! the reference's code: a machine over a stack of truths -/
def b2 (b : Bool) : Int32 := if b = true then 1 else 0
def Pil (h : Hp) : List Bool → Prop
  | [] => True
  | b :: r => vi h (39, 1) r.length = b2 b ∧ Pil h r
theorem Pil_set {h : Hp} : ∀ {st : List Bool} {i : Nat} (x : Int32), Pil h st → st.length ≤ i → Pil (sI h (39, 1) i x) st
  | [], _, _, _, _ => trivial
  | b :: r, i, x, hp, hi => by
    have hi' : r.length + 1 ≤ i := hi
    exact ⟨by rw [vi_sI_nk _ _ _ (by omega)]; exact hp.1, Pil_set x hp.2 (by omega)⟩
theorem Pil_put {h : Hp} {st : List Bool} {b : Bool} {x : Int32} (hp : Pil h st) (hx : x = b2 b) : Pil (sI h (39, 1) st.length x) (b :: st) := ⟨by rw [vi_sI_eq]; exact hx, Pil_set x hp (Nat.le_refl _)⟩
abbrev mOp : Type := Int32 × Int32 × Int32
def mCmp (s v n : Int32) : Bool := if s = 0 then decide (v < n) else if s = 1 then decide (n < v) else decide (v = n)
def mStp (F : Nat → Int32) (p : mOp) (st : List Bool) : Option (List Bool) :=
  if p.1 = 3 then (match st with | a :: r => some ((!a) :: r) | _ => none)
  else if p.1 = 4 then (match st with | b :: a :: r => some ((a && b) :: r) | _ => none)
  else if p.1 = 5 then (match st with | b :: a :: r => some ((a || b) :: r) | _ => none)
  else some (mCmp p.1 (F p.2.1.toNatClampNeg) p.2.2 :: st)
def mRun (F : Nat → Int32) : List mOp → List Bool → Option (List Bool)
  | [], st => some st
  | p :: l, st => (mStp F p st).bind (mRun F l)
def mOps (h : Hp) (k : Nat) : Nat → Nat → List mOp
  | 0, _ => []
  | j + 1, i => (vi h (45, k) i, vi h (46, k) i, vi h (47, k) i) :: mOps h k j (i + 1)
/-- a sign of a scheme: which, and its name -/
def opOK (h : Hp) (k i : Nat) : Prop := (vi h (45, k) i = 3 ∨ vi h (45, k) i = 4 ∨ vi h (45, k) i = 5) ∨ ((vi h (45, k) i = 0 ∨ vi h (45, k) i = 1 ∨ vi h (45, k) i = 2) ∧ ∃ m, m < 5 ∧ vi h (46, k) i = nI m)
theorem mRun1 {F : Nat → Int32} {p : mOp} {l : List mOp} {st st' : List Bool} {r : Option (List Bool)} (h1 : mStp F p st = some st') (hr : mRun F (p :: l) st = r) : mRun F l st' = r := by
  rw [mRun, h1] at hr; exact hr
theorem mRun0 {F : Nat → Int32} {p : mOp} {l : List mOp} {st v : List Bool} (hr : mRun F (p :: l) st = some v) : ∃ st', mStp F p st = some st' := by
  rw [mRun] at hr
  cases z : mStp F p st with
  | none => rw [z] at hr; cases hr
  | some s => exact ⟨s, rfl⟩
theorem b2_ne (b : Bool) : (b2 b = 0) = (b = false) := by cases b <;> simp [b2]
theorem b2_nar (b : Bool) : vp_nar .boolean (b2 b) = b2 b := by cases b <;> rfl
theorem nI_dec (n : Nat) : nI (n + 1) - 1 = nI n := nI_pred n
theorem nI_im (n : Nat) : nI (n + 1) + Int32.ofInt (-1) = nI n := by rw [show Int32.ofInt (-1) = -1 by decide, ← Int32.sub_eq_add_neg]; exact nI_pred n
set_option maxRecDepth 20000 in
theorem M_holds_loop (g : G0) (h : Hp) {h0 : Hp} (hJ : MJ h) {k c f t p : Nat} (hk : SK h k) (hc : c < 12) (ht : t ≤ 130) (et : vi h (43, k) c = nI t) (hp : p < 40) {d : Int32} {v : Bool} (ok : ∀ i, f ≤ i → i < t → opOK h k i) : ∀ (j i : Nat) (st : List Bool) (x y : Int32) (h' : Hp), i + j = t → f ≤ i → st.length ≤ i → x = nI i → y = nI st.length → Qf h h0 h' → vi h' (32, 0) 21 = nI c → Pil h' st → mRun (fun m => mFc h p m d) (mOps h k j i) st = some [v] → V g kfX14_holds 2 0 0 24 [(0, pR (32, 0)), (1, pI (nI p)), (2, pI d), (3, pR (33, k)), (4, pI y), (5, pI x)] [] h' (fun r h2 => r = some (pI (b2 v)) ∧ Qf h h0 h2) (fun _ _ a h2 => noX a h2) := by
  intro j
  induction j with
  | zero =>
    intro i st x y h' hij hfi hsi hx hy q e21 hP hr
    subst hx; subst hy
    have hst : st = [v] := by rw [mOps, mRun] at hr; exact Option.some.inj hr
    subst hst
    have hM' := SMQ hJ.1.1 q
    have hk' := SKQ hk q
    have ncc : (nI c).toNatClampNeg = c := nI_clamp (by omega)
    refine v_iload dX14_holds_24 rfl ?_
    refine v_aload_n dX14_holds_26 rfl ?_
    refine v_getR (some (43, k)) fl_X14_242 dX14_holds_27 rfl rfl (Nat.le_of_ble_eq_true rfl) hk'.1 hk'.2.2.2.1.2.2.2.1 ?_
    refine v_aload_n dX14_holds_30 rfl ?_
    refine v_getI fl_X14_298 dX14_holds_31 rfl rfl (Nat.le_of_ble_eq_true rfl) (mh_32_0 hM') ?_
    rw [e21]
    refine v_iald dX14_holds_34 rfl (Nat.le_of_ble_eq_true rfl) hk'.2.2.1.2.2.2.1 (by rw [hk'.2.2.2.2.1.2.2.2.1]; exact vp_in_nI (by omega) (by decide)) ?_
    rw [ncc, q.v (by decide) (by decide), et]
    refine v_icmp_ge 297 dX14_holds_35 (by decide) (fun _ => ?_) (fun z => absurd (nI_le (by omega) (by omega)) z)
    refine v_aload_n dX14_holds_297 rfl ?_
    refine v_getR (some (39, 1)) fl_X14_70 dX14_holds_298 rfl rfl (Nat.le_of_ble_eq_true rfl) (mh_32_0 hM') (mr_32_0_35 hM') ?_
    refine v_iconst (0) dX14_holds_301 (by decide) ?_
    refine v_zald dX14_holds_302 rfl (Nat.le_of_ble_eq_true rfl) (mh_39_1 hM') (by rw [ml_39_1 hM']; exact vp_in_nI (n := 0) (by decide) (by decide)) ?_
    refine v_ireturn dX14_holds_303 rfl (by rw [show vi h' (39, 1) (0 : Int32).toNatClampNeg = b2 v from hP.1]; cases v <;> rfl) ?_
    exact ⟨congrArg (fun z => some (pI z)) hP.1, q⟩
  | succ j ih =>
    intro i st x y h' hij hfi hsi hx hy q e21 hP hr
    subst hx; subst hy
    have nci : (nI i).toNatClampNeg = i := nI_clamp (by omega)
    have hi : i < 130 := by omega
    have eS : vi h' (45, k) i = vi h (45, k) i := q.v (by decide) (by decide)
    have eN : vi h' (46, k) i = vi h (46, k) i := q.v (by decide) (by decide)
    have eT : vi h' (47, k) i = vi h (47, k) i := q.v (by decide) (by decide)
    have hM' := SMQ hJ.1.1 q
    have hk' := SKQ hk q
    have ncc : (nI c).toNatClampNeg = c := nI_clamp (by omega)
    rcases ok i hfi (by omega) with (z | z | z) | ⟨z, m, hm, em⟩
    · obtain ⟨st2, e2⟩ := mRun0 hr
      rcases st with _ | ⟨a, st⟩
      · unfold mStp at e2; rw [if_pos z] at e2; cases e2
      have hr2 := mRun1 (st' := (!a) :: st) (by unfold mStp; rw [if_pos z]) hr
      have hl : (a :: st).length = st.length + 1 := rfl
      have ncl : (nI st.length).toNatClampNeg = st.length := nI_clamp (by omega)
      refine v_iload dX14_holds_24 rfl ?_
      refine v_aload_n dX14_holds_26 rfl ?_
      refine v_getR (some (43, k)) fl_X14_242 dX14_holds_27 rfl rfl (Nat.le_of_ble_eq_true rfl) hk'.1 hk'.2.2.2.1.2.2.2.1 ?_
      refine v_aload_n dX14_holds_30 rfl ?_
      refine v_getI fl_X14_298 dX14_holds_31 rfl rfl (Nat.le_of_ble_eq_true rfl) (mh_32_0 hM') ?_
      rw [e21]
      refine v_iald dX14_holds_34 rfl (Nat.le_of_ble_eq_true rfl) hk'.2.2.1.2.2.2.1 (by rw [hk'.2.2.2.2.1.2.2.2.1]; exact vp_in_nI (by omega) (by decide)) ?_
      rw [ncc, q.v (by decide) (by decide), et]
      refine v_icmp_ge 297 dX14_holds_35 (by decide) (fun z => absurd z (nI_ge (by omega) (by omega))) (fun _ => ?_)
      refine v_aload_n dX14_holds_38 rfl ?_
      refine v_getR (some (45, k)) fl_X14_327 dX14_holds_39 rfl rfl (Nat.le_of_ble_eq_true rfl) hk'.1 hk'.2.2.2.1.2.2.2.2.2.1 ?_
      refine v_iload dX14_holds_42 rfl ?_
      refine v_iald dX14_holds_44 rfl (Nat.le_of_ble_eq_true rfl) hk'.2.2.1.2.2.2.2.2.1 (by rw [hk'.2.2.2.2.1.2.2.2.2.2.1]; exact vp_in_nI (by omega) (by decide)) ?_
      rw [nci, eS, z]
      refine v_tableIn 72 dX14_holds_45 (by decide) (by decide) (by rfl) (by decide) ?_
      refine v_aload_n dX14_holds_72 rfl ?_
      refine v_getR (some (39, 1)) fl_X14_70 dX14_holds_73 rfl rfl (Nat.le_of_ble_eq_true rfl) (mh_32_0 hM') (mr_32_0_35 hM') ?_
      refine v_iload dX14_holds_76 rfl ?_
      refine v_iconst (1) dX14_holds_78 (by decide) ?_
      refine v_isub dX14_holds_79 ?_
      first | rw [nI_dec] | rw [show nI (a :: st).length = nI (st.length + 1) from rfl, nI_dec]
      refine v_aload_n dX14_holds_80 rfl ?_
      refine v_getR (some (39, 1)) fl_X14_70 dX14_holds_81 rfl rfl (Nat.le_of_ble_eq_true rfl) (mh_32_0 hM') (mr_32_0_35 hM') ?_
      refine v_iload dX14_holds_84 rfl ?_
      refine v_iconst (1) dX14_holds_86 (by decide) ?_
      refine v_isub dX14_holds_87 ?_
      first | rw [nI_dec] | rw [show nI (a :: st).length = nI (st.length + 1) from rfl, nI_dec]
      refine v_zald dX14_holds_88 rfl (Nat.le_of_ble_eq_true rfl) (mh_39_1 hM') (by rw [ml_39_1 hM']; exact vp_in_nI (n := st.length) (by omega) (by decide)) ?_
      rw [ncl, show vi h' (39, 1) st.length = b2 a from hP.1]
      refine v_if_ne 96 dX14_holds_89 (by decide) (fun c89 => ?_) (fun c89 => ?_)
      · refine v_iconst (0) dX14_holds_96 (by decide) ?_
        refine v_zast dX14_holds_97 rfl (Nat.le_of_ble_eq_true rfl) (mh_39_1 hM') (by rw [ml_39_1 hM']; exact vp_in_nI (n := st.length) (by omega) (by decide)) ?_
        rw [ncl]
        refine v_goto 291 dX14_holds_98 (by decide) ?_
        refine v_iinc _ dX14_holds_291 rfl rfl (by decide) ?_
        refine v_goto 24 dX14_holds_294 (by decide) ?_
        refine v_loc [(0, pR (32, 0)), (1, pI (nI p)), (2, pI d), (3, pR (33, k)), (4, pI (nI (a :: st).length)), (5, pI (nI i + 1))] rfl ?_
        refine ih (i + 1) ((!a) :: st) _ _ _ (by omega) (by omega) (by show st.length + 1 ≤ i + 1; have : st.length + 1 ≤ i := hsi; omega) (nI_1 i) rfl (q.pile _ _) (by rw [vi_sI_ne _ _ _ _ (by decide)]; exact e21) (Pil_put hP.2 ?_) hr2
        rw [b2_ne] at c89
        first | (rw [c89]; rfl) | (rw [(Bool.not_eq_false a).mp c89]; rfl)
      · refine v_iconst (1) dX14_holds_92 (by decide) ?_
        refine v_goto 97 dX14_holds_93 (by decide) ?_
        refine v_zast dX14_holds_97 rfl (Nat.le_of_ble_eq_true rfl) (mh_39_1 hM') (by rw [ml_39_1 hM']; exact vp_in_nI (n := st.length) (by omega) (by decide)) ?_
        rw [ncl]
        refine v_goto 291 dX14_holds_98 (by decide) ?_
        refine v_iinc _ dX14_holds_291 rfl rfl (by decide) ?_
        refine v_goto 24 dX14_holds_294 (by decide) ?_
        refine v_loc [(0, pR (32, 0)), (1, pI (nI p)), (2, pI d), (3, pR (33, k)), (4, pI (nI (a :: st).length)), (5, pI (nI i + 1))] rfl ?_
        refine ih (i + 1) ((!a) :: st) _ _ _ (by omega) (by omega) (by show st.length + 1 ≤ i + 1; have : st.length + 1 ≤ i := hsi; omega) (nI_1 i) rfl (q.pile _ _) (by rw [vi_sI_ne _ _ _ _ (by decide)]; exact e21) (Pil_put hP.2 ?_) hr2
        rw [b2_ne] at c89
        first | (rw [c89]; rfl) | (rw [(Bool.not_eq_false a).mp c89]; rfl)
    · obtain ⟨st2, e2⟩ := mRun0 hr
      rcases st with _ | ⟨b, _ | ⟨a, st⟩⟩
      · unfold mStp at e2; rw [if_neg (show ¬ vi h (45, k) i = 3 by rw [z]; decide), if_pos z] at e2; cases e2
      · unfold mStp at e2; rw [if_neg (show ¬ vi h (45, k) i = 3 by rw [z]; decide), if_pos z] at e2; cases e2
      have hr2 := mRun1 (st' := (a && b) :: st) (by unfold mStp; rw [if_neg (show ¬ vi h (45, k) i = 3 by rw [z]; decide), if_pos z]) hr
      have hl : st.length + 2 ≤ i := hsi
      have ncl : (nI st.length).toNatClampNeg = st.length := nI_clamp (by omega)
      have ncl1 : (nI (st.length + 1)).toNatClampNeg = st.length + 1 := nI_clamp (by omega)
      have e41 : nI (b :: a :: st).length + Int32.ofInt (-1) = nI (st.length + 1) := nI_im (st.length + 1)
      refine v_iload dX14_holds_24 rfl ?_
      refine v_aload_n dX14_holds_26 rfl ?_
      refine v_getR (some (43, k)) fl_X14_242 dX14_holds_27 rfl rfl (Nat.le_of_ble_eq_true rfl) hk'.1 hk'.2.2.2.1.2.2.2.1 ?_
      refine v_aload_n dX14_holds_30 rfl ?_
      refine v_getI fl_X14_298 dX14_holds_31 rfl rfl (Nat.le_of_ble_eq_true rfl) (mh_32_0 hM') ?_
      rw [e21]
      refine v_iald dX14_holds_34 rfl (Nat.le_of_ble_eq_true rfl) hk'.2.2.1.2.2.2.1 (by rw [hk'.2.2.2.2.1.2.2.2.1]; exact vp_in_nI (by omega) (by decide)) ?_
      rw [ncc, q.v (by decide) (by decide), et]
      refine v_icmp_ge 297 dX14_holds_35 (by decide) (fun z => absurd z (nI_ge (by omega) (by omega))) (fun _ => ?_)
      refine v_aload_n dX14_holds_38 rfl ?_
      refine v_getR (some (45, k)) fl_X14_327 dX14_holds_39 rfl rfl (Nat.le_of_ble_eq_true rfl) hk'.1 hk'.2.2.2.1.2.2.2.2.2.1 ?_
      refine v_iload dX14_holds_42 rfl ?_
      refine v_iald dX14_holds_44 rfl (Nat.le_of_ble_eq_true rfl) hk'.2.2.1.2.2.2.2.2.1 (by rw [hk'.2.2.2.2.1.2.2.2.2.2.1]; exact vp_in_nI (by omega) (by decide)) ?_
      rw [nci, eS, z]
      refine v_tableIn 101 dX14_holds_45 (by decide) (by decide) (by rfl) (by decide) ?_
      refine v_iinc _ dX14_holds_101 rfl rfl (by decide) ?_
      rw [e41]
      refine v_aload_n dX14_holds_104 rfl ?_
      refine v_getR (some (39, 1)) fl_X14_70 dX14_holds_105 rfl rfl (Nat.le_of_ble_eq_true rfl) (mh_32_0 hM') (mr_32_0_35 hM') ?_
      refine v_iload dX14_holds_108 rfl ?_
      refine v_iconst (1) dX14_holds_110 (by decide) ?_
      refine v_isub dX14_holds_111 ?_
      rw [nI_dec]
      refine v_aload_n dX14_holds_112 rfl ?_
      refine v_getR (some (39, 1)) fl_X14_70 dX14_holds_113 rfl rfl (Nat.le_of_ble_eq_true rfl) (mh_32_0 hM') (mr_32_0_35 hM') ?_
      refine v_iload dX14_holds_116 rfl ?_
      refine v_iconst (1) dX14_holds_118 (by decide) ?_
      refine v_isub dX14_holds_119 ?_
      rw [nI_dec]
      refine v_zald dX14_holds_120 rfl (Nat.le_of_ble_eq_true rfl) (mh_39_1 hM') (by rw [ml_39_1 hM']; exact vp_in_nI (n := st.length) (by omega) (by decide)) ?_
      rw [ncl, show vi h' (39, 1) st.length = b2 a from hP.2.1]
      refine v_if_eq 138 dX14_holds_121 (by decide) (fun c121 => ?_) (fun c121 => ?_)
      · refine v_iconst (0) dX14_holds_138 (by decide) ?_
        refine v_zast dX14_holds_139 rfl (Nat.le_of_ble_eq_true rfl) (mh_39_1 hM') (by rw [ml_39_1 hM']; exact vp_in_nI (n := st.length) (by omega) (by decide)) ?_
        rw [ncl]
        refine v_goto 291 dX14_holds_140 (by decide) ?_
        refine v_iinc _ dX14_holds_291 rfl rfl (by decide) ?_
        refine v_goto 24 dX14_holds_294 (by decide) ?_
        refine v_loc [(0, pR (32, 0)), (1, pI (nI p)), (2, pI d), (3, pR (33, k)), (4, pI (nI (st.length + 1))), (5, pI (nI i + 1))] rfl ?_
        refine ih (i + 1) ((a && b) :: st) _ _ _ (by omega) (by omega) (by show st.length + 1 ≤ i + 1; omega) (nI_1 i) rfl (q.pile _ _) (by rw [vi_sI_ne _ _ _ _ (by decide)]; exact e21) (Pil_put hP.2.2 ?_) hr2
        clear ih
        first | (rw [b2_ne] at c121 c131) | (rw [b2_ne] at c121) | (rw [b2_ne] at c163 c173) | (rw [b2_ne] at c163)
        first | (revert c121 c131; clear hr hr2 e2 hP e41 ncl ncl1; cases a <;> cases b <;> decide) | (revert c121; clear hr hr2 e2 hP e41 ncl ncl1; cases a <;> cases b <;> decide) | (revert c163 c173; clear hr hr2 e2 hP e41 ncl ncl1; cases a <;> cases b <;> decide) | (revert c163; clear hr hr2 e2 hP e41 ncl ncl1; cases a <;> cases b <;> decide)
      · refine v_aload_n dX14_holds_124 rfl ?_
        refine v_getR (some (39, 1)) fl_X14_70 dX14_holds_125 rfl rfl (Nat.le_of_ble_eq_true rfl) (mh_32_0 hM') (mr_32_0_35 hM') ?_
        refine v_iload dX14_holds_128 rfl ?_
        refine v_zald dX14_holds_130 rfl (Nat.le_of_ble_eq_true rfl) (mh_39_1 hM') (by rw [ml_39_1 hM']; exact vp_in_nI (n := st.length + 1) (by omega) (by decide)) ?_
        rw [ncl1, show vi h' (39, 1) (st.length + 1) = b2 b from hP.1]
        refine v_if_eq 138 dX14_holds_131 (by decide) (fun c131 => ?_) (fun c131 => ?_)
        · refine v_iconst (0) dX14_holds_138 (by decide) ?_
          refine v_zast dX14_holds_139 rfl (Nat.le_of_ble_eq_true rfl) (mh_39_1 hM') (by rw [ml_39_1 hM']; exact vp_in_nI (n := st.length) (by omega) (by decide)) ?_
          rw [ncl]
          refine v_goto 291 dX14_holds_140 (by decide) ?_
          refine v_iinc _ dX14_holds_291 rfl rfl (by decide) ?_
          refine v_goto 24 dX14_holds_294 (by decide) ?_
          refine v_loc [(0, pR (32, 0)), (1, pI (nI p)), (2, pI d), (3, pR (33, k)), (4, pI (nI (st.length + 1))), (5, pI (nI i + 1))] rfl ?_
          refine ih (i + 1) ((a && b) :: st) _ _ _ (by omega) (by omega) (by show st.length + 1 ≤ i + 1; omega) (nI_1 i) rfl (q.pile _ _) (by rw [vi_sI_ne _ _ _ _ (by decide)]; exact e21) (Pil_put hP.2.2 ?_) hr2
          clear ih
          first | (rw [b2_ne] at c121 c131) | (rw [b2_ne] at c121) | (rw [b2_ne] at c163 c173) | (rw [b2_ne] at c163)
          first | (revert c121 c131; clear hr hr2 e2 hP e41 ncl ncl1; cases a <;> cases b <;> decide) | (revert c121; clear hr hr2 e2 hP e41 ncl ncl1; cases a <;> cases b <;> decide) | (revert c163 c173; clear hr hr2 e2 hP e41 ncl ncl1; cases a <;> cases b <;> decide) | (revert c163; clear hr hr2 e2 hP e41 ncl ncl1; cases a <;> cases b <;> decide)
        · refine v_iconst (1) dX14_holds_134 (by decide) ?_
          refine v_goto 139 dX14_holds_135 (by decide) ?_
          refine v_zast dX14_holds_139 rfl (Nat.le_of_ble_eq_true rfl) (mh_39_1 hM') (by rw [ml_39_1 hM']; exact vp_in_nI (n := st.length) (by omega) (by decide)) ?_
          rw [ncl]
          refine v_goto 291 dX14_holds_140 (by decide) ?_
          refine v_iinc _ dX14_holds_291 rfl rfl (by decide) ?_
          refine v_goto 24 dX14_holds_294 (by decide) ?_
          refine v_loc [(0, pR (32, 0)), (1, pI (nI p)), (2, pI d), (3, pR (33, k)), (4, pI (nI (st.length + 1))), (5, pI (nI i + 1))] rfl ?_
          refine ih (i + 1) ((a && b) :: st) _ _ _ (by omega) (by omega) (by show st.length + 1 ≤ i + 1; omega) (nI_1 i) rfl (q.pile _ _) (by rw [vi_sI_ne _ _ _ _ (by decide)]; exact e21) (Pil_put hP.2.2 ?_) hr2
          clear ih
          first | (rw [b2_ne] at c121 c131) | (rw [b2_ne] at c121) | (rw [b2_ne] at c163 c173) | (rw [b2_ne] at c163)
          first | (revert c121 c131; clear hr hr2 e2 hP e41 ncl ncl1; cases a <;> cases b <;> decide) | (revert c121; clear hr hr2 e2 hP e41 ncl ncl1; cases a <;> cases b <;> decide) | (revert c163 c173; clear hr hr2 e2 hP e41 ncl ncl1; cases a <;> cases b <;> decide) | (revert c163; clear hr hr2 e2 hP e41 ncl ncl1; cases a <;> cases b <;> decide)
    · obtain ⟨st2, e2⟩ := mRun0 hr
      rcases st with _ | ⟨b, _ | ⟨a, st⟩⟩
      · unfold mStp at e2; rw [if_neg (show ¬ vi h (45, k) i = 3 by rw [z]; decide), if_neg (show ¬ vi h (45, k) i = 4 by rw [z]; decide), if_pos z] at e2; cases e2
      · unfold mStp at e2; rw [if_neg (show ¬ vi h (45, k) i = 3 by rw [z]; decide), if_neg (show ¬ vi h (45, k) i = 4 by rw [z]; decide), if_pos z] at e2; cases e2
      have hr2 := mRun1 (st' := (a || b) :: st) (by unfold mStp; rw [if_neg (show ¬ vi h (45, k) i = 3 by rw [z]; decide), if_neg (show ¬ vi h (45, k) i = 4 by rw [z]; decide), if_pos z]) hr
      have hl : st.length + 2 ≤ i := hsi
      have ncl : (nI st.length).toNatClampNeg = st.length := nI_clamp (by omega)
      have ncl1 : (nI (st.length + 1)).toNatClampNeg = st.length + 1 := nI_clamp (by omega)
      have e41 : nI (b :: a :: st).length + Int32.ofInt (-1) = nI (st.length + 1) := nI_im (st.length + 1)
      refine v_iload dX14_holds_24 rfl ?_
      refine v_aload_n dX14_holds_26 rfl ?_
      refine v_getR (some (43, k)) fl_X14_242 dX14_holds_27 rfl rfl (Nat.le_of_ble_eq_true rfl) hk'.1 hk'.2.2.2.1.2.2.2.1 ?_
      refine v_aload_n dX14_holds_30 rfl ?_
      refine v_getI fl_X14_298 dX14_holds_31 rfl rfl (Nat.le_of_ble_eq_true rfl) (mh_32_0 hM') ?_
      rw [e21]
      refine v_iald dX14_holds_34 rfl (Nat.le_of_ble_eq_true rfl) hk'.2.2.1.2.2.2.1 (by rw [hk'.2.2.2.2.1.2.2.2.1]; exact vp_in_nI (by omega) (by decide)) ?_
      rw [ncc, q.v (by decide) (by decide), et]
      refine v_icmp_ge 297 dX14_holds_35 (by decide) (fun z => absurd z (nI_ge (by omega) (by omega))) (fun _ => ?_)
      refine v_aload_n dX14_holds_38 rfl ?_
      refine v_getR (some (45, k)) fl_X14_327 dX14_holds_39 rfl rfl (Nat.le_of_ble_eq_true rfl) hk'.1 hk'.2.2.2.1.2.2.2.2.2.1 ?_
      refine v_iload dX14_holds_42 rfl ?_
      refine v_iald dX14_holds_44 rfl (Nat.le_of_ble_eq_true rfl) hk'.2.2.1.2.2.2.2.2.1 (by rw [hk'.2.2.2.2.1.2.2.2.2.2.1]; exact vp_in_nI (by omega) (by decide)) ?_
      rw [nci, eS, z]
      refine v_tableIn 143 dX14_holds_45 (by decide) (by decide) (by rfl) (by decide) ?_
      refine v_iinc _ dX14_holds_143 rfl rfl (by decide) ?_
      rw [e41]
      refine v_aload_n dX14_holds_146 rfl ?_
      refine v_getR (some (39, 1)) fl_X14_70 dX14_holds_147 rfl rfl (Nat.le_of_ble_eq_true rfl) (mh_32_0 hM') (mr_32_0_35 hM') ?_
      refine v_iload dX14_holds_150 rfl ?_
      refine v_iconst (1) dX14_holds_152 (by decide) ?_
      refine v_isub dX14_holds_153 ?_
      rw [nI_dec]
      refine v_aload_n dX14_holds_154 rfl ?_
      refine v_getR (some (39, 1)) fl_X14_70 dX14_holds_155 rfl rfl (Nat.le_of_ble_eq_true rfl) (mh_32_0 hM') (mr_32_0_35 hM') ?_
      refine v_iload dX14_holds_158 rfl ?_
      refine v_iconst (1) dX14_holds_160 (by decide) ?_
      refine v_isub dX14_holds_161 ?_
      rw [nI_dec]
      refine v_zald dX14_holds_162 rfl (Nat.le_of_ble_eq_true rfl) (mh_39_1 hM') (by rw [ml_39_1 hM']; exact vp_in_nI (n := st.length) (by omega) (by decide)) ?_
      rw [ncl, show vi h' (39, 1) st.length = b2 a from hP.2.1]
      refine v_if_ne 176 dX14_holds_163 (by decide) (fun c163 => ?_) (fun c163 => ?_)
      · refine v_iconst (1) dX14_holds_176 (by decide) ?_
        refine v_goto 181 dX14_holds_177 (by decide) ?_
        refine v_zast dX14_holds_181 rfl (Nat.le_of_ble_eq_true rfl) (mh_39_1 hM') (by rw [ml_39_1 hM']; exact vp_in_nI (n := st.length) (by omega) (by decide)) ?_
        rw [ncl]
        refine v_goto 291 dX14_holds_182 (by decide) ?_
        refine v_iinc _ dX14_holds_291 rfl rfl (by decide) ?_
        refine v_goto 24 dX14_holds_294 (by decide) ?_
        refine v_loc [(0, pR (32, 0)), (1, pI (nI p)), (2, pI d), (3, pR (33, k)), (4, pI (nI (st.length + 1))), (5, pI (nI i + 1))] rfl ?_
        refine ih (i + 1) ((a || b) :: st) _ _ _ (by omega) (by omega) (by show st.length + 1 ≤ i + 1; omega) (nI_1 i) rfl (q.pile _ _) (by rw [vi_sI_ne _ _ _ _ (by decide)]; exact e21) (Pil_put hP.2.2 ?_) hr2
        clear ih
        first | (rw [b2_ne] at c121 c131) | (rw [b2_ne] at c121) | (rw [b2_ne] at c163 c173) | (rw [b2_ne] at c163)
        first | (revert c121 c131; clear hr hr2 e2 hP e41 ncl ncl1; cases a <;> cases b <;> decide) | (revert c121; clear hr hr2 e2 hP e41 ncl ncl1; cases a <;> cases b <;> decide) | (revert c163 c173; clear hr hr2 e2 hP e41 ncl ncl1; cases a <;> cases b <;> decide) | (revert c163; clear hr hr2 e2 hP e41 ncl ncl1; cases a <;> cases b <;> decide)
      · refine v_aload_n dX14_holds_166 rfl ?_
        refine v_getR (some (39, 1)) fl_X14_70 dX14_holds_167 rfl rfl (Nat.le_of_ble_eq_true rfl) (mh_32_0 hM') (mr_32_0_35 hM') ?_
        refine v_iload dX14_holds_170 rfl ?_
        refine v_zald dX14_holds_172 rfl (Nat.le_of_ble_eq_true rfl) (mh_39_1 hM') (by rw [ml_39_1 hM']; exact vp_in_nI (n := st.length + 1) (by omega) (by decide)) ?_
        rw [ncl1, show vi h' (39, 1) (st.length + 1) = b2 b from hP.1]
        refine v_if_eq 180 dX14_holds_173 (by decide) (fun c173 => ?_) (fun c173 => ?_)
        · refine v_iconst (0) dX14_holds_180 (by decide) ?_
          refine v_zast dX14_holds_181 rfl (Nat.le_of_ble_eq_true rfl) (mh_39_1 hM') (by rw [ml_39_1 hM']; exact vp_in_nI (n := st.length) (by omega) (by decide)) ?_
          rw [ncl]
          refine v_goto 291 dX14_holds_182 (by decide) ?_
          refine v_iinc _ dX14_holds_291 rfl rfl (by decide) ?_
          refine v_goto 24 dX14_holds_294 (by decide) ?_
          refine v_loc [(0, pR (32, 0)), (1, pI (nI p)), (2, pI d), (3, pR (33, k)), (4, pI (nI (st.length + 1))), (5, pI (nI i + 1))] rfl ?_
          refine ih (i + 1) ((a || b) :: st) _ _ _ (by omega) (by omega) (by show st.length + 1 ≤ i + 1; omega) (nI_1 i) rfl (q.pile _ _) (by rw [vi_sI_ne _ _ _ _ (by decide)]; exact e21) (Pil_put hP.2.2 ?_) hr2
          clear ih
          first | (rw [b2_ne] at c121 c131) | (rw [b2_ne] at c121) | (rw [b2_ne] at c163 c173) | (rw [b2_ne] at c163)
          first | (revert c121 c131; clear hr hr2 e2 hP e41 ncl ncl1; cases a <;> cases b <;> decide) | (revert c121; clear hr hr2 e2 hP e41 ncl ncl1; cases a <;> cases b <;> decide) | (revert c163 c173; clear hr hr2 e2 hP e41 ncl ncl1; cases a <;> cases b <;> decide) | (revert c163; clear hr hr2 e2 hP e41 ncl ncl1; cases a <;> cases b <;> decide)
        · refine v_iconst (1) dX14_holds_176 (by decide) ?_
          refine v_goto 181 dX14_holds_177 (by decide) ?_
          refine v_zast dX14_holds_181 rfl (Nat.le_of_ble_eq_true rfl) (mh_39_1 hM') (by rw [ml_39_1 hM']; exact vp_in_nI (n := st.length) (by omega) (by decide)) ?_
          rw [ncl]
          refine v_goto 291 dX14_holds_182 (by decide) ?_
          refine v_iinc _ dX14_holds_291 rfl rfl (by decide) ?_
          refine v_goto 24 dX14_holds_294 (by decide) ?_
          refine v_loc [(0, pR (32, 0)), (1, pI (nI p)), (2, pI d), (3, pR (33, k)), (4, pI (nI (st.length + 1))), (5, pI (nI i + 1))] rfl ?_
          refine ih (i + 1) ((a || b) :: st) _ _ _ (by omega) (by omega) (by show st.length + 1 ≤ i + 1; omega) (nI_1 i) rfl (q.pile _ _) (by rw [vi_sI_ne _ _ _ _ (by decide)]; exact e21) (Pil_put hP.2.2 ?_) hr2
          clear ih
          first | (rw [b2_ne] at c121 c131) | (rw [b2_ne] at c121) | (rw [b2_ne] at c163 c173) | (rw [b2_ne] at c163)
          first | (revert c121 c131; clear hr hr2 e2 hP e41 ncl ncl1; cases a <;> cases b <;> decide) | (revert c121; clear hr hr2 e2 hP e41 ncl ncl1; cases a <;> cases b <;> decide) | (revert c163 c173; clear hr hr2 e2 hP e41 ncl ncl1; cases a <;> cases b <;> decide) | (revert c163; clear hr hr2 e2 hP e41 ncl ncl1; cases a <;> cases b <;> decide)
    · have ncl : (nI st.length).toNatClampNeg = st.length := nI_clamp (by omega)
      have hr2 := mRun1 (st' := mCmp (vi h (45, k) i) (mFc h p m d) (vi h (47, k) i) :: st) (by unfold mStp; rw [if_neg (show ¬ vi h (45, k) i = 3 by rcases z with z | z | z <;> (rw [z]; decide)), if_neg (show ¬ vi h (45, k) i = 4 by rcases z with z | z | z <;> (rw [z]; decide)), if_neg (show ¬ vi h (45, k) i = 5 by rcases z with z | z | z <;> (rw [z]; decide)), em, nI_clamp (by omega)]) hr
      rcases z with z | z | z
      · refine v_iload dX14_holds_24 rfl ?_
        refine v_aload_n dX14_holds_26 rfl ?_
        refine v_getR (some (43, k)) fl_X14_242 dX14_holds_27 rfl rfl (Nat.le_of_ble_eq_true rfl) hk'.1 hk'.2.2.2.1.2.2.2.1 ?_
        refine v_aload_n dX14_holds_30 rfl ?_
        refine v_getI fl_X14_298 dX14_holds_31 rfl rfl (Nat.le_of_ble_eq_true rfl) (mh_32_0 hM') ?_
        rw [e21]
        refine v_iald dX14_holds_34 rfl (Nat.le_of_ble_eq_true rfl) hk'.2.2.1.2.2.2.1 (by rw [hk'.2.2.2.2.1.2.2.2.1]; exact vp_in_nI (by omega) (by decide)) ?_
        rw [ncc, q.v (by decide) (by decide), et]
        refine v_icmp_ge 297 dX14_holds_35 (by decide) (fun z => absurd z (nI_ge (by omega) (by omega))) (fun _ => ?_)
        refine v_aload_n dX14_holds_38 rfl ?_
        refine v_getR (some (45, k)) fl_X14_327 dX14_holds_39 rfl rfl (Nat.le_of_ble_eq_true rfl) hk'.1 hk'.2.2.2.1.2.2.2.2.2.1 ?_
        refine v_iload dX14_holds_42 rfl ?_
        refine v_iald dX14_holds_44 rfl (Nat.le_of_ble_eq_true rfl) hk'.2.2.1.2.2.2.2.2.1 (by rw [hk'.2.2.2.2.1.2.2.2.2.2.1]; exact vp_in_nI (by omega) (by decide)) ?_
        rw [nci, eS, z]
        refine v_tableOut 185 dX14_holds_45 (by decide) (by decide) ?_
        refine v_aload_n dX14_holds_185 rfl ?_
        refine v_iload_n dX14_holds_186 rfl ?_
        refine v_iload_n dX14_holds_187 rfl ?_
        refine v_aload_n dX14_holds_188 rfl ?_
        refine v_getR (some (46, k)) fl_X14_330 dX14_holds_189 rfl rfl (Nat.le_of_ble_eq_true rfl) hk'.1 hk'.2.2.2.1.2.2.2.2.2.2.1 ?_
        refine v_iload dX14_holds_192 rfl ?_
        refine v_iald dX14_holds_194 rfl (Nat.le_of_ble_eq_true rfl) hk'.2.2.1.2.2.2.2.2.2.1 (by rw [hk'.2.2.2.2.1.2.2.2.2.2.2.1]; exact vp_in_nI (by omega) (by decide)) ?_
        rw [nci, eN, em]
        refine v_invVE (M_factQ g h hJ q hp hm) dX14_holds_195 cwX14_factOf mlX14_323 (ob_32 _) rfl rfl (by decide) (by decide) (Nat.le_of_ble_eq_true rfl) ?_
        refine v_istore dX14_holds_198 (by decide) ?_
        refine v_aload_n dX14_holds_200 rfl ?_
        refine v_getR (some (39, 1)) fl_X14_70 dX14_holds_201 rfl rfl (Nat.le_of_ble_eq_true rfl) (mh_32_0 hM') (mr_32_0_35 hM') ?_
        refine v_iload dX14_holds_204 rfl ?_
        refine v_aload_n dX14_holds_206 rfl ?_
        refine v_getR (some (45, k)) fl_X14_327 dX14_holds_207 rfl rfl (Nat.le_of_ble_eq_true rfl) hk'.1 hk'.2.2.2.1.2.2.2.2.2.1 ?_
        refine v_iload dX14_holds_210 rfl ?_
        refine v_iald dX14_holds_212 rfl (Nat.le_of_ble_eq_true rfl) hk'.2.2.1.2.2.2.2.2.1 (by rw [hk'.2.2.2.2.1.2.2.2.2.2.1]; exact vp_in_nI (by omega) (by decide)) ?_
        rw [nci, eS, z]
        refine v_if_ne 236 dX14_holds_213 (by decide) (fun z => absurd rfl z) (fun _ => ?_)
        refine v_iload dX14_holds_216 rfl ?_
        refine v_aload_n dX14_holds_218 rfl ?_
        refine v_getR (some (47, k)) fl_X14_333 dX14_holds_219 rfl rfl (Nat.le_of_ble_eq_true rfl) hk'.1 hk'.2.2.2.1.2.2.2.2.2.2.2.1 ?_
        refine v_iload dX14_holds_222 rfl ?_
        refine v_iald dX14_holds_224 rfl (Nat.le_of_ble_eq_true rfl) hk'.2.2.1.2.2.2.2.2.2.2.1 (by rw [hk'.2.2.2.2.1.2.2.2.2.2.2.2.1]; exact vp_in_nI (by omega) (by decide)) ?_
        rw [nci, eT]
        refine v_icmp_ge 232 dX14_holds_225 (by decide) (fun c225 => ?_) (fun c225 => ?_)
        · refine v_iconst (0) dX14_holds_232 (by decide) ?_
          refine v_goto 284 dX14_holds_233 (by decide) ?_
          refine v_zast dX14_holds_284 rfl (Nat.le_of_ble_eq_true rfl) (mh_39_1 hM') (by rw [ml_39_1 hM']; exact vp_in_nI (n := st.length) (by omega) (by decide)) ?_
          rw [ncl]
          refine v_iinc _ dX14_holds_285 rfl rfl (by decide) ?_
          refine v_goto 291 dX14_holds_288 (by decide) ?_
          refine v_iinc _ dX14_holds_291 rfl rfl (by decide) ?_
          refine v_goto 24 dX14_holds_294 (by decide) ?_
          rw [z] at hr2
          refine v_loc [(0, pR (32, 0)), (1, pI (nI p)), (2, pI d), (3, pR (33, k)), (4, pI (nI st.length + 1)), (5, pI (nI i + 1))] rfl ?_
          refine ih (i + 1) (_ :: st) _ _ _ (by omega) (by omega) (by show st.length + 1 ≤ i + 1; omega) (nI_1 i) (nI_1 st.length) (q.pile _ _) (by rw [vi_sI_ne _ _ _ _ (by decide)]; exact e21) (Pil_put hP ?_) hr2
          rw [mCmp, if_pos rfl]
          first | (rw [decide_eq_true (Int32.not_le.mp c225)]; rfl) | (rw [decide_eq_false (Int32.not_lt.mpr c225)]; rfl)
        · refine v_iconst (1) dX14_holds_228 (by decide) ?_
          refine v_goto 284 dX14_holds_229 (by decide) ?_
          refine v_zast dX14_holds_284 rfl (Nat.le_of_ble_eq_true rfl) (mh_39_1 hM') (by rw [ml_39_1 hM']; exact vp_in_nI (n := st.length) (by omega) (by decide)) ?_
          rw [ncl]
          refine v_iinc _ dX14_holds_285 rfl rfl (by decide) ?_
          refine v_goto 291 dX14_holds_288 (by decide) ?_
          refine v_iinc _ dX14_holds_291 rfl rfl (by decide) ?_
          refine v_goto 24 dX14_holds_294 (by decide) ?_
          rw [z] at hr2
          refine v_loc [(0, pR (32, 0)), (1, pI (nI p)), (2, pI d), (3, pR (33, k)), (4, pI (nI st.length + 1)), (5, pI (nI i + 1))] rfl ?_
          refine ih (i + 1) (_ :: st) _ _ _ (by omega) (by omega) (by show st.length + 1 ≤ i + 1; omega) (nI_1 i) (nI_1 st.length) (q.pile _ _) (by rw [vi_sI_ne _ _ _ _ (by decide)]; exact e21) (Pil_put hP ?_) hr2
          rw [mCmp, if_pos rfl]
          first | (rw [decide_eq_true (Int32.not_le.mp c225)]; rfl) | (rw [decide_eq_false (Int32.not_lt.mpr c225)]; rfl)
      · refine v_iload dX14_holds_24 rfl ?_
        refine v_aload_n dX14_holds_26 rfl ?_
        refine v_getR (some (43, k)) fl_X14_242 dX14_holds_27 rfl rfl (Nat.le_of_ble_eq_true rfl) hk'.1 hk'.2.2.2.1.2.2.2.1 ?_
        refine v_aload_n dX14_holds_30 rfl ?_
        refine v_getI fl_X14_298 dX14_holds_31 rfl rfl (Nat.le_of_ble_eq_true rfl) (mh_32_0 hM') ?_
        rw [e21]
        refine v_iald dX14_holds_34 rfl (Nat.le_of_ble_eq_true rfl) hk'.2.2.1.2.2.2.1 (by rw [hk'.2.2.2.2.1.2.2.2.1]; exact vp_in_nI (by omega) (by decide)) ?_
        rw [ncc, q.v (by decide) (by decide), et]
        refine v_icmp_ge 297 dX14_holds_35 (by decide) (fun z => absurd z (nI_ge (by omega) (by omega))) (fun _ => ?_)
        refine v_aload_n dX14_holds_38 rfl ?_
        refine v_getR (some (45, k)) fl_X14_327 dX14_holds_39 rfl rfl (Nat.le_of_ble_eq_true rfl) hk'.1 hk'.2.2.2.1.2.2.2.2.2.1 ?_
        refine v_iload dX14_holds_42 rfl ?_
        refine v_iald dX14_holds_44 rfl (Nat.le_of_ble_eq_true rfl) hk'.2.2.1.2.2.2.2.2.1 (by rw [hk'.2.2.2.2.1.2.2.2.2.2.1]; exact vp_in_nI (by omega) (by decide)) ?_
        rw [nci, eS, z]
        refine v_tableOut 185 dX14_holds_45 (by decide) (by decide) ?_
        refine v_aload_n dX14_holds_185 rfl ?_
        refine v_iload_n dX14_holds_186 rfl ?_
        refine v_iload_n dX14_holds_187 rfl ?_
        refine v_aload_n dX14_holds_188 rfl ?_
        refine v_getR (some (46, k)) fl_X14_330 dX14_holds_189 rfl rfl (Nat.le_of_ble_eq_true rfl) hk'.1 hk'.2.2.2.1.2.2.2.2.2.2.1 ?_
        refine v_iload dX14_holds_192 rfl ?_
        refine v_iald dX14_holds_194 rfl (Nat.le_of_ble_eq_true rfl) hk'.2.2.1.2.2.2.2.2.2.1 (by rw [hk'.2.2.2.2.1.2.2.2.2.2.2.1]; exact vp_in_nI (by omega) (by decide)) ?_
        rw [nci, eN, em]
        refine v_invVE (M_factQ g h hJ q hp hm) dX14_holds_195 cwX14_factOf mlX14_323 (ob_32 _) rfl rfl (by decide) (by decide) (Nat.le_of_ble_eq_true rfl) ?_
        refine v_istore dX14_holds_198 (by decide) ?_
        refine v_aload_n dX14_holds_200 rfl ?_
        refine v_getR (some (39, 1)) fl_X14_70 dX14_holds_201 rfl rfl (Nat.le_of_ble_eq_true rfl) (mh_32_0 hM') (mr_32_0_35 hM') ?_
        refine v_iload dX14_holds_204 rfl ?_
        refine v_aload_n dX14_holds_206 rfl ?_
        refine v_getR (some (45, k)) fl_X14_327 dX14_holds_207 rfl rfl (Nat.le_of_ble_eq_true rfl) hk'.1 hk'.2.2.2.1.2.2.2.2.2.1 ?_
        refine v_iload dX14_holds_210 rfl ?_
        refine v_iald dX14_holds_212 rfl (Nat.le_of_ble_eq_true rfl) hk'.2.2.1.2.2.2.2.2.1 (by rw [hk'.2.2.2.2.1.2.2.2.2.2.1]; exact vp_in_nI (by omega) (by decide)) ?_
        rw [nci, eS, z]
        refine v_if_ne 236 dX14_holds_213 (by decide) (fun _ => ?_) (fun z => absurd z (by decide))
        refine v_aload_n dX14_holds_236 rfl ?_
        refine v_getR (some (45, k)) fl_X14_327 dX14_holds_237 rfl rfl (Nat.le_of_ble_eq_true rfl) hk'.1 hk'.2.2.2.1.2.2.2.2.2.1 ?_
        refine v_iload dX14_holds_240 rfl ?_
        refine v_iald dX14_holds_242 rfl (Nat.le_of_ble_eq_true rfl) hk'.2.2.1.2.2.2.2.2.1 (by rw [hk'.2.2.2.2.1.2.2.2.2.2.1]; exact vp_in_nI (by omega) (by decide)) ?_
        rw [nci, eS, z]
        refine v_iconst (1) dX14_holds_243 (by decide) ?_
        refine v_icmp_ne 267 dX14_holds_244 (by decide) (fun z => absurd rfl z) (fun _ => ?_)
        refine v_iload dX14_holds_247 rfl ?_
        refine v_aload_n dX14_holds_249 rfl ?_
        refine v_getR (some (47, k)) fl_X14_333 dX14_holds_250 rfl rfl (Nat.le_of_ble_eq_true rfl) hk'.1 hk'.2.2.2.1.2.2.2.2.2.2.2.1 ?_
        refine v_iload dX14_holds_253 rfl ?_
        refine v_iald dX14_holds_255 rfl (Nat.le_of_ble_eq_true rfl) hk'.2.2.1.2.2.2.2.2.2.2.1 (by rw [hk'.2.2.2.2.1.2.2.2.2.2.2.2.1]; exact vp_in_nI (by omega) (by decide)) ?_
        rw [nci, eT]
        refine v_icmp_le 263 dX14_holds_256 (by decide) (fun c256 => ?_) (fun c256 => ?_)
        · refine v_iconst (0) dX14_holds_263 (by decide) ?_
          refine v_goto 284 dX14_holds_264 (by decide) ?_
          refine v_zast dX14_holds_284 rfl (Nat.le_of_ble_eq_true rfl) (mh_39_1 hM') (by rw [ml_39_1 hM']; exact vp_in_nI (n := st.length) (by omega) (by decide)) ?_
          rw [ncl]
          refine v_iinc _ dX14_holds_285 rfl rfl (by decide) ?_
          refine v_goto 291 dX14_holds_288 (by decide) ?_
          refine v_iinc _ dX14_holds_291 rfl rfl (by decide) ?_
          refine v_goto 24 dX14_holds_294 (by decide) ?_
          rw [z] at hr2
          refine v_loc [(0, pR (32, 0)), (1, pI (nI p)), (2, pI d), (3, pR (33, k)), (4, pI (nI st.length + 1)), (5, pI (nI i + 1))] rfl ?_
          refine ih (i + 1) (_ :: st) _ _ _ (by omega) (by omega) (by show st.length + 1 ≤ i + 1; omega) (nI_1 i) (nI_1 st.length) (q.pile _ _) (by rw [vi_sI_ne _ _ _ _ (by decide)]; exact e21) (Pil_put hP ?_) hr2
          rw [mCmp, if_neg (by decide), if_pos rfl]
          first | (rw [decide_eq_true (Int32.not_le.mp c256)]; rfl) | (rw [decide_eq_false (Int32.not_lt.mpr c256)]; rfl)
        · refine v_iconst (1) dX14_holds_259 (by decide) ?_
          refine v_goto 284 dX14_holds_260 (by decide) ?_
          refine v_zast dX14_holds_284 rfl (Nat.le_of_ble_eq_true rfl) (mh_39_1 hM') (by rw [ml_39_1 hM']; exact vp_in_nI (n := st.length) (by omega) (by decide)) ?_
          rw [ncl]
          refine v_iinc _ dX14_holds_285 rfl rfl (by decide) ?_
          refine v_goto 291 dX14_holds_288 (by decide) ?_
          refine v_iinc _ dX14_holds_291 rfl rfl (by decide) ?_
          refine v_goto 24 dX14_holds_294 (by decide) ?_
          rw [z] at hr2
          refine v_loc [(0, pR (32, 0)), (1, pI (nI p)), (2, pI d), (3, pR (33, k)), (4, pI (nI st.length + 1)), (5, pI (nI i + 1))] rfl ?_
          refine ih (i + 1) (_ :: st) _ _ _ (by omega) (by omega) (by show st.length + 1 ≤ i + 1; omega) (nI_1 i) (nI_1 st.length) (q.pile _ _) (by rw [vi_sI_ne _ _ _ _ (by decide)]; exact e21) (Pil_put hP ?_) hr2
          rw [mCmp, if_neg (by decide), if_pos rfl]
          first | (rw [decide_eq_true (Int32.not_le.mp c256)]; rfl) | (rw [decide_eq_false (Int32.not_lt.mpr c256)]; rfl)
      · refine v_iload dX14_holds_24 rfl ?_
        refine v_aload_n dX14_holds_26 rfl ?_
        refine v_getR (some (43, k)) fl_X14_242 dX14_holds_27 rfl rfl (Nat.le_of_ble_eq_true rfl) hk'.1 hk'.2.2.2.1.2.2.2.1 ?_
        refine v_aload_n dX14_holds_30 rfl ?_
        refine v_getI fl_X14_298 dX14_holds_31 rfl rfl (Nat.le_of_ble_eq_true rfl) (mh_32_0 hM') ?_
        rw [e21]
        refine v_iald dX14_holds_34 rfl (Nat.le_of_ble_eq_true rfl) hk'.2.2.1.2.2.2.1 (by rw [hk'.2.2.2.2.1.2.2.2.1]; exact vp_in_nI (by omega) (by decide)) ?_
        rw [ncc, q.v (by decide) (by decide), et]
        refine v_icmp_ge 297 dX14_holds_35 (by decide) (fun z => absurd z (nI_ge (by omega) (by omega))) (fun _ => ?_)
        refine v_aload_n dX14_holds_38 rfl ?_
        refine v_getR (some (45, k)) fl_X14_327 dX14_holds_39 rfl rfl (Nat.le_of_ble_eq_true rfl) hk'.1 hk'.2.2.2.1.2.2.2.2.2.1 ?_
        refine v_iload dX14_holds_42 rfl ?_
        refine v_iald dX14_holds_44 rfl (Nat.le_of_ble_eq_true rfl) hk'.2.2.1.2.2.2.2.2.1 (by rw [hk'.2.2.2.2.1.2.2.2.2.2.1]; exact vp_in_nI (by omega) (by decide)) ?_
        rw [nci, eS, z]
        refine v_tableOut 185 dX14_holds_45 (by decide) (by decide) ?_
        refine v_aload_n dX14_holds_185 rfl ?_
        refine v_iload_n dX14_holds_186 rfl ?_
        refine v_iload_n dX14_holds_187 rfl ?_
        refine v_aload_n dX14_holds_188 rfl ?_
        refine v_getR (some (46, k)) fl_X14_330 dX14_holds_189 rfl rfl (Nat.le_of_ble_eq_true rfl) hk'.1 hk'.2.2.2.1.2.2.2.2.2.2.1 ?_
        refine v_iload dX14_holds_192 rfl ?_
        refine v_iald dX14_holds_194 rfl (Nat.le_of_ble_eq_true rfl) hk'.2.2.1.2.2.2.2.2.2.1 (by rw [hk'.2.2.2.2.1.2.2.2.2.2.2.1]; exact vp_in_nI (by omega) (by decide)) ?_
        rw [nci, eN, em]
        refine v_invVE (M_factQ g h hJ q hp hm) dX14_holds_195 cwX14_factOf mlX14_323 (ob_32 _) rfl rfl (by decide) (by decide) (Nat.le_of_ble_eq_true rfl) ?_
        refine v_istore dX14_holds_198 (by decide) ?_
        refine v_aload_n dX14_holds_200 rfl ?_
        refine v_getR (some (39, 1)) fl_X14_70 dX14_holds_201 rfl rfl (Nat.le_of_ble_eq_true rfl) (mh_32_0 hM') (mr_32_0_35 hM') ?_
        refine v_iload dX14_holds_204 rfl ?_
        refine v_aload_n dX14_holds_206 rfl ?_
        refine v_getR (some (45, k)) fl_X14_327 dX14_holds_207 rfl rfl (Nat.le_of_ble_eq_true rfl) hk'.1 hk'.2.2.2.1.2.2.2.2.2.1 ?_
        refine v_iload dX14_holds_210 rfl ?_
        refine v_iald dX14_holds_212 rfl (Nat.le_of_ble_eq_true rfl) hk'.2.2.1.2.2.2.2.2.1 (by rw [hk'.2.2.2.2.1.2.2.2.2.2.1]; exact vp_in_nI (by omega) (by decide)) ?_
        rw [nci, eS, z]
        refine v_if_ne 236 dX14_holds_213 (by decide) (fun _ => ?_) (fun z => absurd z (by decide))
        refine v_aload_n dX14_holds_236 rfl ?_
        refine v_getR (some (45, k)) fl_X14_327 dX14_holds_237 rfl rfl (Nat.le_of_ble_eq_true rfl) hk'.1 hk'.2.2.2.1.2.2.2.2.2.1 ?_
        refine v_iload dX14_holds_240 rfl ?_
        refine v_iald dX14_holds_242 rfl (Nat.le_of_ble_eq_true rfl) hk'.2.2.1.2.2.2.2.2.1 (by rw [hk'.2.2.2.2.1.2.2.2.2.2.1]; exact vp_in_nI (by omega) (by decide)) ?_
        rw [nci, eS, z]
        refine v_iconst (1) dX14_holds_243 (by decide) ?_
        refine v_icmp_ne 267 dX14_holds_244 (by decide) (fun _ => ?_) (fun z => absurd z (by decide))
        refine v_iload dX14_holds_267 rfl ?_
        refine v_aload_n dX14_holds_269 rfl ?_
        refine v_getR (some (47, k)) fl_X14_333 dX14_holds_270 rfl rfl (Nat.le_of_ble_eq_true rfl) hk'.1 hk'.2.2.2.1.2.2.2.2.2.2.2.1 ?_
        refine v_iload dX14_holds_273 rfl ?_
        refine v_iald dX14_holds_275 rfl (Nat.le_of_ble_eq_true rfl) hk'.2.2.1.2.2.2.2.2.2.2.1 (by rw [hk'.2.2.2.2.1.2.2.2.2.2.2.2.1]; exact vp_in_nI (by omega) (by decide)) ?_
        rw [nci, eT]
        refine v_icmp_ne 283 dX14_holds_276 (by decide) (fun c276 => ?_) (fun c276 => ?_)
        · refine v_iconst (0) dX14_holds_283 (by decide) ?_
          refine v_zast dX14_holds_284 rfl (Nat.le_of_ble_eq_true rfl) (mh_39_1 hM') (by rw [ml_39_1 hM']; exact vp_in_nI (n := st.length) (by omega) (by decide)) ?_
          rw [ncl]
          refine v_iinc _ dX14_holds_285 rfl rfl (by decide) ?_
          refine v_goto 291 dX14_holds_288 (by decide) ?_
          refine v_iinc _ dX14_holds_291 rfl rfl (by decide) ?_
          refine v_goto 24 dX14_holds_294 (by decide) ?_
          rw [z] at hr2
          refine v_loc [(0, pR (32, 0)), (1, pI (nI p)), (2, pI d), (3, pR (33, k)), (4, pI (nI st.length + 1)), (5, pI (nI i + 1))] rfl ?_
          refine ih (i + 1) (_ :: st) _ _ _ (by omega) (by omega) (by show st.length + 1 ≤ i + 1; omega) (nI_1 i) (nI_1 st.length) (q.pile _ _) (by rw [vi_sI_ne _ _ _ _ (by decide)]; exact e21) (Pil_put hP ?_) hr2
          rw [mCmp, if_neg (by decide), if_neg (by decide)]
          first | (rw [decide_eq_true c276]; rfl) | (rw [decide_eq_false c276]; rfl)
        · refine v_iconst (1) dX14_holds_279 (by decide) ?_
          refine v_goto 284 dX14_holds_280 (by decide) ?_
          refine v_zast dX14_holds_284 rfl (Nat.le_of_ble_eq_true rfl) (mh_39_1 hM') (by rw [ml_39_1 hM']; exact vp_in_nI (n := st.length) (by omega) (by decide)) ?_
          rw [ncl]
          refine v_iinc _ dX14_holds_285 rfl rfl (by decide) ?_
          refine v_goto 291 dX14_holds_288 (by decide) ?_
          refine v_iinc _ dX14_holds_291 rfl rfl (by decide) ?_
          refine v_goto 24 dX14_holds_294 (by decide) ?_
          rw [z] at hr2
          refine v_loc [(0, pR (32, 0)), (1, pI (nI p)), (2, pI d), (3, pR (33, k)), (4, pI (nI st.length + 1)), (5, pI (nI i + 1))] rfl ?_
          refine ih (i + 1) (_ :: st) _ _ _ (by omega) (by omega) (by show st.length + 1 ≤ i + 1; omega) (nI_1 i) (nI_1 st.length) (q.pile _ _) (by rw [vi_sI_ne _ _ _ _ (by decide)]; exact e21) (Pil_put hP ?_) hr2
          rw [mCmp, if_neg (by decide), if_neg (by decide)]
          first | (rw [decide_eq_true c276]; rfl) | (rw [decide_eq_false c276]; rfl)
