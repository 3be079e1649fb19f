/-! the reference while it reads a scheme k -/
def RLs (h : Hp) (k : Nat) : List mOp → Prop
  | [] => True
  | p :: r => vi h (45, k) r.length = p.1 ∧ vi h (46, k) r.length = p.2.1 ∧ vi h (47, k) r.length = p.2.2 ∧ RLs h k r
def fPs (k : Nat) : Fpt := (fun _ => true, fun _ => true, fun _ => true, fun p => !(p == 32), fun p i f => !(p == 32 && (Nat.ble 12 f && Nat.ble f 18)) && !(p == 35) && !(p == 33 && i == k && f == 3) && !(Nat.ble 45 p && Nat.blt p 48 && i == k))
theorem RLs_c {h h' : Hp} {k : Nat} (e5 : ∀ i, vi h' (45, k) i = vi h (45, k) i) (e6 : ∀ i, vi h' (46, k) i = vi h (46, k) i) (e7 : ∀ i, vi h' (47, k) i = vi h (47, k) i) : ∀ (l : List mOp), RLs h k l → RLs h' k l
  | [], _ => trivial
  | p :: r, z => ⟨by rw [e5]; exact z.1, by rw [e6]; exact z.2.1, by rw [e7]; exact z.2.2.1, RLs_c e5 e6 e7 r z.2.2.2⟩
/-- token at q, depth, comparisons, the signs written (the last one first) -/
def RS (h : Hp) (k : Nat) (b : Nat → Int32) (e q dp cp : Nat) (rl : List mOp) : Prop := SM h ∧ SK h k ∧ vi h (32, 0) 11 = nI e ∧ (∀ i, i < e → mb h i = b i) ∧ TR h b e q ∧ vi h (32, 0) 17 = nI dp ∧ vi h (32, 0) 18 = nI cp ∧ vi h (33, k) 3 = nI rl.length ∧ RLs h k rl
theorem mb_pos (h : Hp) (i : Nat) : ¬ mb h i < 0 := by
  unfold mb
  generalize vi h (37, 0) i = x
  intro z
  have e : (x &&& 255).toBitVec.msb = true := by
    rw [Int32.lt_iff_toInt_lt, Int32.toInt_zero] at z
    have : (x &&& 255).toBitVec.toInt < 0 := z
    rw [BitVec.msb_eq_toInt]; exact decide_eq_true this
  rw [Int32.toBitVec_and, BitVec.msb_and] at e
  have k : (255 : Int32).toBitVec.msb = false := by decide
  rw [k, Bool.and_false] at e
  cases e
theorem TR_c {h : Hp} {b b' : Nat → Int32} {e q : Nat} (hb : ∀ i, i < e → b i = b' i) (he : e ≤ 300) (hq : q ≤ e) (t : TR h b e q) : TR h b' e q := by
  unfold TR at t ⊢
  rw [← tok_c hb he hq]; exact t
theorem SMmt {h : Hp} (m : SM h) (a s p x n : Int32) (w : Int64) : SM (mt h a s p x n w) := m
theorem mt_E (h : Hp) (k : Nat) (a s p x n : Int32) (w : Int64) : Eqv (fPs k) h (mt h a s p x n w) := by
  refine ⟨fun _ _ => rfl, fun _ _ _ => rfl, fun _ _ _ _ => rfl, fun p i f z => ?_, fun p i f z => ?_⟩
  · show (if ((p, i) : Ad) = (32, 0) ∧ f = 19 then w else vl h (p, i) f) = vl h (p, i) f
    rw [if_neg]; rintro ⟨y, -⟩; cases y; exact Bool.false_ne_true z
  · by_cases y : ((p, i) : Ad) = (32, 0)
    · cases y
      refine mt_f _ _ _ _ _ _ _ _ ⟨fun w => ?_, fun w => ?_, fun w => ?_, fun w => ?_, fun w => ?_⟩ <;> (subst w; exact Bool.false_ne_true z)
    · exact mt_o _ _ _ _ _ _ _ _ y
theorem M_nextR (g : G0) (h : Hp) {k : Nat} {b : Nat → Int32} {e q dp cp : Nat} {rl : List mOp} (r : RS h k b e q dp cp rl) (he : e ≤ 300) (hq : q ≤ e) (hk : ¬ (tok b e q).2.2.1 = 1) : Mx g yX14_next wX14_next 1 [pR (32, 0)] h 0 0 (fun rv h' => rv = none ∧ RS h' k b e (tok b e q).1 dp cp rl ∧ Eqv (fPs k) h h') noX := by
  obtain ⟨r1, r2, r3, r4, r5, r6, r7, r8, r9⟩ := r
  have q2 := tok_end (b := b) he hq
  refine Mx.mono ?_ (fun _ _ z => z) (M_next g h r1 r3 he q2 (r5.2.1 hk) (fun i _ => mb_pos h i))
  rintro rv h' ⟨rfl, rfl⟩
  have t := TR_of (h := h) (e := e) (q := (tok b e q).1) he q2 (n := vi h (32, 0) 16) (w := vl h (32, 0) 19)
  refine ⟨rfl, ⟨SMmt r1 _ _ _ _ _ _, ?_, ?_, fun i hi => ?_, TR_c r4 he q2 t, ?_, ?_, ?_, ?_⟩, mt_E _ _ _ _ _ _ _ _⟩
  · obtain ⟨a1, a2, a3, a4, a5, a6⟩ := r2
    exact ⟨a1, a2, a3, a4, a5, by rw [show vi (mtH h _ _) (33, k) 2 = vi h (33, k) 2 from mt_o _ _ _ _ _ _ _ _ (fun z => by cases z)]; exact a6⟩
  · exact (mt_f _ _ _ _ _ _ _ 11 (by decide)).trans r3
  · rw [← r4 i hi]; exact congrFun (mb_mt _ _ _ _ _ _ _) i
  · exact (mt_f _ _ _ _ _ _ _ 17 (by decide)).trans r6
  · exact (mt_f _ _ _ _ _ _ _ 18 (by decide)).trans r7
  · exact (mt_o _ _ _ _ _ _ _ 3 (fun z => by cases z)).trans r8
  · exact RLs_c (fun i => mt_o _ _ _ _ _ _ _ _ (fun z => by cases z)) (fun i => mt_o _ _ _ _ _ _ _ _ (fun z => by cases z)) (fun i => mt_o _ _ _ _ _ _ _ _ (fun z => by cases z)) _ r9
/-! blocks: a piece of code on both sides that leaves one and the same truth -/
def Blk (C : List Int32) (M : List mOp) : Prop := ∀ F F' : Nat → Int32, (∀ m, m < 5 → F m = F' m) → ∃ v, ∀ st, cRun F C.reverse st = some (v :: st) ∧ mRun F' M.reverse st = some (v :: st)
theorem cRun_app (F : Nat → Int32) : ∀ (A B : List Int32) (st : List Bool), cRun F (A ++ B) st = (cRun F A st).bind (cRun F B)
  | [], B, st => rfl
  | p :: A, B, st => by
    show (cStp F p st).bind (cRun F (A ++ B)) = ((cStp F p st).bind (cRun F A)).bind (cRun F B)
    cases cStp F p st with
    | none => rfl
    | some s => exact cRun_app F A B s
theorem mRun_app (F : Nat → Int32) : ∀ (A B : List mOp) (st : List Bool), mRun F (A ++ B) st = (mRun F A st).bind (mRun F B)
  | [], B, st => rfl
  | p :: A, B, st => by
    show (mStp F p st).bind (mRun F (A ++ B)) = ((mStp F p st).bind (mRun F A)).bind (mRun F B)
    cases mStp F p st with
    | none => rfl
    | some s => exact mRun_app F A B s
theorem nPs_app : ∀ (A B : List Int32), nPs (A ++ B) = nPs A + nPs B
  | [], B => (Nat.zero_add _).symm
  | p :: A, B => by show nPu p + nPs (A ++ B) = nPu p + nPs A + nPs B; rw [nPs_app A B]; omega
theorem c10 (F : Nat → Int32) (a : Bool) (r : List Bool) : cStp F 10 (a :: r) = some ((!a) :: r) := by unfold cStp; rw [if_pos (show xDoes 10 = 10 by decide)]
theorem c9 (F : Nat → Int32) (a b : Bool) (r : List Bool) : cStp F 9 (b :: a :: r) = some ((a && b) :: r) := by unfold cStp; rw [if_neg (show ¬ xDoes 9 = 10 by decide), if_pos (show xDoes 9 = 9 by decide)]
theorem c8 (F : Nat → Int32) (a b : Bool) (r : List Bool) : cStp F 8 (b :: a :: r) = some ((a || b) :: r) := by unfold cStp; rw [if_neg (show ¬ xDoes 8 = 10 by decide), if_neg (show ¬ xDoes 8 = 9 by decide), if_pos (show xDoes 8 = 8 by decide)]
theorem m3 (F : Nat → Int32) (x y : Int32) (a : Bool) (r : List Bool) : mStp F (3, x, y) (a :: r) = some ((!a) :: r) := by unfold mStp; rw [if_pos rfl]
theorem m4 (F : Nat → Int32) (x y : Int32) (a b : Bool) (r : List Bool) : mStp F (4, x, y) (b :: a :: r) = some ((a && b) :: r) := by unfold mStp; rw [if_neg (show ¬ (4 : Int32) = 3 by decide), if_pos rfl]
theorem m5 (F : Nat → Int32) (x y : Int32) (a b : Bool) (r : List Bool) : mStp F (5, x, y) (b :: a :: r) = some ((a || b) :: r) := by unfold mStp; rw [if_neg (show ¬ (5 : Int32) = 3 by decide), if_neg (show ¬ (5 : Int32) = 4 by decide), if_pos rfl]
/-- nots behind a block, on the class's side -/
theorem nots_run (F : Nat → Int32) : ∀ (i : Nat) (v : Bool) (st : List Bool), cRun F (List.replicate i 10) (v :: st) = some ((if i % 2 = 1 then !v else v) :: st)
  | 0, v, st => rfl
  | i + 1, v, st => by
    show (cStp F 10 (v :: st)).bind (cRun F (List.replicate i 10)) = _
    rw [c10]
    show cRun F (List.replicate i 10) ((!v) :: st) = _
    rw [nots_run F i (!v) st]
    by_cases z : i % 2 = 1
    · rw [if_pos z, if_neg (by omega), Bool.not_not]
    · rw [if_neg z, if_pos (by omega)]
theorem Blk.nots {C : List Int32} {M : List mOp} (b : Blk C M) (i : Nat) : Blk (List.replicate i 10 ++ C) ((if i % 2 = 1 then [(3, 0, 0)] else []) ++ M) := by
  intro F F' hF
  obtain ⟨v, hv⟩ := b F F' hF
  refine ⟨if i % 2 = 1 then !v else v, fun st => ⟨?_, ?_⟩⟩
  · rw [List.reverse_append, List.reverse_replicate, cRun_app, (hv st).1]
    exact nots_run F i v st
  · rw [List.reverse_append, mRun_app, (hv st).2]
    by_cases z : i % 2 = 1
    · rw [if_pos z, if_pos z]
      show (mStp F' (3, 0, 0) (v :: st)).bind (mRun F' []) = _
      rw [m3]; rfl
    · rw [if_neg z, if_neg z]; rfl
/-- two blocks joined by and -/
theorem Blk.and {C C' : List Int32} {M M' : List mOp} (b : Blk C M) (b' : Blk C' M') : Blk (9 :: (C' ++ C)) ((4, 0, 0) :: (M' ++ M)) := by
  intro F F' hF
  obtain ⟨v, hv⟩ := b F F' hF
  obtain ⟨v', hv'⟩ := b' F F' hF
  refine ⟨v && v', fun st => ⟨?_, ?_⟩⟩
  · rw [List.reverse_cons, List.reverse_append, cRun_app, cRun_app, (hv st).1]
    show ((cRun F C'.reverse (v :: st)).bind (cRun F [9])) = _
    rw [(hv' (v :: st)).1]
    show (cStp F 9 (v' :: v :: st)).bind (cRun F []) = _
    rw [c9]; rfl
  · rw [List.reverse_cons, List.reverse_append, mRun_app, mRun_app, (hv st).2]
    show ((mRun F' M'.reverse (v :: st)).bind (mRun F' [(4, 0, 0)])) = _
    rw [(hv' (v :: st)).2]
    show (mStp F' (4, 0, 0) (v' :: v :: st)).bind (mRun F' []) = _
    rw [m4]; rfl
/-- the class keeps its ors to the end: m of them are open over C -/
def OrB (m : Nat) (C : List Int32) (M : List mOp) : Prop := ∀ F F' : Nat → Int32, (∀ i, i < 5 → F i = F' i) → ∃ vs : List Bool, vs.length = m + 1 ∧ ∀ st, cRun F C.reverse st = some (vs ++ st) ∧ mRun F' M.reverse st = some (vs.any id :: st)
theorem Blk.or0 {C : List Int32} {M : List mOp} (b : Blk C M) : OrB 0 C M := by
  intro F F' hF
  obtain ⟨v, hv⟩ := b F F' hF
  exact ⟨[v], rfl, fun st => ⟨(hv st).1, by rw [(hv st).2]; simp⟩⟩
theorem OrB.or {m : Nat} {C C' : List Int32} {M M' : List mOp} (b : OrB m C M) (b' : Blk C' M') : OrB (m + 1) (C' ++ C) ((5, 0, 0) :: (M' ++ M)) := by
  intro F F' hF
  obtain ⟨vs, hl, hv⟩ := b F F' hF
  obtain ⟨v', hv'⟩ := b' F F' hF
  refine ⟨v' :: vs, by rw [List.length_cons, hl], fun st => ⟨?_, ?_⟩⟩
  · rw [List.reverse_append, cRun_app, (hv st).1]
    exact (hv' (vs ++ st)).1
  · rw [List.reverse_cons, List.reverse_append, mRun_app, mRun_app, (hv st).2]
    show ((mRun F' M'.reverse (vs.any id :: st)).bind (mRun F' [(5, 0, 0)])) = _
    rw [(hv' (vs.any id :: st)).2]
    show (mStp F' (5, 0, 0) (v' :: vs.any id :: st)).bind (mRun F' []) = _
    rw [m5]
    show some ((vs.any id || v') :: st) = some ((v' :: vs).any id :: st)
    rw [List.any_cons, Bool.or_comm]; rfl
theorem ors_run (F : Nat → Int32) : ∀ (m : Nat) (vs : List Bool) (st : List Bool), vs.length = m + 1 → cRun F (List.replicate m 8) (vs ++ st) = some (vs.any id :: st)
  | 0, [v], st, _ => by simp [cRun]
  | m + 1, v :: w :: vs, st, h => by
    show (cStp F 8 (v :: w :: (vs ++ st))).bind (cRun F (List.replicate m 8)) = _
    rw [c8]
    show cRun F (List.replicate m 8) (((w || v) :: vs) ++ st) = _
    rw [ors_run F m ((w || v) :: vs) st (by simp only [List.length_cons] at h ⊢; omega)]
    simp only [List.any_cons, id]
    rw [← Bool.or_assoc, Bool.or_comm w v, Bool.or_assoc]
theorem OrB.fin {m : Nat} {C : List Int32} {M : List mOp} (b : OrB m C M) : Blk (List.replicate m 8 ++ C) M := by
  intro F F' hF
  obtain ⟨vs, hl, hv⟩ := b F F' hF
  refine ⟨vs.any id, fun st => ⟨?_, (hv st).2⟩⟩
  rw [List.reverse_append, List.reverse_replicate, cRun_app, (hv st).1]
  exact ors_run F m vs st hl
