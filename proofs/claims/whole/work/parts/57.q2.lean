/-! the class's code: the same machine over a stack of truths, and over the bits of an int -/
def cStp (F : Nat → Int32) (c : Int32) (st : List Bool) : Option (List Bool) :=
  if xDoes c = 10 then (match st with | a :: r => some ((!a) :: r) | _ => none)
  else if xDoes c = 9 then (match st with | b :: a :: r => some ((a && b) :: r) | _ => none)
  else if xDoes c = 8 then (match st with | b :: a :: r => some ((a || b) :: r) | _ => none)
  else some ((!decide (xCmp (F (xNm c)) (xDoes c) (xNum c) = 0)) :: st)
def cRun (F : Nat → Int32) : List Int32 → List Bool → Option (List Bool)
  | [], st => some st
  | p :: l, st => (cStp F p st).bind (cRun F l)
def xCod (h : Hp) (c : Nat) : Nat → Nat → List Int32
  | 0, _ => []
  | j + 1, i => vi h (17, c) i :: xCod h c j (i + 1)
def nPu (c : Int32) : Nat := if xDoes c = 10 then 0 else if xDoes c = 9 then 0 else if xDoes c = 8 then 0 else 1
def nPs : List Int32 → Nat
  | [] => 0
  | c :: l => nPu c + nPs l
def Bt (t : Int32) (st : List Bool) : Prop := ∀ i b, st[i]? = some b → t.toBitVec.getLsbD i = b
theorem shr1 (t : Int32) : (t >>> ((1 : Int32) &&& 31)).toBitVec = t.toBitVec.sshiftRight 1 := rfl
theorem shl1 (t : Int32) : (t <<< ((1 : Int32) &&& 31)).toBitVec = t.toBitVec <<< 1 := rfl
theorem one_bit (i : Nat) : (1 : Int32).toBitVec.getLsbD i = decide (i = 0) := by
  show (1#32).getLsbD i = _
  rw [BitVec.getLsbD_one]; simp
theorem m2_bit {i : Nat} (h : i < 32) : (-2 : Int32).toBitVec.getLsbD i = !decide (i = 0) := by
  have key : ∀ j : Fin 32, (-2 : Int32).toBitVec.getLsbD j.val = !decide (j.val = 0) := by decide
  exact key ⟨i, h⟩
theorem Bt_not {t : Int32} {a : Bool} {r : List Bool} (h : Bt t (a :: r)) : Bt (t ^^^ 1) ((!a) :: r) := by
  intro i b hb
  rw [Int32.toBitVec_xor, BitVec.getLsbD_xor, one_bit]
  cases i with
  | zero =>
    have h0 := h 0 a rfl
    rw [h0]
    have e : (!a) = b := Option.some.inj hb
    rw [← e]; cases a <;> rfl
  | succ i =>
    rw [h (i + 1) b hb]
    simp
theorem Bt_and {t : Int32} {a b : Bool} {r : List Bool} (hl : r.length ≤ 29) (h : Bt t (b :: a :: r)) : Bt ((t >>> ((1 : Int32) &&& 31)) &&& (t ||| -2)) ((a && b) :: r) := by
  intro i c hc
  have hi : i < 31 := by
    have := (List.getElem?_eq_some_iff.mp hc).1
    simp only [List.length_cons] at this
    omega
  rw [Int32.toBitVec_and, BitVec.getLsbD_and, shr1, BitVec.getLsbD_sshiftRight, Int32.toBitVec_or, BitVec.getLsbD_or, m2_bit (by omega), if_pos (by omega)]
  cases i with
  | zero =>
    have h0 := h 0 b rfl
    have h1 := h 1 a rfl
    have e : (a && b) = c := Option.some.inj hc
    rw [show 1 + 0 = 1 from rfl, h1, h0, ← e]; cases a <;> cases b <;> rfl
  | succ i =>
    rw [show 1 + (i + 1) = i + 2 by omega, h (i + 2) c hc]
    have : ¬ 32 ≤ i + 1 := by omega
    simp [this]
theorem Bt_or {t : Int32} {a b : Bool} {r : List Bool} (hl : r.length ≤ 29) (h : Bt t (b :: a :: r)) : Bt ((t >>> ((1 : Int32) &&& 31)) ||| (t &&& 1)) ((a || b) :: r) := by
  intro i c hc
  have hi : i < 31 := by
    have := (List.getElem?_eq_some_iff.mp hc).1
    simp only [List.length_cons] at this
    omega
  rw [Int32.toBitVec_or, BitVec.getLsbD_or, shr1, BitVec.getLsbD_sshiftRight, Int32.toBitVec_and, BitVec.getLsbD_and, one_bit, if_pos (by omega)]
  cases i with
  | zero =>
    have h0 := h 0 b rfl
    have h1 := h 1 a rfl
    have e : (a || b) = c := Option.some.inj hc
    rw [show 1 + 0 = 1 from rfl, h1, h0, ← e]; cases a <;> cases b <;> rfl
  | succ i =>
    rw [show 1 + (i + 1) = i + 2 by omega, h (i + 2) c hc]
    have : ¬ 32 ≤ i + 1 := by omega
    simp [this]
theorem Bt_push {t x : Int32} {b : Bool} {r : List Bool} (hl : r.length ≤ 31) (hx : x = if b = true then 1 else 0) (h : Bt t r) : Bt ((t <<< ((1 : Int32) &&& 31)) ||| x) (b :: r) := by
  intro i c hc
  have hi : i < 32 := by
    have := (List.getElem?_eq_some_iff.mp hc).1
    simp only [List.length_cons] at this
    omega
  have ex : x.toBitVec.getLsbD i = (b && decide (i = 0)) := by
    subst hx
    cases b
    · show (0#32).getLsbD i = _
      simp
    · show (1 : Int32).toBitVec.getLsbD i = _
      rw [one_bit]; simp
  rw [Int32.toBitVec_or, BitVec.getLsbD_or, shl1, BitVec.getLsbD_shiftLeft, ex]
  cases i with
  | zero =>
    have e : b = c := Option.some.inj hc
    rw [← e]; simp
  | succ i =>
    rw [show i + 1 - 1 = i by omega, h i c hc]
    simp [hi]
theorem Bt_step {h : Hp} {p : Nat} {day c t : Int32} {st st' : List Bool} (hc : cStp (fun m => xTell h p m day) c st = some st') (hl : st.length ≤ 31) (hb : Bt t st) : Bt (xStep h p day c t) st' := by
  unfold cStp at hc
  unfold xStep
  split at hc
  · rename_i z
    rw [if_pos z]
    rcases st with _ | ⟨a, r⟩
    · cases hc
    · cases hc; exact Bt_not hb
  · rename_i z
    rw [if_neg z]
    split at hc
    · rename_i z2
      rw [if_pos z2]
      rcases st with _ | ⟨b, _ | ⟨a, r⟩⟩
      · cases hc
      · cases hc
      · cases hc; simp only [List.length_cons] at hl; exact Bt_and (by omega) hb
    · rename_i z2
      rw [if_neg z2]
      split at hc
      · rename_i z3
        rw [if_pos z3]
        rcases st with _ | ⟨b, _ | ⟨a, r⟩⟩
        · cases hc
        · cases hc
        · cases hc; simp only [List.length_cons] at hl; exact Bt_or (by omega) hb
      · rename_i z3
        rw [if_neg z3]
        cases hc
        refine Bt_push hl ?_ hb
        by_cases e : xCmp (xTell h p (xNm c) day) (xDoes c) (xNum c) = 0
        · rw [if_pos e, decide_eq_true e]; rfl
        · rw [if_neg e, decide_eq_false e]; rfl
theorem cStp_len {F : Nat → Int32} {c : Int32} {st st' : List Bool} (hc : cStp F c st = some st') : st'.length ≤ st.length + nPu c := by
  unfold cStp at hc
  unfold nPu
  split at hc
  · rename_i z
    rcases st with _ | ⟨a, r⟩
    · cases hc
    · cases hc; simp
  · rename_i z
    rw [if_neg z]
    split at hc
    · rcases st with _ | ⟨b, _ | ⟨a, r⟩⟩
      · cases hc
      · cases hc
      · cases hc; simp only [List.length_cons]; omega
    · rename_i z2
      rw [if_neg z2]
      split at hc
      · rcases st with _ | ⟨b, _ | ⟨a, r⟩⟩
        · cases hc
        · cases hc
        · cases hc; simp only [List.length_cons]; omega
      · rename_i z3
        rw [if_neg z3]
        cases hc; simp
theorem xRun_Bt {h : Hp} {c p : Nat} {day : Int32} : ∀ (j i : Nat) (t : Int32) (st st' : List Bool), cRun (fun m => xTell h p m day) (xCod h c j i) st = some st' → st.length + nPs (xCod h c j i) ≤ 31 → Bt t st → Bt (xRun h c p day j i t) st'
  | 0, _, t, st, st', hr, _, hb => by
    rw [xCod, cRun] at hr; cases hr; exact hb
  | j + 1, i, t, st, st', hr, hl, hb => by
    rw [xCod, cRun] at hr
    rw [xCod, nPs] at hl
    cases e : cStp (fun m => xTell h p m day) (vi h (17, c) i) st with
    | none => rw [e] at hr; cases hr
    | some s1 =>
      rw [e] at hr
      have := cStp_len e
      exact xRun_Bt j (i + 1) _ s1 st' hr (by omega) (Bt_step e (by omega) hb)
theorem and1 {t : Int32} {v : Bool} (h : Bt t [v]) : t &&& 1 = b2 v := by
  refine Int32.toBitVec_inj.mp (BitVec.eq_of_getLsbD_eq_iff.mpr fun i hi => ?_)
  rw [Int32.toBitVec_and, BitVec.getLsbD_and, one_bit]
  cases i with
  | zero =>
    rw [h 0 v rfl]
    cases v <;> rfl
  | succ i =>
    cases v
    · show _ = (0#32).getLsbD (i + 1)
      simp
    · show _ = (1 : Int32).toBitVec.getLsbD (i + 1)
      rw [one_bit]; simp
theorem xHold_eq {h : Hp} {c p : Nat} {day : Int32} {v : Bool} (hr : cRun (fun m => xTell h p m day) (xCod h c (ln h (17, c)) 0) [] = some [v]) (hl : nPs (xCod h c (ln h (17, c)) 0) ≤ 31) : xHold h c p day = b2 v := by
  have hb := xRun_Bt (ln h (17, c)) 0 0 [] [v] hr (by simpa using hl) (fun i b z => by cases z)
  rw [xHold, and1 hb]
  cases v <;> rfl
/-! the schemes of both sides -/
def offN (h : Hp) : Nat → Nat
  | 0 => 0
  | k + 1 => offN h k + chN h k
def PutR (h : Hp) (k c x : Nat) : Prop := ∃ f t, f ≤ t ∧ t ≤ 130 ∧ vi h (42, k) c = nI f ∧ vi h (43, k) c = nI t ∧ (∀ i, f ≤ i → i < t → opOK h k i) ∧ nPs (xCod h x (ln h (17, x)) 0) ≤ 31 ∧ ∀ F F' : Nat → Int32, (∀ m, m < 5 → F m = F' m) → ∃ v, cRun F (xCod h x (ln h (17, x)) 0) [] = some [v] ∧ mRun F' (mOps h k (t - f) f) [] = some [v]
def OrdR (h : Hp) (k c x : Nat) : Prop := ∃ t, t ≤ 4 ∧ vi h (44, k) c = nI t ∧ ln h (17, x) = t ∧ ∀ i, i < t → ∃ u m, u ≤ 9999 ∧ vi h (49, k) (4 * c + i) = nI u ∧ xNum (vi h (17, x) i) = nI u ∧ xNm (vi h (17, x) i) = m ∧ ((m = 5 ∧ vi h (48, k) (4 * c + i) = -1) ∨ (m < 5 ∧ vi h (48, k) (4 * c + i) = nI m))
def ChR (h : Hp) (k c x : Nat) : Prop := vi h (8, x) 0 = nI k ∧ vi h (8, x) 1 = vi h (33, k) 0 ∧ vi h (8, x) 2 = vi h (33, k) 1 ∧
  ((∃ m, 1 ≤ m ∧ m ≤ 12 ∧ vi h (41, k) c = nI m ∧ vi h (8, x) 4 = nI m ∧ ((vi h (40, k) c = 0 ∧ vi h (8, x) 3 = 5 ∧ PutR h k c x) ∨ (vi h (40, k) c = 1 ∧ vi h (8, x) 3 = 6))) ∨
   (vi h (40, k) c = 2 ∧ vi h (8, x) 3 = 7 ∧ vi h (8, x) 4 = nI 0 ∧ OrdR h k c x))
def ScR (h : Hp) (n : Nat) : Prop := cn h 8 = offN h n ∧ ∀ k, k < n → chN h k ≤ 12 ∧ ∀ c, c < chN h k → ChR h k c (offN h k + c)
theorem ChR.num {h : Hp} {k c x : Nat} (r : ChR h k c x) : ∃ m, m ≤ 12 ∧ vi h (8, x) 4 = nI m ∧ (m = 0 ↔ vi h (40, k) c = 2) ∧ (m ≠ 0 → vi h (41, k) c = nI m) := by
  rcases r.2.2.2 with ⟨m, h1, h2, h3, h4, h5⟩ | ⟨h1, h2, h3, h4⟩
  · refine ⟨m, h2, h4, ⟨fun z => by omega, fun z => ?_⟩, fun _ => h3⟩
    rcases h5 with ⟨a, -⟩ | ⟨a, -⟩ <;> (rw [a] at z; exact absurd z (by decide))
  · exact ⟨0, by omega, h3, ⟨fun _ => h1, fun _ => rfl⟩, fun z => absurd rfl z⟩
theorem lat_step {h : Hp} {w d : Int32} {x m : Nat} (hc : vi h (8, x) 1 = w ∧ ¬ d < vi h (8, x) 2) (hm : m ≤ 12) (em : vi h (8, x) 4 = nI m) (nu : Nat) : xLat h w d (x + 1) nu = if nu = m then (match xLat h w d x m with | none => some (8, x) | some a => if vi h (8, x) 2 < vi h a 2 then some a else some (8, x)) else xLat h w d x nu := by
  have ncm : (nI m).toNatClampNeg = m := nI_clamp (by omega)
  rw [xLat, if_pos hc, xCon, em, ncm]
  by_cases e : nu = m
  · subst e
    rw [if_pos rfl]
    cases z : xLat h w d x nu with
    | none => simp
    | some a =>
      by_cases e2 : vi h (8, x) 2 < vi h a 2
      · simp only [if_pos e2, z]
      · simp only [if_neg e2, if_true]
  · rw [if_neg e]
    cases z : xLat h w d x m with
    | none => simp only [if_neg e]
    | some a =>
      by_cases e2 : vi h (8, x) 2 < vi h a 2
      · simp only [if_pos e2]
      · simp only [if_neg e2, if_neg e]
theorem lat_skip {h : Hp} {w d : Int32} {x : Nat} (hc : ¬ (vi h (8, x) 1 = w ∧ ¬ d < vi h (8, x) 2)) : xLat h w d (x + 1) = xLat h w d x := by
  rw [xLat, if_neg hc]
def fRel (h : Hp) (n nu : Nat) (s : Int32 × Int32) (o : Option Ad) : Prop := (s.1 = -1 ∧ o = none) ∨ ∃ k c, k < n ∧ c < chN h k ∧ s = (nI k, nI c) ∧ o = some (8, offN h k + c) ∧ vi h (8, offN h k + c) 4 = nI nu
theorem fC_rel {h : Hp} {n : Nat} (hn : n ≤ 40) (hS : ∀ k, k < n → chN h k ≤ 12 ∧ ∀ c, c < chN h k → ChR h k c (offN h k + c)) {w d : Int32} {k nu : Nat} (hk : k < n) (hu : nu ≤ 12) (hc : vi h (33, k) 0 = w ∧ ¬ d < vi h (33, k) 1) : ∀ (j c : Nat) (s : Int32 × Int32), c + j = chN h k → fRel h n nu s (xLat h w d (offN h k + c) nu) → (∀ k' c', k' < n → s = (nI k', nI c') → ¬ vi h (33, k) 1 < vi h (33, k') 1) → fRel h n nu (fC h k (nI nu) j c s) (xLat h w d (offN h k + (c + j)) nu)
  | 0, c, s, _, hr, _ => hr
  | j + 1, c, s, hj, hr, hd => by
    have r := (hS k hk).2 c (by omega)
    obtain ⟨m, hm, em, m0, m1⟩ := r.num
    have st := lat_step (h := h) (w := w) (d := d) (x := offN h k + c) (m := m) ⟨r.2.1.trans hc.1, by rw [r.2.2.1]; exact hc.2⟩ hm em nu
    have hit : nu = m → fRel h n nu (fC h k (nI nu) j (c + 1) (nI k, nI c)) (xLat h w d (offN h k + (c + 1 + j)) nu) := by
      intro e
      refine fC_rel hn hS hk hu hc j (c + 1) _ (by omega) ?_ ?_
      · refine Or.inr ⟨k, c, hk, by omega, rfl, ?_, by rw [e]; exact em⟩
        rw [show offN h k + (c + 1) = offN h k + c + 1 by omega, st, if_pos e]
        rcases hr with ⟨z1, z2⟩ | ⟨k', c', hk', hc', z1, z2, -⟩
        · rw [e] at z2; rw [z2]
        · rw [e] at z2; rw [z2]
          have r' := (hS k' hk').2 c' hc'
          show (if vi h (8, offN h k + c) 2 < vi h (8, offN h k' + c') 2 then _ else _) = _
          rw [if_neg]
          rw [r.2.2.1, r'.2.2.1]
          exact hd k' c' hk' z1
      · intro k' c' hk' z
        have : nI k = nI k' := congrArg Prod.fst z
        have := (nI_eq (by omega) (by omega)).mp this
        subst this
        exact fun y => Int32.lt_irrefl y
    have mis : nu ≠ m → fRel h n nu (fC h k (nI nu) j (c + 1) s) (xLat h w d (offN h k + (c + 1 + j)) nu) := by
      intro e
      refine fC_rel hn hS hk hu hc j (c + 1) _ (by omega) ?_ hd
      rw [show offN h k + (c + 1) = offN h k + c + 1 by omega, st, if_neg e]
      exact hr
    rw [show c + (j + 1) = c + 1 + j by omega, fC]
    by_cases e0 : nu = 0
    · rw [if_pos (by rw [e0]; rfl)]
      by_cases e2 : vi h (40, k) c = 2
      · rw [if_pos e2]; exact hit (by rw [e0]; exact (m0.mpr e2).symm)
      · rw [if_neg e2]; exact mis (fun z => e2 (m0.mp (by omega)))
    · rw [if_neg (nI_ne0 (by omega) (by omega))]
      by_cases e2 : vi h (40, k) c = 2
      · rw [if_pos e2]; exact mis (by have := m0.mpr e2; omega)
      · rw [if_neg e2]
        have mn : m ≠ 0 := fun z => e2 (m0.mp z)
        by_cases e3 : vi h (41, k) c = nI nu
        · rw [if_pos e3]; exact hit ((nI_eq (by omega) (by omega)).mp (e3.symm.trans (m1 mn)))
        · rw [if_neg e3]; exact mis (fun z => e3 (by rw [z]; exact m1 mn))
theorem lat_out {h : Hp} {n : Nat} (hS : ∀ k, k < n → chN h k ≤ 12 ∧ ∀ c, c < chN h k → ChR h k c (offN h k + c)) {w d : Int32} {k : Nat} (hk : k < n) (hc : ¬ (vi h (33, k) 0 = w ∧ ¬ d < vi h (33, k) 1)) : ∀ (j c : Nat), c + j = chN h k → xLat h w d (offN h k + (c + j)) = xLat h w d (offN h k + c)
  | 0, c, _ => rfl
  | j + 1, c, hj => by
    have r := (hS k hk).2 c (by omega)
    rw [show c + (j + 1) = c + 1 + j by omega, lat_out hS hk hc j (c + 1) (by omega), show offN h k + (c + 1) = offN h k + c + 1 by omega]
    exact lat_skip (by rw [r.2.1, r.2.2.1]; exact hc)
theorem lat_old {h : Hp} {n : Nat} (hS : ∀ k, k < n → chN h k ≤ 12 ∧ ∀ c, c < chN h k → ChR h k c (offN h k + c)) {w d : Int32} {k nu : Nat} (hk : k < n) (hc : vi h (33, k) 0 = w ∧ ¬ d < vi h (33, k) 1) {a : Ad} (ha : vi h (33, k) 1 < vi h a 2) : ∀ (j c : Nat), c + j = chN h k → xLat h w d (offN h k + c) nu = some a → xLat h w d (offN h k + (c + j)) nu = some a
  | 0, c, _, z => z
  | j + 1, c, hj, z => by
    have r := (hS k hk).2 c (by omega)
    obtain ⟨m, hm, em, -, -⟩ := r.num
    rw [show c + (j + 1) = c + 1 + j by omega]
    refine lat_old hS hk hc ha j (c + 1) (by omega) ?_
    rw [show offN h k + (c + 1) = offN h k + c + 1 by omega, lat_step ⟨r.2.1.trans hc.1, by rw [r.2.2.1]; exact hc.2⟩ hm em nu]
    by_cases e : nu = m
    · rw [if_pos e, ← e, z]
      show (if vi h (8, offN h k + c) 2 < vi h a 2 then some a else _) = some a
      rw [if_pos (by rw [r.2.2.1]; exact ha)]
    · rw [if_neg e]; exact z
theorem fO_rel {h : Hp} {n : Nat} (hn : n ≤ 40) (hS : ∀ k, k < n → chN h k ≤ 12 ∧ ∀ c, c < chN h k → ChR h k c (offN h k + c)) {w d : Int32} {nu : Nat} (hu : nu ≤ 12) : ∀ (j k : Nat) (s : Int32 × Int32), k + j = n → fRel h n nu s (xLat h w d (offN h k) nu) → fRel h n nu (fO h w (nI nu) d j k s) (xLat h w d (offN h (k + j)) nu)
  | 0, k, s, _, hr => hr
  | j + 1, k, s, hj, hr => by
    have hk : k < n := by omega
    have go : ∀ s', fRel h n nu s' (xLat h w d (offN h (k + 1)) nu) → fRel h n nu (fO h w (nI nu) d j (k + 1) s') (xLat h w d (offN h (k + (j + 1))) nu) := by
      intro s' hs'
      rw [show k + (j + 1) = k + 1 + j by omega]
      exact fO_rel hn hS hu j (k + 1) s' (by omega) hs'
    have eo : offN h (k + 1) = offN h k + (0 + chN h k) := by rw [offN]; omega
    rw [fO]
    by_cases c1 : vi h (33, k) 0 = w
    · rw [if_pos c1]
      by_cases c2 : d < vi h (33, k) 1
      · rw [if_pos c2]
        refine go _ ?_
        rw [eo, lat_out hS hk (fun z => z.2 c2) (chN h k) 0 (by omega)]
        exact hr
      · rw [if_neg c2]
        have run : (∀ k' c', k' < n → s = (nI k', nI c') → ¬ vi h (33, k) 1 < vi h (33, k') 1) → fRel h n nu (fO h w (nI nu) d j (k + 1) (fC h k (nI nu) (chN h k) 0 s)) (xLat h w d (offN h (k + (j + 1))) nu) := by
          intro z
          refine go _ ?_
          rw [eo]
          exact fC_rel hn hS hk hu ⟨c1, c2⟩ (chN h k) 0 s (by omega) hr z
        by_cases c3 : s.1 = -1
        · rw [if_pos c3]
          refine run fun k' c' hk' z => ?_
          rw [z] at c3
          exact absurd c3 (nI_ne1 (by show k' < _; omega))
        · rw [if_neg c3]
          rcases hr with ⟨z1, -⟩ | ⟨k', c', hk', hc', z1, z2, z3⟩
          · exact absurd z1 c3
          · have e1 : s.1.toNatClampNeg = k' := by rw [z1]; exact nI_clamp (by omega)
            rw [e1]
            by_cases c4 : vi h (33, k') 1 ≤ vi h (33, k) 1
            · rw [if_pos c4]
              refine run fun k2 c2 hk2 z => ?_
              rw [z1] at z
              have := (nI_eq (by omega) (by omega)).mp (congrArg Prod.fst z)
              subst this
              exact Int32.not_lt.mpr c4
            · rw [if_neg c4]
              refine go _ (Or.inr ⟨k', c', hk', hc', z1, ?_, z3⟩)
              rw [eo]
              refine lat_old hS hk ⟨c1, c2⟩ ?_ (chN h k) 0 (by omega) z2
              rw [((hS k' hk').2 c' hc').2.2.1]
              exact Int32.not_le.mp c4
    · rw [if_neg c1]
      refine go _ ?_
      rw [eo, lat_out hS hk (fun z => c1 z.1) (chN h k) 0 (by omega)]
      exact hr
theorem fB_rel {h : Hp} {n : Nat} (hn : n ≤ 40) (s : ScR h n) {w d : Int32} {nu : Nat} (hu : nu ≤ 12) (c : Int32) : fRel h n nu (fB h n w (nI nu) d c) (xLat h w d (cn h 8) nu) := by
  have K := fO_rel hn s.2 (w := w) (d := d) hu n 0 (-1, c) (by omega) (Or.inl ⟨rfl, by show (if nu < 13 then none else _) = none; rw [if_pos (by omega)]⟩)
  rw [Nat.zero_add, ← s.1] at K
  exact K
