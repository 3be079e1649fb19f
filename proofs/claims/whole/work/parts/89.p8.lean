/-! what reading comes to -/
def PX (k : Nat) (Z h : Hp) : Ad → Hp → Prop := fun a h' => a = (35, 0) ∧ Eqv (fPs k) h h' ∧ ∃ kk p, vi h' (35, 0) 6 = kk ∧ vi h' (35, 0) 7 = nI p ∧ CE Z kk p
def opsOK (l : List mOp) : Prop := ∀ p ∈ l, (p.1 = 3 ∨ p.1 = 4 ∨ p.1 = 5) ∨ ((p.1 = 0 ∨ p.1 = 1 ∨ p.1 = 2) ∧ ∃ m, m < 5 ∧ p.2.1 = nI m)
def PQ1 (k : Nat) (b : Nat → Int32) (e : Nat) (Z : Hp) (ch te dp : Nat) (nu : Int32) (W M N : Nat → Int32) (h : Hp) (q cp : Nat) (rl : List mOp) (cd hd : List Int32) : Option PV → Hp → Prop := fun r h' => r = none ∧ ∃ (c' : Hp) (j' q' cp' : Nat) (nm' sg' : Int32) (Bc : List Int32) (Bm : List mOp), RS h' k b e q' dp cp' (Bm ++ rl) ∧ CS c' b q' ch cp' te dp 0 nm' sg' nu W M N (Bc ++ cd) hd ∧ Z = rLp e j' 7 c' ∧ e + 1 ≤ q' + j' ∧ q' ≤ e ∧ Blk Bc Bm ∧ opsOK Bm ∧ nPs Bc + cp = cp' ∧ q + 3 * Bm.length + 2 ≤ q' ∧ (Bc ++ cd).length + hd.length + 3 ≤ q' ∧ cp' ≤ 20 ∧ Eqv (fPs k) h h'
theorem mSt_E (h : Hp) (k : Nat) (x : Int32) : Eqv (fPs k) h (mSt h x) := Eqv.sI (Eqv.sI (Eqv.rf _) Bool.false_ne_true) Bool.false_ne_true
theorem PX_st {k : Nat} {Z h0 h : Hp} {b : Nat → Int32} {e q : Nat} {x : Int32} (E0 : Eqv (fPs k) h0 h) (t : TR h b e q) (ce : CE Z x (tok b e q).2.1) : PX k Z h0 (35, 0) (mSt h x) := by
  refine ⟨rfl, E0.tr (mSt_E h k x), x, (tok b e q).2.1, ?_, ?_, ce⟩
  · unfold mSt; rw [vi_sI_nk _ _ _ (by decide), vi_sI_eq]
  · unfold mSt; rw [vi_sI_eq]; exact t.1
/-- releases -/
theorem aRel_no {x : Int32} {hd cd : List Int32} (h : hd.head? ≠ some x) : aRel x hd cd = (hd, cd) := by
  cases hd with
  | nil => rfl
  | cons y r => rw [aRel, if_neg (fun z => h (by rw [z]; rfl))]
theorem aw_lt {x : Int32} {l : List Int32} (h : l.length < 300) : aw x l = x :: l := by unfold aw; rw [if_neg (by omega)]
theorem aRel_rep (x : Int32) {hd : List Int32} (h : hd.head? ≠ some x) : ∀ (i : Nat) (cd : List Int32), cd.length + i < 300 → aRel x (List.replicate i x ++ hd) cd = (hd, List.replicate i x ++ cd)
  | 0, cd, _ => aRel_no h
  | i + 1, cd, hc => by
    show aRel x (x :: (List.replicate i x ++ hd)) cd = _
    rw [aRel, if_pos rfl, aw_lt (by omega), aRel_rep x h i (x :: cd) (by show cd.length + 1 + i < 300; omega)]
    refine Prod.ext rfl ?_
    show List.replicate i x ++ x :: cd = List.replicate (i + 1) x ++ cd
    rw [List.replicate_succ', List.append_assoc]; rfl
/-- a comparison: class and reference alike -/
def mSg (s : Int32) : Int32 := if s = 60 then 0 else if s = 62 then 1 else 2
theorem nI_bv {a : Nat} (h : a < 2 ^ 31) : (nI a).toBitVec.toNat = a := by
  show (BitVec.ofNat 32 a).toNat = a
  rw [BitVec.toNat_ofNat]; exact Nat.mod_eq_of_lt (by omega)
theorem pack3 {a c : Nat} (hc : c < 8) (ha : a * 8 + c < 2 ^ 31) : (nI a <<< ((3 : Int32) &&& 31)) ||| nI c = nI (a * 8 + c) := by
  refine Int32.toBitVec_inj.mp (BitVec.eq_of_toNat_eq ?_)
  rw [Int32.toBitVec_or, BitVec.toNat_or, nI_bv (by omega), nI_bv ha]
  show ((nI a).toBitVec <<< 3).toNat ||| c = _
  rw [BitVec.toNat_shiftLeft, nI_bv (by omega), Nat.shiftLeft_eq, Nat.mod_eq_of_lt (by omega), ← Nat.shiftLeft_eq, ← Nat.shiftLeft_add_eq_or_of_lt (show c < 2 ^ 3 from hc), Nat.shiftLeft_eq]
theorem pack7 {a c : Nat} (hc : c < 128) (ha : a * 128 + c < 2 ^ 31) : (nI a <<< ((7 : Int32) &&& 31)) ||| nI c = nI (a * 128 + c) := by
  refine Int32.toBitVec_inj.mp (BitVec.eq_of_toNat_eq ?_)
  rw [Int32.toBitVec_or, BitVec.toNat_or, nI_bv (by omega), nI_bv ha]
  show ((nI a).toBitVec <<< 7).toNat ||| c = _
  rw [BitVec.toNat_shiftLeft, nI_bv (by omega), Nat.shiftLeft_eq, Nat.mod_eq_of_lt (by omega), ← Nat.shiftLeft_eq, ← Nat.shiftLeft_add_eq_or_of_lt (show c < 2 ^ 7 from hc), Nat.shiftLeft_eq]
theorem and127 {a : Nat} (h : a < 2 ^ 31) : nI a &&& 127 = nI (a % 128) := by
  refine Int32.toBitVec_inj.mp (BitVec.eq_of_toNat_eq ?_)
  rw [Int32.toBitVec_and, BitVec.toNat_and, nI_bv h, nI_bv (by omega)]
  exact Nat.and_two_pow_sub_one_eq_mod a 7
theorem an7 {a : Nat} (h : a < 2 ^ 31) : nI a &&& 7 = nI (a % 8) := by
  refine Int32.toBitVec_inj.mp (BitVec.eq_of_toNat_eq ?_)
  rw [Int32.toBitVec_and, BitVec.toNat_and, nI_bv h, nI_bv (by omega)]
  exact Nat.and_two_pow_sub_one_eq_mod a 3
theorem shrN {a : Nat} (h : a < 2 ^ 31) (k : Nat) : (nI a).toBitVec.sshiftRight k = (nI (a / 2 ^ k)).toBitVec := by
  have m : (nI a).toBitVec.msb = false := by rw [BitVec.msb_eq_decide, nI_bv h]; exact decide_eq_false (by omega)
  have d : a / 2 ^ k ≤ a := Nat.div_le_self _ _
  refine BitVec.eq_of_toNat_eq ?_
  rw [BitVec.sshiftRight_eq_of_msb_false m, BitVec.toNat_ushiftRight, nI_bv h, nI_bv (by omega), Nat.shiftRight_eq_div_pow]
theorem shr7 {a : Nat} (h : a < 2 ^ 31) : nI a >>> ((7 : Int32) &&& 31) = nI (a / 128) := Int32.toBitVec_inj.mp (shrN h 7)
theorem shr10 {a : Nat} (h : a < 2 ^ 31) : nI a >>> ((10 : Int32) &&& 31) = nI (a / 1024) := Int32.toBitVec_inj.mp (shrN h 10)
theorem xMk_eq {s n v : Nat} (hs : s < 128) (hn : n < 8) (hv : v ≤ 9999) : xMk (nI s) (nI n) (nI v) = nI ((v * 8 + n) * 128 + s) := by
  unfold xMk
  rw [pack3 hn (by omega), pack7 hs (by omega)]
theorem xMk_ok {s n v : Nat} (hs : s < 128) (hn : n < 8) (hv : v ≤ 9999) : xDoes (xMk (nI s) (nI n) (nI v)) = nI s ∧ xNm (xMk (nI s) (nI n) (nI v)) = n ∧ xNum (xMk (nI s) (nI n) (nI v)) = nI v := by
  have b : (v * 8 + n) * 128 + s < 2 ^ 31 := by omega
  rw [xMk_eq hs hn hv]
  unfold xDoes xNm xName xNum
  rw [and127 b, shr7 b, shr10 b, an7 (by omega), nI_clamp (by omega)]
  refine ⟨?_, by omega, ?_⟩
  · congr 1; omega
  · congr 1; omega
theorem Blk_cmp {s n v : Nat} (hs : s = 60 ∨ s = 62 ∨ s = 61) (hn : n < 5) (hv : v ≤ 9999) : Blk [xMk (nI s) (nI n) (nI v)] [(mSg (nI s), nI n, nI v)] := by
  intro F F' hF
  obtain ⟨k1, k2, k3⟩ := xMk_ok (s := s) (n := n) (v := v) (by omega) (by omega) hv
  refine ⟨mCmp (mSg (nI s)) (F' n) (nI v), fun st => ⟨?_, ?_⟩⟩
  · show (cStp F (xMk (nI s) (nI n) (nI v)) st).bind (cRun F []) = _
    unfold cStp
    rw [k1, k2, k3, if_neg (by rcases hs with z | z | z <;> (rw [z]; decide)), if_neg (by rcases hs with z | z | z <;> (rw [z]; decide)), if_neg (by rcases hs with z | z | z <;> (rw [z]; decide)), hF n hn]
    show some (_ :: st) = some (_ :: st)
    congr 2
    rcases hs with z | z | z
    · rw [z]
      show (!decide ((if nI v ≤ F' n then (0 : Int32) else 1) = 0)) = decide (F' n < nI v)
      by_cases y : nI v ≤ F' n
      · rw [if_pos y, decide_eq_false (Int32.not_lt.mpr y)]; rfl
      · rw [if_neg y, decide_eq_true (Int32.not_le.mp y)]; rfl
    · rw [z]
      show (!decide ((if F' n ≤ nI v then (0 : Int32) else 1) = 0)) = decide (nI v < F' n)
      by_cases y : F' n ≤ nI v
      · rw [if_pos y, decide_eq_false (Int32.not_lt.mpr y)]; rfl
      · rw [if_neg y, decide_eq_true (Int32.not_le.mp y)]; rfl
    · rw [z]
      show (!decide ((if F' n = nI v then (1 : Int32) else 0) = 0)) = decide (F' n = nI v)
      by_cases y : F' n = nI v
      · rw [if_pos y, decide_eq_true y]; rfl
      · rw [if_neg y, decide_eq_false y]; rfl
  · show (mStp F' (mSg (nI s), nI n, nI v) st).bind (mRun F' []) = _
    unfold mStp
    rw [if_neg (show ¬ mSg (nI s) = 3 by rcases hs with z | z | z <;> (rw [z]; decide)), if_neg (show ¬ mSg (nI s) = 4 by rcases hs with z | z | z <;> (rw [z]; decide)), if_neg (show ¬ mSg (nI s) = 5 by rcases hs with z | z | z <;> (rw [z]; decide))]
    show some (mCmp (mSg (nI s)) (F' (nI n).toNatClampNeg) (nI v) :: st) = _
    rw [nI_clamp (by omega)]
