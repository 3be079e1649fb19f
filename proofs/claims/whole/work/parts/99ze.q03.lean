/-! what reading comes to -/
def PX_s (k : Nat) (Z h : Hp) : Ad → Hp → Prop := fun a h' => a = (35, 0) ∧ Eqv (fPs_s k) h h' ∧ ∃ kk p, vi h' (35, 0) 6 = kk ∧ vi h' (35, 0) 7 = nI p ∧ CE Z kk p
def PQ1_s (k : Nat) (b : Nat → Int32) (e : Nat) (Z : Hp) (ch te dp : Nat) (nu : Int32) (W M N : Nat → Int32) (h : Hp) (q cp : Nat) (rl : List mOp) (cd hd : List Int32) : Option PV → Hp → Prop := fun r h' => r = none ∧ ∃ (c' : Hp) (j' q' cp' : Nat) (nm' sg' : Int32) (Bc : List Int32) (Bm : List mOp), RS_s h' k b e q' dp cp' (Bm ++ rl) ∧ CS c' b q' ch cp' te dp 0 nm' sg' nu W M N (Bc ++ cd) hd ∧ Z = rLp e j' 7 c' ∧ e + 1 ≤ q' + j' ∧ q' ≤ e ∧ Blk Bc Bm ∧ opsOK Bm ∧ nPs Bc + cp = cp' ∧ q + 3 * Bm.length + 2 ≤ q' ∧ (Bc ++ cd).length + hd.length + 3 ≤ q' ∧ cp' ≤ 20 ∧ Eqv (fPs_s k) h h'
theorem mSt_E_s (h : Hp) (k : Nat) (x : Int32) : Eqv (fPs_s k) h (mSt h x) := Eqv.sI (Eqv.sI (Eqv.rf _) Bool.false_ne_true) Bool.false_ne_true
theorem PX_st_s {k : Nat} {Z h0 h : Hp} {b : Nat → Int32} {e q : Nat} {x : Int32} (E0 : Eqv (fPs_s k) h0 h) (t : TR h b e q) (ce : CE Z x (tok b e q).2.1) : PX_s k Z h0 (35, 0) (mSt h x) := by
  refine ⟨rfl, E0.tr (mSt_E_s h k x), x, (tok b e q).2.1, ?_, ?_, ce⟩
  · unfold mSt; rw [vi_sI_nk _ _ _ (by decide), vi_sI_eq]
  · unfold mSt; rw [vi_sI_eq]; exact t.1
