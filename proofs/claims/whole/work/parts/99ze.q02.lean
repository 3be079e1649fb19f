/-! the reference while it reads a scheme k -/
def RLs_s (h : Hp) (k : Nat) : List mOp → Prop
  | [] => True
  | p :: r => vi h (55, 0) r.length = p.1 ∧ vi h (56, 0) r.length = p.2.1 ∧ vi h (57, 0) r.length = p.2.2 ∧ RLs_s h k r
def fPs_s (k : Nat) : Fpt := (fun _ => true, fun _ => true, fun _ => true, fun p => !(p == 32), fun p i f => !(p == 32 && (Nat.ble 12 f && Nat.ble f 18)) && !(p == 35) && !(p == 34 && i == 0 && f == 3) && !(Nat.ble 55 p && Nat.blt p 58 && i == 0))
theorem RLs_c_s {h h' : Hp} {k : Nat} (e5 : ∀ i, vi h' (55, 0) i = vi h (55, 0) i) (e6 : ∀ i, vi h' (56, 0) i = vi h (56, 0) i) (e7 : ∀ i, vi h' (57, 0) i = vi h (57, 0) i) : ∀ (l : List mOp), RLs_s h k l → RLs_s h' k l
  | [], _ => trivial
  | p :: r, z => ⟨by rw [e5]; exact z.1, by rw [e6]; exact z.2.1, by rw [e7]; exact z.2.2.1, RLs_c_s e5 e6 e7 r z.2.2.2⟩
/-- token at q, depth, comparisons, the signs written (the last one first) -/
def RS_s (h : Hp) (k : Nat) (b : Nat → Int32) (e q dp cp : Nat) (rl : List mOp) : Prop := SM h ∧ SK_s h k ∧ vi h (32, 0) 11 = nI e ∧ (∀ i, i < e → mb h i = b i) ∧ TR h b e q ∧ vi h (32, 0) 17 = nI dp ∧ vi h (32, 0) 18 = nI cp ∧ vi h (34, 0) 3 = nI rl.length ∧ RLs_s h k rl
theorem mt_E_s (h : Hp) (k : Nat) (a s p x n : Int32) (w : Int64) : Eqv (fPs_s k) h (mt h a s p x n w) := by
  refine ⟨fun _ _ => rfl, fun _ _ _ => rfl, fun _ _ _ _ => rfl, fun p i f z => ?_, fun p i f z => ?_⟩
  · show (if ((p, i) : Ad) = (32, 0) ∧ f = 19 then w else vl h (p, i) f) = vl h (p, i) f
    rw [if_neg]; rintro ⟨y, -⟩; cases y; exact Bool.false_ne_true z
  · by_cases y : ((p, i) : Ad) = (32, 0)
    · cases y
      refine mt_f _ _ _ _ _ _ _ _ ⟨fun w => ?_, fun w => ?_, fun w => ?_, fun w => ?_, fun w => ?_⟩ <;> (subst w; exact Bool.false_ne_true z)
    · exact mt_o _ _ _ _ _ _ _ _ y
theorem M_nextR_s (g : G0) (h : Hp) {k : Nat} {b : Nat → Int32} {e q dp cp : Nat} {rl : List mOp} (r : RS_s h k b e q dp cp rl) (he : e ≤ 300) (hq : q ≤ e) (hk : ¬ (tok b e q).2.2.1 = 1) : Mx g yX14_next wX14_next 1 [pR (32, 0)] h 0 0 (fun rv h' => rv = none ∧ RS_s h' k b e (tok b e q).1 dp cp rl ∧ Eqv (fPs_s k) h h') noX := by
  obtain ⟨r1, r2, r3, r4, r5, r6, r7, r8, r9⟩ := r
  have q2 := tok_end (b := b) he hq
  refine Mx.mono ?_ (fun _ _ z => z) (M_next g h r1 r3 he q2 (r5.2.1 hk) (fun i _ => mb_pos h i))
  rintro rv h' ⟨rfl, rfl⟩
  have t := TR_of (h := h) (e := e) (q := (tok b e q).1) he q2 (n := vi h (32, 0) 16) (w := vl h (32, 0) 19)
  refine ⟨rfl, ⟨SMmt r1 _ _ _ _ _ _, ?_, ?_, fun i hi => ?_, TR_c r4 he q2 t, ?_, ?_, ?_, ?_⟩, mt_E_s _ _ _ _ _ _ _ _⟩
  · obtain ⟨a1, a2, a3, a4, a5, a6⟩ := r2
    exact ⟨a1, a2, a3, a4, a5, by rw [show vi (mtH h _ _) (34, 0) 2 = vi h (34, 0) 2 from mt_o _ _ _ _ _ _ _ _ (fun z => by cases z)]; exact a6⟩
  · exact (mt_f _ _ _ _ _ _ _ 11 (by decide)).trans r3
  · rw [← r4 i hi]; exact congrFun (mb_mt _ _ _ _ _ _ _) i
  · exact (mt_f _ _ _ _ _ _ _ 17 (by decide)).trans r6
  · exact (mt_f _ _ _ _ _ _ _ 18 (by decide)).trans r7
  · exact (mt_o _ _ _ _ _ _ _ 3 (fun z => by cases z)).trans r8
  · exact RLs_c_s (fun i => mt_o _ _ _ _ _ _ _ _ (fun z => by cases z)) (fun i => mt_o _ _ _ _ _ _ _ _ (fun z => by cases z)) (fun i => mt_o _ _ _ _ _ _ _ _ (fun z => by cases z)) _ r9
