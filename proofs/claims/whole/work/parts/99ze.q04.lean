theorem RS_put_s {h : Hp} {k : Nat} {b : Nat → Int32} {e q dp cp : Nat} {rl : List mOp} (r : RS_s h k b e q dp cp rl) (s m t : Int32) : RS_s (mPu h (34, 0) (55, 0) (56, 0) (57, 0) rl.length s m t) k b e q dp cp ((s, m, t) :: rl) := by
  obtain ⟨r1, r2, r3, r4, r5, r6, r7, r8, r9⟩ := r
  have o : ∀ f, vi (mPu h (34, 0) (55, 0) (56, 0) (57, 0) rl.length s m t) (32, 0) f = vi h (32, 0) f := fun f => by unfold mPu; rw [vi_sI_ne _ _ _ _ (fun z => (by cases z)), vi_sI_ne _ _ _ _ (fun z => (by cases z)), vi_sI_ne _ _ _ _ (fun z => (by cases z)), vi_sI_ne _ _ _ _ (fun z => (by cases z))]
  refine ⟨r1, ?_, (o _).trans r3, fun i hi => ?_, ?_, (o _).trans r6, (o _).trans r7, by unfold mPu; rw [vi_sI_eq]; rfl, ⟨?_, ?_, ?_, ?_⟩⟩
  · obtain ⟨a1, a2, a3, a4, a5, a6⟩ := r2
    exact ⟨a1, a2, a3, a4, a5, by unfold mPu; rw [vi_sI_nk _ _ _ (by decide), vi_sI_ne _ _ _ _ (fun z => (by cases z)), vi_sI_ne _ _ _ _ (fun z => (by cases z)), vi_sI_ne _ _ _ _ (fun z => (by cases z))]; exact a6⟩
  · rw [← r4 i hi]; unfold mb mPu; rw [vi_sI_ne _ _ _ _ (fun z => (by cases z)), vi_sI_ne _ _ _ _ (fun z => (by cases z)), vi_sI_ne _ _ _ _ (fun z => (by cases z)), vi_sI_ne _ _ _ _ (fun z => (by cases z))]
  · unfold TR; rw [o, o, o, o, o, show vl (mPu h (34, 0) (55, 0) (56, 0) (57, 0) rl.length s m t) = vl h from rfl]; exact r5
  · unfold mPu; rw [vi_sI_ne _ _ _ _ (fun z => (by cases z)), vi_sI_ne _ _ _ _ (fun z => (by cases z)), vi_sI_ne _ _ _ _ (fun z => (by cases z)), vi_sI_eq]
  · unfold mPu; rw [vi_sI_ne _ _ _ _ (fun z => (by cases z)), vi_sI_ne _ _ _ _ (fun z => (by cases z)), vi_sI_eq]
  · unfold mPu; rw [vi_sI_ne _ _ _ _ (fun z => (by cases z)), vi_sI_eq]
  · have key : ∀ (l : List mOp), l.length ≤ rl.length → RLs_s h k l → RLs_s (mPu h (34, 0) (55, 0) (56, 0) (57, 0) rl.length s m t) k l := by
      intro l
      induction l with
      | nil => intro _ _; trivial
      | cons p l ih =>
        intro hl z
        have hl' : l.length + 1 ≤ rl.length := hl
        refine ⟨?_, ?_, ?_, ih (by omega) z.2.2.2⟩
        · unfold mPu; rw [vi_sI_ne _ _ _ _ (fun z => (by cases z)), vi_sI_ne _ _ _ _ (fun z => (by cases z)), vi_sI_ne _ _ _ _ (fun z => (by cases z)), vi_sI_nk _ _ _ (by omega)]; exact z.1
        · unfold mPu; rw [vi_sI_ne _ _ _ _ (fun z => (by cases z)), vi_sI_ne _ _ _ _ (fun z => (by cases z)), vi_sI_nk _ _ _ (by omega), vi_sI_ne _ _ _ _ (fun z => (by cases z))]; exact z.2.1
        · unfold mPu; rw [vi_sI_ne _ _ _ _ (fun z => (by cases z)), vi_sI_nk _ _ _ (by omega), vi_sI_ne _ _ _ _ (fun z => (by cases z)), vi_sI_ne _ _ _ _ (fun z => (by cases z))]; exact z.2.2.1
    exact key rl (Nat.le_refl _) r9
theorem fP4_s {p : Nat} (h : 55 ≤ p ∧ p < 58) : (Nat.ble 55 p && Nat.blt p 58) = true := by
  rw [Nat.ble_eq.mpr h.1, show Nat.blt p 58 = true from Nat.ble_eq.mpr h.2]; rfl
theorem fPs_k_s {k p : Nat} (hp : 55 ≤ p ∧ p < 58) (f : Nat) : ¬ (fPs_s k).2.2.2.2 p 0 f = true := by
  show ¬ ((!(p == 32 && (Nat.ble 12 f && Nat.ble f 18)) && !(p == 35) && !(p == 34 && (0 : Nat) == 0 && f == 3) && !(Nat.ble 55 p && Nat.blt p 58 && (0 : Nat) == 0)) = true)
  rw [fP4_s hp, beq_self_eq_true]; simp
theorem fPs_3_s (k : Nat) : ¬ (fPs_s k).2.2.2.2 34 0 3 = true := Bool.false_ne_true
theorem mPu_E_s (h : Hp) (k n : Nat) (s m t : Int32) : Eqv (fPs_s k) h (mPu h (34, 0) (55, 0) (56, 0) (57, 0) n s m t) := Eqv.sI (Eqv.sI (Eqv.sI (Eqv.sI (Eqv.rf _) (fPs_k_s (by decide) _)) (fPs_k_s (by decide) _)) (fPs_k_s (by decide) _)) (fPs_3_s k)
theorem RS_f_s {h : Hp} {k : Nat} {b : Nat → Int32} {e q dp cp : Nat} {rl : List mOp} (r : RS_s h k b e q dp cp rl) {f : Nat} {x : Int32} (hf : f = 17 ∨ f = 18) {dp' cp' : Nat} (h17 : vi (sI h (32, 0) f x) (32, 0) 17 = nI dp') (h18 : vi (sI h (32, 0) f x) (32, 0) 18 = nI cp') : RS_s (sI h (32, 0) f x) k b e q dp' cp' rl := by
  obtain ⟨r1, r2, r3, r4, r5, r6, r7, r8, r9⟩ := r
  have o : ∀ g, g ≠ 17 → g ≠ 18 → vi (sI h (32, 0) f x) (32, 0) g = vi h (32, 0) g := fun g g1 g2 => vi_sI_nk _ _ _ (by omega)
  refine ⟨r1, ?_, (o _ (by decide) (by decide)).trans r3, fun i hi => ?_, ?_, h17, h18, (vi_sI_ne _ _ _ _ (fun z => (by cases z))).trans r8, RLs_c_s (fun i => vi_sI_ne _ _ _ _ (fun z => (by cases z))) (fun i => vi_sI_ne _ _ _ _ (fun z => (by cases z))) (fun i => vi_sI_ne _ _ _ _ (fun z => (by cases z))) _ r9⟩
  · obtain ⟨a1, a2, a3, a4, a5, a6⟩ := r2
    exact ⟨a1, a2, a3, a4, a5, by rw [vi_sI_ne _ _ _ _ (fun z => (by cases z))]; exact a6⟩
  · rw [← r4 i hi]; unfold mb; rw [vi_sI_ne _ _ _ _ (fun z => (by cases z))]
  · unfold TR; rw [o _ (by decide) (by decide), o _ (by decide) (by decide), o _ (by decide) (by decide), o _ (by decide) (by decide), o _ (by decide) (by decide), vl_sI]; exact r5
theorem f17_E_s (h : Hp) (k : Nat) (x : Int32) : Eqv (fPs_s k) h (sI h (32, 0) 17 x) := Eqv.sI (Eqv.rf _) Bool.false_ne_true
theorem f18_E_s (h : Hp) (k : Nat) (x : Int32) : Eqv (fPs_s k) h (sI h (32, 0) 18 x) := Eqv.sI (Eqv.rf _) Bool.false_ne_true
theorem one_parN_s {k : Nat} {b : Nat → Int32} {e : Nat} {Z : Hp} {ch te dp : Nat} {nu : Int32} {W M N : Nat → Int32} {h0 : Hp} {q0 cp : Nat} {rl : List mOp} {cd hd : List Int32} {i : Nat} {h c : Hp} {j q cp' : Nat} {nm sg : Int32} {Bc : List Int32} {Bm : List mOp} (he : e ≤ 300) (hi : i ≤ 8) (r : RS_s h k b e q dp cp' (Bm ++ rl)) (s : CS c b q ch cp' te dp 0 nm sg nu W M N (List.replicate i 10 ++ (Bc ++ cd)) hd) (hZ : Z = rLp e j 7 c) (hj : e + 1 ≤ q + j) (hq : q ≤ e) (bl : Blk Bc Bm) (ok : opsOK Bm) (hp : nPs Bc + cp = cp') (hq0 : q0 + 3 * i + 3 * Bm.length + 2 ≤ q) (hl : Bc.length + cd.length + i + hd.length + 3 ≤ q) (hc : cp' ≤ 20) (E0 : Eqv (fPs_s k) h0 h) (z : ¬ nI (i % 2) = 1) : (PQ1_s k b e Z ch te dp nu W M N h0 q0 cp rl cd hd) none h := by
  have z2 : ¬ i % 2 = 1 := fun y => z (by rw [y]; rfl)
  have bn := bl.nots i
  rw [if_neg z2] at bn
  refine ⟨rfl, c, j, q, cp', nm, sg, List.replicate i 10 ++ Bc, Bm, r, by rw [List.append_assoc]; exact s, hZ, hj, hq, bn, ok, by rw [nPs_rep]; exact hp, by omega, ?_, hc, E0⟩
  rw [List.length_append, List.length_append, List.length_replicate]; omega
theorem one_parY_s {k : Nat} {b : Nat → Int32} {e : Nat} {Z : Hp} {ch te dp : Nat} {nu : Int32} {W M N : Nat → Int32} {h0 : Hp} {q0 cp : Nat} {rl : List mOp} {cd hd : List Int32} {i : Nat} {h c : Hp} {j q cp' : Nat} {nm sg : Int32} {Bc : List Int32} {Bm : List mOp} (he : e ≤ 300) (hi : i ≤ 8) (r : RS_s h k b e q dp cp' (Bm ++ rl)) (s : CS c b q ch cp' te dp 0 nm sg nu W M N (List.replicate i 10 ++ (Bc ++ cd)) hd) (hZ : Z = rLp e j 7 c) (hj : e + 1 ≤ q + j) (hq : q ≤ e) (bl : Blk Bc Bm) (ok : opsOK Bm) (hp : nPs Bc + cp = cp') (hq0 : q0 + 3 * i + 3 * Bm.length + 2 ≤ q) (hl : Bc.length + cd.length + i + hd.length + 3 ≤ q) (hc : cp' ≤ 20) (hr : 3 * rl.length ≤ q0) (E0 : Eqv (fPs_s k) h0 h) (z : nI (i % 2) = 1) : (PQ1_s k b e Z ch te dp nu W M N h0 q0 cp rl cd hd) none (mPu h (34, 0) (55, 0) (56, 0) (57, 0) (Bm ++ rl).length 3 0 0) := by
  have z2 : i % 2 = 1 := (nI_eq (b := 1) (by omega) (by decide)).mp z
  have bn := bl.nots i
  rw [if_pos z2] at bn
  refine ⟨rfl, c, j, q, cp', nm, sg, List.replicate i 10 ++ Bc, (3, 0, 0) :: Bm, RS_put_s r 3 0 0, by rw [List.append_assoc]; exact s, hZ, hj, hq, bn, ?_, by rw [nPs_rep]; exact hp, by rw [List.length_cons]; omega, ?_, hc, E0.tr (mPu_E_s _ _ _ _ _ _)⟩
  · intro p hp2
    rcases List.mem_cons.mp hp2 with rfl | y
    · exact Or.inl (Or.inl rfl)
    · exact ok p y
  · rw [List.length_append, List.length_append, List.length_replicate]; omega
set_option maxRecDepth 20000 in
theorem one_par_s (g : G0) {k : Nat} {b : Nat → Int32} {e : Nat} {Z : Hp} {ch te dp : Nat} {nu : Int32} {W M N : Nat → Int32} {h0 : Hp} {q0 cp : Nat} {rl : List mOp} {cd hd : List Int32} {L : List (Nat × PV)} {d i : Nat} {h c : Hp} {j q cp' : Nat} {nm sg : Int32} {Bc : List Int32} {Bm : List mOp} (l1 : lk 1 L = some (pR (34, 0))) (l2 : lk 2 L = some (pI (nI i))) (he : e ≤ 300) (hi : i ≤ 8) (r : RS_s h k b e q dp cp' (Bm ++ rl)) (s : CS c b q ch cp' te dp 0 nm sg nu W M N (List.replicate i 10 ++ (Bc ++ cd)) hd) (hZ : Z = rLp e j 7 c) (hj : e + 1 ≤ q + j) (hq : q ≤ e) (bl : Blk Bc Bm) (ok : opsOK Bm) (hp : nPs Bc + cp = cp') (hq0 : q0 + 3 * i + 3 * Bm.length + 2 ≤ q) (hl : Bc.length + cd.length + i + hd.length + 3 ≤ q) (hc : cp' ≤ 20) (hr : 3 * rl.length ≤ q0) (E0 : Eqv (fPs_s k) h0 h) : V g kfX14_readOne (d + 1) 0 0 229 L [] h (PQ1_s k b e Z ch te dp nu W M N h0 q0 cp rl cd hd) (fun _ _ a h' => PX_s k Z h0 a h') := by
  have hM := r.1
  have bn := bl.nots i
  have lr : (Bm ++ rl).length = Bm.length + rl.length := List.length_append
  have en : vi h (34, 0) 3 = nI (Bm ++ rl).length := r.2.2.2.2.2.2.2.1
  have li : (List.replicate i (10 : Int32)).length = i := List.length_replicate
  refine v_iload_n dX14_readOne_229 l2 ?_
  refine v_iconst (2) dX14_readOne_230 (by decide) ?_
  refine v_irem dX14_readOne_231 (by decide) ?_
  rw [show nI i - nI i / 2 * 2 = nI (i % 2) from nI_rem (b := 2) (by omega) (by decide)]
  refine v_iconst (1) dX14_readOne_232 (by decide) ?_
  refine v_icmp_ne 243 dX14_readOne_233 (by decide) (fun c233 => ?_) (fun c233 => ?_)
  · refine v_return dX14_readOne_243 rfl ?_
    first | exact one_parN_s he hi r s hZ hj hq bl ok hp hq0 hl hc E0 c233 | exact one_parY_s he hi r s hZ hj hq bl ok hp hq0 hl hc hr E0 c233
  · refine v_aload_n dX14_readOne_236 l1 ?_
    refine v_iconst (3) dX14_readOne_237 (by decide) ?_
    refine v_iconst (0) dX14_readOne_238 (by decide) ?_
    refine v_iconst (0) dX14_readOne_239 (by decide) ?_
    refine v_invVE (M_put33_s g h r.2.1 (n := (Bm ++ rl).length) (by omega) en) dX14_readOne_240 cwX12_put mlX14_255 ⟨Nat.le_of_ble_eq_true rfl, _, _, rfl, rfl, rfl⟩ rfl rfl (by omega) (by decide) (Nat.le_of_ble_eq_true rfl) ?_
    refine v_return dX14_readOne_243 rfl ?_
    first | exact one_parN_s he hi r s hZ hj hq bl ok hp hq0 hl hc E0 c233 | exact one_parY_s he hi r s hZ hj hq bl ok hp hq0 hl hc hr E0 c233
