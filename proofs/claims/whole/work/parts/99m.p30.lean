theorem fRw_2 (k f : Nat) (hf : f = 2 ∨ f = 3) : ¬ (fRw k).2.2.2.2 33 k f = true := by
  rcases hf with rfl | rfl <;> (show ¬ ((true && true && !(true && k == k && true) && true) = true); rw [beq_self_eq_true]; decide)
theorem s2_E (h : Hp) (k : Nat) (x : Int32) : Eqv (fRw k) h (sI h (33, k) 2 x) := Eqv.sI (Eqv.rf _) (fRw_2 k 2 (Or.inl rfl))
theorem RS_2 {h : Hp} {k : Nat} {b : Nat → Int32} {e q dp cp : Nat} {rl : List mOp} (r : RS h k b e q dp cp rl) {m : Nat} (hm : m ≤ 12) : RS (sI h (33, k) 2 (nI m)) k b e q dp cp rl := by
  obtain ⟨r1, r2, r3, r4, r5, r6, r7, r8, r9⟩ := r
  have o : ∀ (u : Nat), ¬ u = 33 → ∀ (v f : Nat), vi (sI h (33, k) 2 (nI m)) (u, v) f = vi h (u, v) f := fun u hu v f => vi_sI_ne _ _ _ _ (fun z => hu (congrArg Prod.fst z))
  have o32 := o 32 (by omega)
  refine ⟨r1, ?_, (o32 _ _).trans r3, fun i' hi => ?_, ?_, (o32 _ _).trans r6, (o32 _ _).trans r7, (vi_sI_nk _ _ _ (by decide)).trans r8, RLs_c (fun _ => o 45 (by omega) _ _) (fun _ => o 46 (by omega) _ _) (fun _ => o 47 (by omega) _ _) _ r9⟩
  · obtain ⟨a1, a2, a3, a4, a5, a6⟩ := r2
    exact ⟨a1, a2, a3, a4, a5, m, hm, vi_sI_eq _ _ _ _⟩
  · rw [← r4 i' hi]; unfold mb; rw [o 37 (by omega)]
  · unfold TR; rw [o32, o32, o32, o32, o32, vl_sI]; exact r5
theorem DL_h {h h' : Hp} {k : Nat} {W M N : Nat → Int32} {n : Nat} {cd : List Int32} {rl : List mOp} (f : ∀ p, p = 40 ∨ p = 41 ∨ p = 42 ∨ p = 43 ∨ p = 44 ∨ p = 48 ∨ p = 49 → ∀ i, vi h' (p, k) i = vi h (p, k) i) (d : DL h k W M N n cd rl) : DL h' k W M N n cd rl := DL_c n cd rl ⟨fun p hp i _ => f p (by omega) i, fun i _ => f 48 (by decide) i, fun i _ => f 49 (by decide) i, fun _ _ => rfl, fun _ _ => rfl, fun _ _ => rfl⟩ d
theorem TS_c {b : Nat → Int32} {e : Nat} {Z : Hp} {cp k n : Nat} {h h' : Hp} {q : Nat} {rl : List mOp} (f : ∀ p, p = 40 ∨ p = 41 ∨ p = 42 ∨ p = 43 ∨ p = 44 ∨ p = 48 ∨ p = 49 → ∀ i, vi h' (p, k) i = vi h (p, k) i) (s : TS b e Z cp k n h q rl) : TS b e Z cp k n h' q rl := by
  refine ⟨fun hk => ?_, fun hk => ?_, s.2.2⟩
  · obtain ⟨c, j, te, nm, sg, nu, W, M, N, cd, a1, a2, a3, a4, a5⟩ := s.1 hk
    exact ⟨c, j, te, nm, sg, nu, W, M, N, cd, a1, a2, a3, DL_h f a4, a5⟩
  · obtain ⟨te, nm, sg, nu, W, M, N, cd, a1, a2⟩ := s.2.1 hk
    exact ⟨te, nm, sg, nu, W, M, N, cd, a1, DL_h f a2⟩
/-- before a change -/
def LI (b : Nat → Int32) (e : Nat) (Z : Hp) (k n cp : Nat) (h : Hp) (q : Nat) (rl : List mOp) : Prop := RS h k b e q 0 cp rl ∧ q ≤ e ∧ 3 * rl.length ≤ q ∧ cp ≤ 20 ∧ vi h (33, k) 2 = nI n ∧ ∃ (c : Hp) (j te : Nat) (nm sg nu : Int32) (W M N : Nat → Int32) (cd : List Int32), CS c b q n cp te 0 0 nm sg nu W M N cd [] ∧ Z = rLp e j 0 c ∧ e + 1 ≤ q + j ∧ cd.length ≤ q ∧ DL h k W M N n cd rl
/-- the end of reads -/
def PQR (b : Nat → Int32) (e : Nat) (Z : Hp) (k : Nat) (h : Hp) : Option PV → Hp → Prop := fun r h' => r = none ∧ Eqv (fRw k) h h' ∧ ∃ (n cp q : Nat) (rl : List mOp) (te : Nat) (nm sg nu : Int32) (W M N : Nat → Int32) (cd : List Int32), RS h' k b e q 0 cp rl ∧ 1 ≤ n ∧ n ≤ 12 ∧ 3 * rl.length ≤ e ∧ vi h' (33, k) 2 = nI n ∧ CS Z b (tok b e q).1 n cp te 0 0 nm sg nu W M N cd [] ∧ DL h' k W M N n cd rl
set_option maxRecDepth 20000 in
theorem reads_tail (g : G0) {b : Nat → Int32} {e : Nat} {Z : Hp} {cp k n : Nat} {h0 : Hp} {rl : List mOp} {d q : Nat} {h : Hp} {x3 x4 : Int32} (he : e ≤ 300) (hq : q ≤ e) (hn : n < 12) (hcp : cp ≤ 20) (hrl : 3 * rl.length ≤ q) (r : RS h k b e q 0 cp rl) (s : TS b e Z cp k n h q rl) (e2 : vi h (33, k) 2 = nI n) (E : Eqv (fRw k) h0 h) (ih : (tok b e q).2.2.1 = 59 → ∀ (h2 : Hp) (y3 y4 : Int32), LI b e Z k (n + 1) cp h2 (tok b e q).1 rl → Eqv (fRw k) h0 h2 → V g kfX14_reads (d + 52) 0 0 26 [(2, pI 1), (4, pI y4), (3, pI y3), (0, pR (32, 0)), (1, pR (33, k))] [] h2 (PQR b e Z k h0) (fun _ _ a h' => PXr k Z h0 a h')) : V g kfX14_reads (d + 52) 0 0 227 [(4, pI x4), (3, pI x3), (2, pI 1), (0, pR (32, 0)), (1, pR (33, k))] [] h (PQR b e Z k h0) (fun _ _ a h' => PXr k Z h0 a h') := by
  have r1 : RS (sI h (33, k) 2 (nI (n + 1))) k b e q 0 cp rl := RS_2 r (by omega)
  have hM := r1.1
  have t := r1.2.2.2.2.1
  have E1 : Eqv (fRw k) h0 (sI h (33, k) 2 (nI (n + 1))) := E.tr (s2_E h k _)
  have f1 : ∀ p, p = 40 ∨ p = 41 ∨ p = 42 ∨ p = 43 ∨ p = 44 ∨ p = 48 ∨ p = 49 → ∀ i, vi (sI h (33, k) 2 (nI (n + 1))) (p, k) i = vi h (p, k) i := fun p hp i => vi_sI_ne _ _ _ _ (fun z => by have z := congrArg Prod.fst z; have z : p = 33 := z; omega)
  refine v_aload_n dX14_reads_227 rfl ?_
  refine v_dup dX14_reads_228 rfl ?_
  refine v_getI fl_X14_208 dX14_reads_229 rfl rfl (Nat.le_of_ble_eq_true rfl) r.2.1.1 ?_
  rw [e2]
  refine v_iconst (1) dX14_reads_232 (by decide) ?_
  refine v_iadd dX14_reads_233 ?_
  rw [nI_s]
  refine v_putI fl_X14_208 (fun z => by cases z) dX14_reads_234 rfl rfl (Nat.le_of_ble_eq_true rfl) rfl rfl r.2.1.1 ?_
  refine v_aload_n dX14_reads_237 rfl ?_
  refine v_bipush (59) dX14_reads_238 (by decide) ?_
  refine v_invVE (M_is g (sI h (33, k) 2 (nI (n + 1))) hM) dX14_reads_240 cwX14_is mlX14_249 (ob_32 _) rfl rfl (by omega) (by decide) (Nat.le_of_ble_eq_true rfl) ?_
  refine v_istore_n dX14_reads_243 (by decide) ?_
  refine v_iload_n dX14_reads_244 rfl ?_
  refine v_if_eq 252 dX14_reads_245 (by decide) (fun c245 => ?_) (fun c245 => ?_)
  · refine v_goto 26 dX14_reads_252 (by decide) ?_
    refine v_iload_n dX14_reads_26 rfl ?_
    refine v_if_eq 255 dX14_reads_27 (by decide) (fun _ => ?_) (fun z => absurd c245 z)
    refine v_aload_n dX14_reads_255 rfl ?_
    refine v_getI fl_X14_156 dX14_reads_256 rfl rfl (Nat.le_of_ble_eq_true rfl) (mh_32_0 hM) ?_
    refine v_iconst (1) dX14_reads_259 (by decide) ?_
    refine v_icmp_eq 269 dX14_reads_260 (by decide) (fun c260 => ?_) (fun c260 => ?_)
    · refine v_return dX14_reads_269 rfl ?_
      obtain ⟨te, nm, sg, nu, W, M, N, cd, a1, a2⟩ := (TS_c f1 s).2.1 (t.fin.mp c260)
      exact ⟨rfl, E1, n + 1, cp, q, rl, te, nm, sg, nu, W, M, N, cd, r1, by omega, by omega, by omega, vi_sI_eq _ _ _ _, a1, a2⟩
    · refine v_aload_n dX14_reads_263 rfl ?_
      refine v_iconst (1) dX14_reads_264 (by decide) ?_
      refine v_invVE (M_stop g (sI h (33, k) 2 (nI (n + 1))) hM) dX14_reads_265 cwX14_stop mlX14_196 (ob_32 _) rfl rfl (by omega) (by decide) (Nat.le_of_ble_eq_true rfl) ?_
      refine v_athrow dX14_reads_268 ?_
      exact PXr_st E1 r1.2.1 t (s.2.2 (fun y => (t.mi (c := 59) rfl).mpr y c245) (fun y => c260 (t.fin.mpr y)))
  · have k59 := (t.mi (c := 59) rfl).mp c245
    refine v_aload_n dX14_reads_248 rfl ?_
    refine v_invV 0 0 (M_nextR g _ r1 he hq (by rw [k59]; decide)) dX14_reads_249 cwX14_next mlX14_220 (ob_32 _) rfl rfl (by omega) (by decide) (Nat.le_of_ble_eq_true rfl) (Nat.le_of_ble_eq_true rfl) (Nat.le_of_ble_eq_true rfl) (fun rv h2 q2 => ?_) (fun a1 h2 q2 => q2.elim)
    obtain ⟨rfl, r2, e3⟩ := q2
    refine v_goto 26 dX14_reads_252 (by decide) ?_
    rw [mI_1 c245]
    have f2 : ∀ p, p = 40 ∨ p = 41 ∨ p = 42 ∨ p = 43 ∨ p = 44 ∨ p = 48 ∨ p = 49 → ∀ i, vi h2 (p, k) i = vi h (p, k) i := fun p hp i => (Ps_row e3 hp i).trans (f1 p hp i)
    obtain ⟨c, j, te, nm, sg, nu, W, M, N, cd, a1, a2, a3, a4, a5⟩ := (TS_c f2 s).1 k59
    have ad := tok_adv he hq (by rw [k59]; decide)
    exact ih k59 h2 x3 x4 ⟨r2, tok_end he hq, by omega, hcp, (Ps_2 e3).trans (vi_sI_eq _ _ _ _), c, j, te, nm, sg, nu, W, M, N, cd, a1, a2, a3, a5, a4⟩ (E1.tr (fPs_Rw e3))
