theorem rsum_loop (g : G0) {b : Nat → Int32} {e : Nat} {Z : Hp} {ch cp dp : Nat} {W M N : Nat → Int32} {cd hd : List Int32} {k c0 : Nat} {h0 : Hp} {rl : List mOp} {d : Nat} (he : e ≤ 300) (hc0 : c0 < 12) : ∀ (n te : Nat), te + n = 4 → ∀ (q : Nat) (h : Hp) (y4 y5 : Int32), q ≤ e → 3 * rl.length ≤ q → RS h k b e q dp cp rl → SH b e Z ch cp dp W M N cd hd k c0 h q te → vi h (44, k) c0 = nI te → FrS k c0 h0 h → V g kfX14_readSum (d + 8) 0 0 2 [(3, pI 1), (5, pI y5), (4, pI y4), (0, pR (32, 0)), (1, pR (33, k)), (2, pI (nI c0))] [] h (PQS b e Z ch cp dp W M N cd hd k c0 h0 rl) (fun _ _ a h' => PXr k Z h0 a h')
  | 0, te, hn, q, h, y4, y5, hq, hr, r, s, e44, F => sum_bodyB g he hq hc0 hr r s (by omega) e44 F (fun z => absurd z (by omega))
  | n + 1, te, hn, q, h, y4, y5, hq, hr, r, s, e44, F => sum_bodyB g he hq hc0 hr r s (by omega) e44 F (fun _ q2 h2 y4 y5 b0 b1 b2 b3 b4 b5 => rsum_loop g he hc0 n (te + 1) (by omega) q2 h2 y4 y5 b1 (by omega) b2 b3 b4 b5)
theorem FrS.rf (k c0 : Nat) (h : Hp) : FrS k c0 h h := ⟨Eqv.rf h, fun _ _ _ => rfl, fun _ _ => rfl, fun _ _ => rfl, fun _ _ => rfl, rfl⟩
set_option maxRecDepth 20000 in
theorem M_readSum (g : G0) {b : Nat → Int32} {e : Nat} {Z : Hp} {ch cp dp : Nat} {W M N : Nat → Int32} {cd hd : List Int32} {k c0 : Nat} {h : Hp} {rl : List mOp} {d q : Nat} (he : e ≤ 300) (hc0 : c0 < 12) (hq : q ≤ e) (hrl : 3 * rl.length ≤ q) (r : RS h k b e q dp cp rl) (s : SH b e Z ch cp dp W M N cd hd k c0 h q 0) (e44 : vi h (44, k) c0 = nI 0) : Mx g yX14_readSum wX14_readSum (d + 8) [pR (32, 0), pR (33, k), pI (nI c0)] h 0 0 (PQS b e Z ch cp dp W M N cd hd k c0 h rl) (PXr k Z h) := by
  refine Mx.by kfX14_readSum rfl (by decide) (Nat.le_of_ble_eq_true rfl) ?_
  refine v_iconst (1) dX14_readSum_0 (by decide) ?_
  refine v_istore_n dX14_readSum_1 (by decide) ?_
  exact sum_bodyA g he hq hc0 hrl r s (by omega) e44 (FrS.rf k c0 h) (fun _ q2 h2 y4 y5 b0 b1 b2 b3 b4 b5 => rsum_loop g he hc0 3 1 rfl q2 h2 y4 y5 b1 (by omega) b2 b3 b4 b5)
