theorem RR.xi {h : Hp} (r : RR h) : XI h := r.1
theorem mj_of {h h' : Hp} (r : RR h) (e : Eqv fMJ h h') : MJ h' := MJ_congr e r.2.2.1
theorem Op.of2 {g : G0} {h : Hp} {yx : MethodName} {wx : Cond} {A : List PV} {ym : MethodName} {wm : Cond} {B : List PV} {dx dm : Nat} {X Y : Int32 × Hp} (v : Int32) (H1 H2 : Hp) (eX : X = (v, H1)) (eY : Y = (v, H2)) (hx : Mx g yx wx dx A h 0 0 (qE (some (pI X.1)) X.2) noX) (hm : Mx g ym wm dm B H1 0 0 (qE (some (pI Y.1)) Y.2) noX) (hr : RR H2) (hc : cn H2 = cn h) : Op g h yx wx A ym wm B dx dm 0 0 0 0 := by
  subst eX; subst eY
  exact Op.of hx hm rfl hr hc
theorem RR_z {h : Hp} (r : RR h) : RR (mZ h) := ⟨XI_congr (by repeat (first | refine Eqv.sI ?_ Bool.false_ne_true | refine Eqv.sR ?_ Bool.false_ne_true | refine Eqv.sRs ?_ Bool.false_ne_true | refine Eqv.sL ?_ Bool.false_ne_true | exact Eqv.rf _)) r.1, LD_congr (by repeat (first | refine Eqv.sI ?_ Bool.false_ne_true | refine Eqv.sR ?_ Bool.false_ne_true | refine Eqv.sRs ?_ Bool.false_ne_true | refine Eqv.sL ?_ Bool.false_ne_true | exact Eqv.rf _)) r.2.1, MJ_congr (by repeat (first | refine Eqv.sI ?_ Bool.false_ne_true | refine Eqv.sR ?_ Bool.false_ne_true | refine Eqv.sRs ?_ Bool.false_ne_true | refine Eqv.sL ?_ Bool.false_ne_true | exact Eqv.rf _)) r.2.2.1, ScA_congr (by repeat (first | refine Eqv.sI ?_ Bool.false_ne_true | refine Eqv.sR ?_ Bool.false_ne_true | refine Eqv.sRs ?_ Bool.false_ne_true | refine Eqv.sL ?_ Bool.false_ne_true | exact Eqv.rf _)) r.2.2.2.1, TaR_congr (by repeat (first | refine Eqv.sI ?_ Bool.false_ne_true | refine Eqv.sR ?_ Bool.false_ne_true | refine Eqv.sRs ?_ Bool.false_ne_true | refine Eqv.sL ?_ Bool.false_ne_true | exact Eqv.rf _)) r.2.2.2.2.1, PeR_congr (by repeat (first | refine Eqv.sI ?_ Bool.false_ne_true | refine Eqv.sR ?_ Bool.false_ne_true | refine Eqv.sRs ?_ Bool.false_ne_true | refine Eqv.sL ?_ Bool.false_ne_true | exact Eqv.rf _)) r.2.2.2.2.2.1, PaR_congr (by repeat (first | refine Eqv.sI ?_ Bool.false_ne_true | refine Eqv.sR ?_ Bool.false_ne_true | refine Eqv.sRs ?_ Bool.false_ne_true | refine Eqv.sL ?_ Bool.false_ne_true | exact Eqv.rf _)) r.2.2.2.2.2.2.1, RoR_congr (by repeat (first | refine Eqv.sI ?_ Bool.false_ne_true | refine Eqv.sR ?_ Bool.false_ne_true | refine Eqv.sRs ?_ Bool.false_ne_true | refine Eqv.sL ?_ Bool.false_ne_true | exact Eqv.rf _)) r.2.2.2.2.2.2.2.1, TrR_congr (by repeat (first | refine Eqv.sI ?_ Bool.false_ne_true | refine Eqv.sR ?_ Bool.false_ne_true | refine Eqv.sRs ?_ Bool.false_ne_true | refine Eqv.sL ?_ Bool.false_ne_true | exact Eqv.rf _)) r.2.2.2.2.2.2.2.2.1, LaR_congr (by repeat (first | refine Eqv.sI ?_ Bool.false_ne_true | refine Eqv.sR ?_ Bool.false_ne_true | refine Eqv.sRs ?_ Bool.false_ne_true | refine Eqv.sL ?_ Bool.false_ne_true | exact Eqv.rf _)) r.2.2.2.2.2.2.2.2.2.1, CsR_congr (by repeat (first | refine Eqv.sI ?_ Bool.false_ne_true | refine Eqv.sR ?_ Bool.false_ne_true | refine Eqv.sRs ?_ Bool.false_ne_true | refine Eqv.sL ?_ Bool.false_ne_true | exact Eqv.rf _)) r.2.2.2.2.2.2.2.2.2.2.1, SR_congr (by repeat (first | refine Eqv.sI ?_ Bool.false_ne_true | refine Eqv.sR ?_ Bool.false_ne_true | refine Eqv.sRs ?_ Bool.false_ne_true | refine Eqv.sL ?_ Bool.false_ne_true | exact Eqv.rf _)) r.2.2.2.2.2.2.2.2.2.2.2⟩
theorem RR_ref1 {h : Hp} (r : RR h) : RR (mT (mZ (xT h 1)) 1) := ⟨XI_congr (by repeat (first | refine Eqv.sI ?_ Bool.false_ne_true | refine Eqv.sR ?_ Bool.false_ne_true | refine Eqv.sRs ?_ Bool.false_ne_true | refine Eqv.sL ?_ Bool.false_ne_true | exact Eqv.rf _)) r.1, LD_congr (by repeat (first | refine Eqv.sI ?_ Bool.false_ne_true | refine Eqv.sR ?_ Bool.false_ne_true | refine Eqv.sRs ?_ Bool.false_ne_true | refine Eqv.sL ?_ Bool.false_ne_true | exact Eqv.rf _)) r.2.1, MJ_congr (by repeat (first | refine Eqv.sI ?_ Bool.false_ne_true | refine Eqv.sR ?_ Bool.false_ne_true | refine Eqv.sRs ?_ Bool.false_ne_true | refine Eqv.sL ?_ Bool.false_ne_true | exact Eqv.rf _)) r.2.2.1, ⟨r.2.2.2.1.1, r.2.2.2.1.2.1, r.2.2.2.1.2.2.1, rfl, r.2.2.2.1.2.2.2.2.1, (if_neg (show ¬ (1 : Int32) = 4 by decide)).symm⟩, TaR_congr (by repeat (first | refine Eqv.sI ?_ Bool.false_ne_true | refine Eqv.sR ?_ Bool.false_ne_true | refine Eqv.sRs ?_ Bool.false_ne_true | refine Eqv.sL ?_ Bool.false_ne_true | exact Eqv.rf _)) r.2.2.2.2.1, PeR_congr (by repeat (first | refine Eqv.sI ?_ Bool.false_ne_true | refine Eqv.sR ?_ Bool.false_ne_true | refine Eqv.sRs ?_ Bool.false_ne_true | refine Eqv.sL ?_ Bool.false_ne_true | exact Eqv.rf _)) r.2.2.2.2.2.1, PaR_congr (by repeat (first | refine Eqv.sI ?_ Bool.false_ne_true | refine Eqv.sR ?_ Bool.false_ne_true | refine Eqv.sRs ?_ Bool.false_ne_true | refine Eqv.sL ?_ Bool.false_ne_true | exact Eqv.rf _)) r.2.2.2.2.2.2.1, RoR_congr (by repeat (first | refine Eqv.sI ?_ Bool.false_ne_true | refine Eqv.sR ?_ Bool.false_ne_true | refine Eqv.sRs ?_ Bool.false_ne_true | refine Eqv.sL ?_ Bool.false_ne_true | exact Eqv.rf _)) r.2.2.2.2.2.2.2.1, TrR_congr (by repeat (first | refine Eqv.sI ?_ Bool.false_ne_true | refine Eqv.sR ?_ Bool.false_ne_true | refine Eqv.sRs ?_ Bool.false_ne_true | refine Eqv.sL ?_ Bool.false_ne_true | exact Eqv.rf _)) r.2.2.2.2.2.2.2.2.1, LaR_congr (by repeat (first | refine Eqv.sI ?_ Bool.false_ne_true | refine Eqv.sR ?_ Bool.false_ne_true | refine Eqv.sRs ?_ Bool.false_ne_true | refine Eqv.sL ?_ Bool.false_ne_true | exact Eqv.rf _)) r.2.2.2.2.2.2.2.2.2.1, CsR_congr (by repeat (first | refine Eqv.sI ?_ Bool.false_ne_true | refine Eqv.sR ?_ Bool.false_ne_true | refine Eqv.sRs ?_ Bool.false_ne_true | refine Eqv.sL ?_ Bool.false_ne_true | exact Eqv.rf _)) r.2.2.2.2.2.2.2.2.2.2.1, SR_congr (by repeat (first | refine Eqv.sI ?_ Bool.false_ne_true | refine Eqv.sR ?_ Bool.false_ne_true | refine Eqv.sRs ?_ Bool.false_ne_true | refine Eqv.sL ?_ Bool.false_ne_true | exact Eqv.rf _)) r.2.2.2.2.2.2.2.2.2.2.2⟩
theorem RR_ref2 {h : Hp} (r : RR h) : RR (mT (mZ (xT h 2)) 2) := ⟨XI_congr (by repeat (first | refine Eqv.sI ?_ Bool.false_ne_true | refine Eqv.sR ?_ Bool.false_ne_true | refine Eqv.sRs ?_ Bool.false_ne_true | refine Eqv.sL ?_ Bool.false_ne_true | exact Eqv.rf _)) r.1, LD_congr (by repeat (first | refine Eqv.sI ?_ Bool.false_ne_true | refine Eqv.sR ?_ Bool.false_ne_true | refine Eqv.sRs ?_ Bool.false_ne_true | refine Eqv.sL ?_ Bool.false_ne_true | exact Eqv.rf _)) r.2.1, MJ_congr (by repeat (first | refine Eqv.sI ?_ Bool.false_ne_true | refine Eqv.sR ?_ Bool.false_ne_true | refine Eqv.sRs ?_ Bool.false_ne_true | refine Eqv.sL ?_ Bool.false_ne_true | exact Eqv.rf _)) r.2.2.1, ⟨r.2.2.2.1.1, r.2.2.2.1.2.1, r.2.2.2.1.2.2.1, rfl, r.2.2.2.1.2.2.2.2.1, (if_neg (show ¬ (2 : Int32) = 4 by decide)).symm⟩, TaR_congr (by repeat (first | refine Eqv.sI ?_ Bool.false_ne_true | refine Eqv.sR ?_ Bool.false_ne_true | refine Eqv.sRs ?_ Bool.false_ne_true | refine Eqv.sL ?_ Bool.false_ne_true | exact Eqv.rf _)) r.2.2.2.2.1, PeR_congr (by repeat (first | refine Eqv.sI ?_ Bool.false_ne_true | refine Eqv.sR ?_ Bool.false_ne_true | refine Eqv.sRs ?_ Bool.false_ne_true | refine Eqv.sL ?_ Bool.false_ne_true | exact Eqv.rf _)) r.2.2.2.2.2.1, PaR_congr (by repeat (first | refine Eqv.sI ?_ Bool.false_ne_true | refine Eqv.sR ?_ Bool.false_ne_true | refine Eqv.sRs ?_ Bool.false_ne_true | refine Eqv.sL ?_ Bool.false_ne_true | exact Eqv.rf _)) r.2.2.2.2.2.2.1, RoR_congr (by repeat (first | refine Eqv.sI ?_ Bool.false_ne_true | refine Eqv.sR ?_ Bool.false_ne_true | refine Eqv.sRs ?_ Bool.false_ne_true | refine Eqv.sL ?_ Bool.false_ne_true | exact Eqv.rf _)) r.2.2.2.2.2.2.2.1, TrR_congr (by repeat (first | refine Eqv.sI ?_ Bool.false_ne_true | refine Eqv.sR ?_ Bool.false_ne_true | refine Eqv.sRs ?_ Bool.false_ne_true | refine Eqv.sL ?_ Bool.false_ne_true | exact Eqv.rf _)) r.2.2.2.2.2.2.2.2.1, LaR_congr (by repeat (first | refine Eqv.sI ?_ Bool.false_ne_true | refine Eqv.sR ?_ Bool.false_ne_true | refine Eqv.sRs ?_ Bool.false_ne_true | refine Eqv.sL ?_ Bool.false_ne_true | exact Eqv.rf _)) r.2.2.2.2.2.2.2.2.2.1, CsR_congr (by repeat (first | refine Eqv.sI ?_ Bool.false_ne_true | refine Eqv.sR ?_ Bool.false_ne_true | refine Eqv.sRs ?_ Bool.false_ne_true | refine Eqv.sL ?_ Bool.false_ne_true | exact Eqv.rf _)) r.2.2.2.2.2.2.2.2.2.2.1, SR_congr (by repeat (first | refine Eqv.sI ?_ Bool.false_ne_true | refine Eqv.sR ?_ Bool.false_ne_true | refine Eqv.sRs ?_ Bool.false_ne_true | refine Eqv.sL ?_ Bool.false_ne_true | exact Eqv.rf _)) r.2.2.2.2.2.2.2.2.2.2.2⟩
theorem RR_ref3 {h : Hp} (r : RR h) : RR (mT (mZ (xT h 3)) 3) := ⟨XI_congr (by repeat (first | refine Eqv.sI ?_ Bool.false_ne_true | refine Eqv.sR ?_ Bool.false_ne_true | refine Eqv.sRs ?_ Bool.false_ne_true | refine Eqv.sL ?_ Bool.false_ne_true | exact Eqv.rf _)) r.1, LD_congr (by repeat (first | refine Eqv.sI ?_ Bool.false_ne_true | refine Eqv.sR ?_ Bool.false_ne_true | refine Eqv.sRs ?_ Bool.false_ne_true | refine Eqv.sL ?_ Bool.false_ne_true | exact Eqv.rf _)) r.2.1, MJ_congr (by repeat (first | refine Eqv.sI ?_ Bool.false_ne_true | refine Eqv.sR ?_ Bool.false_ne_true | refine Eqv.sRs ?_ Bool.false_ne_true | refine Eqv.sL ?_ Bool.false_ne_true | exact Eqv.rf _)) r.2.2.1, ⟨r.2.2.2.1.1, r.2.2.2.1.2.1, r.2.2.2.1.2.2.1, rfl, r.2.2.2.1.2.2.2.2.1, (if_neg (show ¬ (3 : Int32) = 4 by decide)).symm⟩, TaR_congr (by repeat (first | refine Eqv.sI ?_ Bool.false_ne_true | refine Eqv.sR ?_ Bool.false_ne_true | refine Eqv.sRs ?_ Bool.false_ne_true | refine Eqv.sL ?_ Bool.false_ne_true | exact Eqv.rf _)) r.2.2.2.2.1, PeR_congr (by repeat (first | refine Eqv.sI ?_ Bool.false_ne_true | refine Eqv.sR ?_ Bool.false_ne_true | refine Eqv.sRs ?_ Bool.false_ne_true | refine Eqv.sL ?_ Bool.false_ne_true | exact Eqv.rf _)) r.2.2.2.2.2.1, PaR_congr (by repeat (first | refine Eqv.sI ?_ Bool.false_ne_true | refine Eqv.sR ?_ Bool.false_ne_true | refine Eqv.sRs ?_ Bool.false_ne_true | refine Eqv.sL ?_ Bool.false_ne_true | exact Eqv.rf _)) r.2.2.2.2.2.2.1, RoR_congr (by repeat (first | refine Eqv.sI ?_ Bool.false_ne_true | refine Eqv.sR ?_ Bool.false_ne_true | refine Eqv.sRs ?_ Bool.false_ne_true | refine Eqv.sL ?_ Bool.false_ne_true | exact Eqv.rf _)) r.2.2.2.2.2.2.2.1, TrR_congr (by repeat (first | refine Eqv.sI ?_ Bool.false_ne_true | refine Eqv.sR ?_ Bool.false_ne_true | refine Eqv.sRs ?_ Bool.false_ne_true | refine Eqv.sL ?_ Bool.false_ne_true | exact Eqv.rf _)) r.2.2.2.2.2.2.2.2.1, LaR_congr (by repeat (first | refine Eqv.sI ?_ Bool.false_ne_true | refine Eqv.sR ?_ Bool.false_ne_true | refine Eqv.sRs ?_ Bool.false_ne_true | refine Eqv.sL ?_ Bool.false_ne_true | exact Eqv.rf _)) r.2.2.2.2.2.2.2.2.2.1, CsR_congr (by repeat (first | refine Eqv.sI ?_ Bool.false_ne_true | refine Eqv.sR ?_ Bool.false_ne_true | refine Eqv.sRs ?_ Bool.false_ne_true | refine Eqv.sL ?_ Bool.false_ne_true | exact Eqv.rf _)) r.2.2.2.2.2.2.2.2.2.2.1, SR_congr (by repeat (first | refine Eqv.sI ?_ Bool.false_ne_true | refine Eqv.sR ?_ Bool.false_ne_true | refine Eqv.sRs ?_ Bool.false_ne_true | refine Eqv.sL ?_ Bool.false_ne_true | exact Eqv.rf _)) r.2.2.2.2.2.2.2.2.2.2.2⟩
theorem RR_ref5 {h : Hp} (r : RR h) : RR (mT (mZ (xT h 5)) 5) := ⟨XI_congr (by repeat (first | refine Eqv.sI ?_ Bool.false_ne_true | refine Eqv.sR ?_ Bool.false_ne_true | refine Eqv.sRs ?_ Bool.false_ne_true | refine Eqv.sL ?_ Bool.false_ne_true | exact Eqv.rf _)) r.1, LD_congr (by repeat (first | refine Eqv.sI ?_ Bool.false_ne_true | refine Eqv.sR ?_ Bool.false_ne_true | refine Eqv.sRs ?_ Bool.false_ne_true | refine Eqv.sL ?_ Bool.false_ne_true | exact Eqv.rf _)) r.2.1, MJ_congr (by repeat (first | refine Eqv.sI ?_ Bool.false_ne_true | refine Eqv.sR ?_ Bool.false_ne_true | refine Eqv.sRs ?_ Bool.false_ne_true | refine Eqv.sL ?_ Bool.false_ne_true | exact Eqv.rf _)) r.2.2.1, ⟨r.2.2.2.1.1, r.2.2.2.1.2.1, r.2.2.2.1.2.2.1, rfl, r.2.2.2.1.2.2.2.2.1, (if_neg (show ¬ (5 : Int32) = 4 by decide)).symm⟩, TaR_congr (by repeat (first | refine Eqv.sI ?_ Bool.false_ne_true | refine Eqv.sR ?_ Bool.false_ne_true | refine Eqv.sRs ?_ Bool.false_ne_true | refine Eqv.sL ?_ Bool.false_ne_true | exact Eqv.rf _)) r.2.2.2.2.1, PeR_congr (by repeat (first | refine Eqv.sI ?_ Bool.false_ne_true | refine Eqv.sR ?_ Bool.false_ne_true | refine Eqv.sRs ?_ Bool.false_ne_true | refine Eqv.sL ?_ Bool.false_ne_true | exact Eqv.rf _)) r.2.2.2.2.2.1, PaR_congr (by repeat (first | refine Eqv.sI ?_ Bool.false_ne_true | refine Eqv.sR ?_ Bool.false_ne_true | refine Eqv.sRs ?_ Bool.false_ne_true | refine Eqv.sL ?_ Bool.false_ne_true | exact Eqv.rf _)) r.2.2.2.2.2.2.1, RoR_congr (by repeat (first | refine Eqv.sI ?_ Bool.false_ne_true | refine Eqv.sR ?_ Bool.false_ne_true | refine Eqv.sRs ?_ Bool.false_ne_true | refine Eqv.sL ?_ Bool.false_ne_true | exact Eqv.rf _)) r.2.2.2.2.2.2.2.1, TrR_congr (by repeat (first | refine Eqv.sI ?_ Bool.false_ne_true | refine Eqv.sR ?_ Bool.false_ne_true | refine Eqv.sRs ?_ Bool.false_ne_true | refine Eqv.sL ?_ Bool.false_ne_true | exact Eqv.rf _)) r.2.2.2.2.2.2.2.2.1, LaR_congr (by repeat (first | refine Eqv.sI ?_ Bool.false_ne_true | refine Eqv.sR ?_ Bool.false_ne_true | refine Eqv.sRs ?_ Bool.false_ne_true | refine Eqv.sL ?_ Bool.false_ne_true | exact Eqv.rf _)) r.2.2.2.2.2.2.2.2.2.1, CsR_congr (by repeat (first | refine Eqv.sI ?_ Bool.false_ne_true | refine Eqv.sR ?_ Bool.false_ne_true | refine Eqv.sRs ?_ Bool.false_ne_true | refine Eqv.sL ?_ Bool.false_ne_true | exact Eqv.rf _)) r.2.2.2.2.2.2.2.2.2.2.1, SR_congr (by repeat (first | refine Eqv.sI ?_ Bool.false_ne_true | refine Eqv.sR ?_ Bool.false_ne_true | refine Eqv.sRs ?_ Bool.false_ne_true | refine Eqv.sL ?_ Bool.false_ne_true | exact Eqv.rf _)) r.2.2.2.2.2.2.2.2.2.2.2⟩
theorem RR_ref6 {h : Hp} (r : RR h) : RR (mT (mZ (xT h 6)) 6) := ⟨XI_congr (by repeat (first | refine Eqv.sI ?_ Bool.false_ne_true | refine Eqv.sR ?_ Bool.false_ne_true | refine Eqv.sRs ?_ Bool.false_ne_true | refine Eqv.sL ?_ Bool.false_ne_true | exact Eqv.rf _)) r.1, LD_congr (by repeat (first | refine Eqv.sI ?_ Bool.false_ne_true | refine Eqv.sR ?_ Bool.false_ne_true | refine Eqv.sRs ?_ Bool.false_ne_true | refine Eqv.sL ?_ Bool.false_ne_true | exact Eqv.rf _)) r.2.1, MJ_congr (by repeat (first | refine Eqv.sI ?_ Bool.false_ne_true | refine Eqv.sR ?_ Bool.false_ne_true | refine Eqv.sRs ?_ Bool.false_ne_true | refine Eqv.sL ?_ Bool.false_ne_true | exact Eqv.rf _)) r.2.2.1, ⟨r.2.2.2.1.1, r.2.2.2.1.2.1, r.2.2.2.1.2.2.1, rfl, r.2.2.2.1.2.2.2.2.1, (if_neg (show ¬ (6 : Int32) = 4 by decide)).symm⟩, TaR_congr (by repeat (first | refine Eqv.sI ?_ Bool.false_ne_true | refine Eqv.sR ?_ Bool.false_ne_true | refine Eqv.sRs ?_ Bool.false_ne_true | refine Eqv.sL ?_ Bool.false_ne_true | exact Eqv.rf _)) r.2.2.2.2.1, PeR_congr (by repeat (first | refine Eqv.sI ?_ Bool.false_ne_true | refine Eqv.sR ?_ Bool.false_ne_true | refine Eqv.sRs ?_ Bool.false_ne_true | refine Eqv.sL ?_ Bool.false_ne_true | exact Eqv.rf _)) r.2.2.2.2.2.1, PaR_congr (by repeat (first | refine Eqv.sI ?_ Bool.false_ne_true | refine Eqv.sR ?_ Bool.false_ne_true | refine Eqv.sRs ?_ Bool.false_ne_true | refine Eqv.sL ?_ Bool.false_ne_true | exact Eqv.rf _)) r.2.2.2.2.2.2.1, RoR_congr (by repeat (first | refine Eqv.sI ?_ Bool.false_ne_true | refine Eqv.sR ?_ Bool.false_ne_true | refine Eqv.sRs ?_ Bool.false_ne_true | refine Eqv.sL ?_ Bool.false_ne_true | exact Eqv.rf _)) r.2.2.2.2.2.2.2.1, TrR_congr (by repeat (first | refine Eqv.sI ?_ Bool.false_ne_true | refine Eqv.sR ?_ Bool.false_ne_true | refine Eqv.sRs ?_ Bool.false_ne_true | refine Eqv.sL ?_ Bool.false_ne_true | exact Eqv.rf _)) r.2.2.2.2.2.2.2.2.1, LaR_congr (by repeat (first | refine Eqv.sI ?_ Bool.false_ne_true | refine Eqv.sR ?_ Bool.false_ne_true | refine Eqv.sRs ?_ Bool.false_ne_true | refine Eqv.sL ?_ Bool.false_ne_true | exact Eqv.rf _)) r.2.2.2.2.2.2.2.2.2.1, CsR_congr (by repeat (first | refine Eqv.sI ?_ Bool.false_ne_true | refine Eqv.sR ?_ Bool.false_ne_true | refine Eqv.sRs ?_ Bool.false_ne_true | refine Eqv.sL ?_ Bool.false_ne_true | exact Eqv.rf _)) r.2.2.2.2.2.2.2.2.2.2.1, SR_congr (by repeat (first | refine Eqv.sI ?_ Bool.false_ne_true | refine Eqv.sR ?_ Bool.false_ne_true | refine Eqv.sRs ?_ Bool.false_ne_true | refine Eqv.sL ?_ Bool.false_ne_true | exact Eqv.rf _)) r.2.2.2.2.2.2.2.2.2.2.2⟩
set_option maxRecDepth 20000 in
theorem op_will (g : G0) (h : Hp) (r : RR h)  : Op g h yX11_will wX11_will (pR (0, 0) :: []) yX14_will wX14_will (pR (32, 0) :: []) 8 12 0 0 0 0 := by
  obtain ⟨w, hw, e1, e2⟩ := r.2.2.2.1.1
  by_cases c : w < 4
  · have eX : xWill h = (nI w, xT (sI h (0, 0) 10 (nI (w + 1))) 0) := by
      have c2 : vi h (0, 0) 10 < 4 := by rw [e1]; exact nI_lt (b := 4) c (by decide)
      unfold xWill; rw [if_pos c2, e1, nI_1, vi_sI_eq, nI_pred]
    have eY : mWill (xT (sI h (0, 0) 10 (nI (w + 1))) 0) = (nI w, mT (sI (mZ (xT (sI h (0, 0) 10 (nI (w + 1))) 0)) (32, 0) 4 (nI (w + 1))) 0) := by
      have e3 : vi (mZ (xT (sI h (0, 0) 10 (nI (w + 1))) 0)) (32, 0) 4 = nI w := e2
      unfold mWill; rw [e3, if_neg (show ¬ nI w = 4 from fun z => by have := (nI_eq (a := w) (b := 4) (by omega) (by decide)).mp z; omega), nI_1, vi_sI_eq, nI_pred]
    refine Op.of2 _ _ _ eX eY (m_will g h r.1) (M_will g _ (mj_of r (by repeat (first | refine Eqv.sI ?_ Bool.false_ne_true | refine Eqv.sR ?_ Bool.false_ne_true | refine Eqv.sRs ?_ Bool.false_ne_true | refine Eqv.sL ?_ Bool.false_ne_true | exact Eqv.rf _))).1) ?_ rfl
    exact ⟨XI_congr (by repeat (first | refine Eqv.sI ?_ Bool.false_ne_true | refine Eqv.sR ?_ Bool.false_ne_true | refine Eqv.sRs ?_ Bool.false_ne_true | refine Eqv.sL ?_ Bool.false_ne_true | exact Eqv.rf _)) r.1, LD_congr (by repeat (first | refine Eqv.sI ?_ Bool.false_ne_true | refine Eqv.sR ?_ Bool.false_ne_true | refine Eqv.sRs ?_ Bool.false_ne_true | refine Eqv.sL ?_ Bool.false_ne_true | exact Eqv.rf _)) r.2.1, MJ_congr (by repeat (first | refine Eqv.sI ?_ Bool.false_ne_true | refine Eqv.sR ?_ Bool.false_ne_true | refine Eqv.sRs ?_ Bool.false_ne_true | refine Eqv.sL ?_ Bool.false_ne_true | exact Eqv.rf _)) r.2.2.1, ⟨⟨w + 1, by omega, rfl, rfl⟩, r.2.2.2.1.2.1, r.2.2.2.1.2.2.1, rfl, r.2.2.2.1.2.2.2.2.1, (if_neg (show ¬ (0 : Int32) = 4 by decide)).symm⟩, TaR_congr (by repeat (first | refine Eqv.sI ?_ Bool.false_ne_true | refine Eqv.sR ?_ Bool.false_ne_true | refine Eqv.sRs ?_ Bool.false_ne_true | refine Eqv.sL ?_ Bool.false_ne_true | exact Eqv.rf _)) r.2.2.2.2.1, PeR_congr (by repeat (first | refine Eqv.sI ?_ Bool.false_ne_true | refine Eqv.sR ?_ Bool.false_ne_true | refine Eqv.sRs ?_ Bool.false_ne_true | refine Eqv.sL ?_ Bool.false_ne_true | exact Eqv.rf _)) r.2.2.2.2.2.1, PaR_congr (by repeat (first | refine Eqv.sI ?_ Bool.false_ne_true | refine Eqv.sR ?_ Bool.false_ne_true | refine Eqv.sRs ?_ Bool.false_ne_true | refine Eqv.sL ?_ Bool.false_ne_true | exact Eqv.rf _)) r.2.2.2.2.2.2.1, RoR_congr (by repeat (first | refine Eqv.sI ?_ Bool.false_ne_true | refine Eqv.sR ?_ Bool.false_ne_true | refine Eqv.sRs ?_ Bool.false_ne_true | refine Eqv.sL ?_ Bool.false_ne_true | exact Eqv.rf _)) r.2.2.2.2.2.2.2.1, TrR_congr (by repeat (first | refine Eqv.sI ?_ Bool.false_ne_true | refine Eqv.sR ?_ Bool.false_ne_true | refine Eqv.sRs ?_ Bool.false_ne_true | refine Eqv.sL ?_ Bool.false_ne_true | exact Eqv.rf _)) r.2.2.2.2.2.2.2.2.1, LaR_congr (by repeat (first | refine Eqv.sI ?_ Bool.false_ne_true | refine Eqv.sR ?_ Bool.false_ne_true | refine Eqv.sRs ?_ Bool.false_ne_true | refine Eqv.sL ?_ Bool.false_ne_true | exact Eqv.rf _)) r.2.2.2.2.2.2.2.2.2.1, CsR_congr (by repeat (first | refine Eqv.sI ?_ Bool.false_ne_true | refine Eqv.sR ?_ Bool.false_ne_true | refine Eqv.sRs ?_ Bool.false_ne_true | refine Eqv.sL ?_ Bool.false_ne_true | exact Eqv.rf _)) r.2.2.2.2.2.2.2.2.2.2.1, SR_congr (by repeat (first | refine Eqv.sI ?_ Bool.false_ne_true | refine Eqv.sR ?_ Bool.false_ne_true | refine Eqv.sRs ?_ Bool.false_ne_true | refine Eqv.sL ?_ Bool.false_ne_true | exact Eqv.rf _)) r.2.2.2.2.2.2.2.2.2.2.2⟩
  · have w4 : w = 4 := by omega
    subst w4
    have eX : xWill h = (-1, xT h 3) := by unfold xWill; rw [e1]; rfl
    have eY : mWill (xT h 3) = (-1, mT (mZ (xT h 3)) 3) := by
      have e3 : vi (mZ (xT h 3)) (32, 0) 4 = nI 4 := e2
      unfold mWill; rw [e3]; rfl
    refine Op.of2 _ _ _ eX eY (m_will g h r.1) (M_will g _ (mj_of r (by repeat (first | refine Eqv.sI ?_ Bool.false_ne_true | refine Eqv.sR ?_ Bool.false_ne_true | refine Eqv.sRs ?_ Bool.false_ne_true | refine Eqv.sL ?_ Bool.false_ne_true | exact Eqv.rf _))).1) ?_ rfl
    exact RR_ref3 r
set_option maxRecDepth 20000 in
theorem op_fault (g : G0) (h : Hp) (r : RR h)  : Op g h yX11_fault wX11_fault (pR (0, 0) :: []) yX14_fault wX14_fault (pR (32, 0) :: []) 8 12 0 0 0 0 := by
  refine Op.of2 (vi h (0, 0) 15) h (mZ h) rfl (show mFault h = (vi h (0, 0) 15, mZ h) from congrArg (fun z => (z, mZ h)) (r.2.2.2.1.2.2.2.2.1).symm) (m_fault g h r.1) (M_fault g h r.2.2.1.1) ?_ rfl
  exact RR_z r
set_option maxRecDepth 20000 in
theorem op_trouble (g : G0) (h : Hp) (r : RR h)  : Op g h yX11_trouble wX11_trouble (pR (0, 0) :: []) yX14_trouble wX14_trouble (pR (32, 0) :: []) 8 12 0 0 0 0 := by
  refine Op.of2 (vi h (0, 0) 14) h (mZ h) rfl (show mTrouble h = (vi h (0, 0) 14, mZ h) from congrArg (fun z => (z, mZ h)) (r.2.2.2.1.2.2.2.1).symm) (m_trouble g h r.1) (M_trouble g h r.2.2.1.1) ?_ rfl
  exact RR_z r
set_option maxRecDepth 20000 in
theorem op_where (g : G0) (h : Hp) (r : RR h)  : Op g h yX11_where wX11_where (pR (0, 0) :: []) yX14_where wX14_where (pR (32, 0) :: []) 8 12 0 0 0 0 := by
  have eX : xWhere h = ((if vi h (0, 0) 14 = 4 then vi h (0, 0) 16 else -1), h) := by unfold xWhere; split <;> rfl
  refine Op.of2 _ h (mZ h) eX (show mWhere h = (_, mZ h) from congrArg (fun z => (z, mZ h)) r.2.2.2.1.2.2.2.2.2) (m_where g h r.1) (M_where g h r.2.2.1.1) ?_ rfl
  exact RR_z r
set_option maxRecDepth 20000 in
theorem op_dole (g : G0) (h : Hp) (r : RR h) {v : Int32} : Op g h yX11_dole wX11_dole (pR (0, 0) :: [pI v]) yX14_dole wX14_dole (pR (32, 0) :: [pI v]) 8 12 0 0 0 0 := by
  by_cases c : v < 0 ∨ 999 < v
  · have eX : xDole h v = (0, xT h 2) := by unfold xDole; rcases c with c | c; rw [if_pos c]; (by_cases c0 : v < 0; rw [if_pos c0]; rw [if_neg c0, if_neg (Int32.not_le.mpr c)])
    have eY : mDole (xT h 2) v = (0, mT (mZ (xT h 2)) 2) := by unfold mDole; rw [if_pos]; unfold mIn; rcases c with c | c; rw [if_pos c]; (by_cases c0 : v < 0; rw [if_pos c0]; rw [if_neg c0, if_pos c])
    refine Op.of2 _ _ _ eX eY (m_dole g h r.1) (M_dole g _ (mj_of r (by repeat (first | refine Eqv.sI ?_ Bool.false_ne_true | refine Eqv.sR ?_ Bool.false_ne_true | refine Eqv.sRs ?_ Bool.false_ne_true | refine Eqv.sL ?_ Bool.false_ne_true | exact Eqv.rf _))).1) ?_ rfl
    exact RR_ref2 r
  · have c0 : ¬ v < 0 := fun z => c (Or.inl z)
    have c1 : ¬ 999 < v := fun z => c (Or.inr z)
    obtain ⟨j, hj, ej⟩ := nI_of2 (M := 999) (n := 999) (by decide) c0 (Int32.not_lt.mp c1)
    have eX : xDole h v = (1, xT (sI h (0, 0) 12 v) 0) := by unfold xDole; rw [if_neg c0, if_pos (Int32.not_lt.mp c1)]
    have eY : mDole (xT (sI h (0, 0) 12 v) 0) v = (1, mT (sI (mZ (xT (sI h (0, 0) 12 v) 0)) (32, 0) 49 v) 0) := by unfold mDole; rw [if_neg]; unfold mIn; rw [if_neg c0, if_neg c1]; decide
    refine Op.of2 _ _ _ eX eY (m_dole g h r.1) (M_dole g _ (mj_of r (by repeat (first | refine Eqv.sI ?_ Bool.false_ne_true | refine Eqv.sR ?_ Bool.false_ne_true | refine Eqv.sRs ?_ Bool.false_ne_true | refine Eqv.sL ?_ Bool.false_ne_true | exact Eqv.rf _))).1) ?_ rfl
    exact ⟨XI_congr (by repeat (first | refine Eqv.sI ?_ Bool.false_ne_true | refine Eqv.sR ?_ Bool.false_ne_true | refine Eqv.sRs ?_ Bool.false_ne_true | refine Eqv.sL ?_ Bool.false_ne_true | exact Eqv.rf _)) r.1, LD_congr (by repeat (first | refine Eqv.sI ?_ Bool.false_ne_true | refine Eqv.sR ?_ Bool.false_ne_true | refine Eqv.sRs ?_ Bool.false_ne_true | refine Eqv.sL ?_ Bool.false_ne_true | exact Eqv.rf _)) r.2.1, MJ_congr (by repeat (first | refine Eqv.sI ?_ Bool.false_ne_true | refine Eqv.sR ?_ Bool.false_ne_true | refine Eqv.sRs ?_ Bool.false_ne_true | refine Eqv.sL ?_ Bool.false_ne_true | exact Eqv.rf _)) r.2.2.1, ⟨r.2.2.2.1.1, ⟨j, hj, ej, ej⟩, r.2.2.2.1.2.2.1, rfl, r.2.2.2.1.2.2.2.2.1, (if_neg (show ¬ (0 : Int32) = 4 by decide)).symm⟩, TaR_congr (by repeat (first | refine Eqv.sI ?_ Bool.false_ne_true | refine Eqv.sR ?_ Bool.false_ne_true | refine Eqv.sRs ?_ Bool.false_ne_true | refine Eqv.sL ?_ Bool.false_ne_true | exact Eqv.rf _)) r.2.2.2.2.1, PeR_congr (by repeat (first | refine Eqv.sI ?_ Bool.false_ne_true | refine Eqv.sR ?_ Bool.false_ne_true | refine Eqv.sRs ?_ Bool.false_ne_true | refine Eqv.sL ?_ Bool.false_ne_true | exact Eqv.rf _)) r.2.2.2.2.2.1, PaR_congr (by repeat (first | refine Eqv.sI ?_ Bool.false_ne_true | refine Eqv.sR ?_ Bool.false_ne_true | refine Eqv.sRs ?_ Bool.false_ne_true | refine Eqv.sL ?_ Bool.false_ne_true | exact Eqv.rf _)) r.2.2.2.2.2.2.1, RoR_congr (by repeat (first | refine Eqv.sI ?_ Bool.false_ne_true | refine Eqv.sR ?_ Bool.false_ne_true | refine Eqv.sRs ?_ Bool.false_ne_true | refine Eqv.sL ?_ Bool.false_ne_true | exact Eqv.rf _)) r.2.2.2.2.2.2.2.1, TrR_congr (by repeat (first | refine Eqv.sI ?_ Bool.false_ne_true | refine Eqv.sR ?_ Bool.false_ne_true | refine Eqv.sRs ?_ Bool.false_ne_true | refine Eqv.sL ?_ Bool.false_ne_true | exact Eqv.rf _)) r.2.2.2.2.2.2.2.2.1, LaR_congr (by repeat (first | refine Eqv.sI ?_ Bool.false_ne_true | refine Eqv.sR ?_ Bool.false_ne_true | refine Eqv.sRs ?_ Bool.false_ne_true | refine Eqv.sL ?_ Bool.false_ne_true | exact Eqv.rf _)) r.2.2.2.2.2.2.2.2.2.1, CsR_congr (by repeat (first | refine Eqv.sI ?_ Bool.false_ne_true | refine Eqv.sR ?_ Bool.false_ne_true | refine Eqv.sRs ?_ Bool.false_ne_true | refine Eqv.sL ?_ Bool.false_ne_true | exact Eqv.rf _)) r.2.2.2.2.2.2.2.2.2.2.1, SR_congr (by repeat (first | refine Eqv.sI ?_ Bool.false_ne_true | refine Eqv.sR ?_ Bool.false_ne_true | refine Eqv.sRs ?_ Bool.false_ne_true | refine Eqv.sL ?_ Bool.false_ne_true | exact Eqv.rf _)) r.2.2.2.2.2.2.2.2.2.2.2⟩
theorem wb_eq {h h' : Hp} (s : ScA h) (e : vi h' (32, 0) 4 = vi h (32, 0) 4) (w : Int32) : mWb h' w = xWb h w := by
  obtain ⟨u, -, e1, e2⟩ := s.1
  unfold mWb xWb; rw [e, e1, e2]
theorem dy_eq (d : Int32) : mDy d = xDy d := rfl
theorem xDy_in {d : Int32} (c : ¬ xDy d = 0) : ∃ D, D ≤ 40000 ∧ d = nI D := by
  unfold xDy at c
  split at c
  · exact absurd rfl c
  · rename_i c1
    split at c
    · exact absurd rfl c
    · rename_i c2
      exact nI_of2 (M := 40000) (n := 40000) (by decide) c1 (Int32.not_lt.mp c2)
theorem xPer_no {h h' : Hp} (x : XI h) (s : PeR h) (e : vi h' (32, 0) 22 = vi h (32, 0) 22) {p : Int32} (z : xPer h p = none) : mPb h' p = 0 := by
  unfold xPer at z
  unfold mPb
  rw [e, s.1, ← x.a1.1]
  split at z
  · rename_i c; rw [if_pos c]
  · rename_i c; rw [if_neg c]
    split at z
    · rename_i c2; rw [if_pos c2]
    · cases z
theorem xPer_yes {h h' : Hp} (x : XI h) (s : PeR h) (e : vi h' (32, 0) 22 = vi h (32, 0) 22) {p : Int32} {a : Ad} (z : xPer h p = some a) : ∃ j, a = (9, j) ∧ p = nI j ∧ j < cn h 9 ∧ mPb h' p = 1 := by
  have k := xPer_ok x z
  refine ⟨a.2, by rw [← k.1], k.2.2, k.2.1, ?_⟩
  unfold xPer at z
  unfold mPb
  rw [e, s.1, ← x.a1.1]
  split at z
  · cases z
  · rename_i c; rw [if_neg c]
    split at z
    · cases z
    · rename_i c2; rw [if_neg c2]
theorem xRoo_no {h h' : Hp} (x : XI h) (s : RoR h) (e : vi h' (32, 0) 36 = vi h (32, 0) 36) {p : Int32} (z : xRoo h p = none) : mRb h' p = 0 := by
  unfold xRoo at z
  unfold mRb
  rw [e, s.1, ← x.a2.1]
  split at z
  · rename_i c; rw [if_pos c]
  · rename_i c; rw [if_neg c]
    split at z
    · rename_i c2; rw [if_pos c2]
    · cases z
theorem xRoo_yes {h h' : Hp} (x : XI h) (s : RoR h) (e : vi h' (32, 0) 36 = vi h (32, 0) 36) {p : Int32} {a : Ad} (z : xRoo h p = some a) : ∃ j, a = (10, j) ∧ p = nI j ∧ j < cn h 10 ∧ mRb h' p = 1 := by
  have k := xRoo_ok x z
  refine ⟨a.2, by rw [← k.1], k.2.2, k.2.1, ?_⟩
  unfold xRoo at z
  unfold mRb
  rw [e, s.1, ← x.a2.1]
  split at z
  · cases z
  · rename_i c; rw [if_neg c]
    split at z
    · cases z
    · rename_i c2; rw [if_neg c2]
set_option maxRecDepth 20000 in
theorem op_owed (g : G0) (h : Hp) (r : RR h) {p : Int32} : Op g h yX11_owed wX11_owed (pR (0, 0) :: [pI p]) yX14_owed wX14_owed (pR (32, 0) :: [pI p]) 8 12 0 0 0 0 := by
  cases z : xPer h p with
  | none =>
    have eX : xOwed h p = (-1, h) := by unfold xOwed; rw [z]
    have eY : mOwed h p = (-1, mZ h) := by unfold mOwed; rw [if_pos (xPer_no (h' := mZ h) r.1 r.2.2.2.2.2.1 rfl z)]
    exact Op.of2 _ _ _ eX eY (m_owed g h r.1) (M_owed g h r.2.2.1.1) (RR_z r) rfl
  | some a =>
    obtain ⟨j, rfl, rfl, hj, ey⟩ := xPer_yes (h' := mZ h) r.1 r.2.2.2.2.2.1 rfl z
    have j40 := r.2.2.2.2.2.1.2.1
    have eX : xOwed h (nI j) = (vi h (9, j) 9, h) := by unfold xOwed; rw [z]
    have eY : mOwed h (nI j) = (vi h (9, j) 9, mZ h) := by unfold mOwed; rw [if_neg (by rw [ey]; decide), nI_clamp (by omega), mZ_o _ _ (by decide), ((r.2.2.2.2.2.1.2.2.1 j hj).1).2.2.2.2.2.2.1]
    exact Op.of2 _ _ _ eX eY (m_owed g h r.1) (M_owed g h r.2.2.1.1) (RR_z r) rfl
set_option maxRecDepth 20000 in
theorem op_got (g : G0) (h : Hp) (r : RR h) {p : Int32} : Op g h yX11_got wX11_got (pR (0, 0) :: [pI p]) yX14_got wX14_got (pR (32, 0) :: [pI p]) 8 12 0 0 0 0 := by
  cases z : xPer h p with
  | none =>
    have eX : xGot h p = (-1, h) := by unfold xGot; rw [z]
    have eY : mGot h p = (-1, mZ h) := by unfold mGot; rw [if_pos (xPer_no (h' := mZ h) r.1 r.2.2.2.2.2.1 rfl z)]
    exact Op.of2 _ _ _ eX eY (m_got g h r.1) (M_got g h r.2.2.1.1) (RR_z r) rfl
  | some a =>
    obtain ⟨j, rfl, rfl, hj, ey⟩ := xPer_yes (h' := mZ h) r.1 r.2.2.2.2.2.1 rfl z
    have j40 := r.2.2.2.2.2.1.2.1
    have eX : xGot h (nI j) = (vi h (9, j) 10, h) := by unfold xGot; rw [z]
    have eY : mGot h (nI j) = (vi h (9, j) 10, mZ h) := by unfold mGot; rw [if_neg (by rw [ey]; decide), nI_clamp (by omega), mZ_o _ _ (by decide), ((r.2.2.2.2.2.1.2.2.1 j hj).1).2.2.2.2.2.2.2.1]
    exact Op.of2 _ _ _ eX eY (m_got g h r.1) (M_got g h r.2.2.1.1) (RR_z r) rfl
set_option maxRecDepth 20000 in
theorem op_fact (g : G0) (h : Hp) (r : RR h) {p d k : Int32} : Op g h yX11_fact wX11_fact (pR (0, 0) :: [pI p, pI d, pI k]) yX14_fact wX14_fact (pR (32, 0) :: [pI p, pI d, pI k]) 8 12 0 0 0 0 := by
  cases z : xPer h p with
  | none =>
    have eX : xFact h p d k = (-1, h) := by unfold xFact; rw [z]
    have eY : mFact h p d k = (-1, mZ h) := by unfold mFact; rw [if_pos (xPer_no (h' := mZ h) r.1 r.2.2.2.2.2.1 rfl z)]
    exact Op.of2 _ _ _ eX eY (m_fact g h r.1) (M_fact g h r.2.2.1) (RR_z r) rfl
  | some a =>
    obtain ⟨j, rfl, rfl, hj, ey⟩ := xPer_yes (h' := mZ h) r.1 r.2.2.2.2.2.1 rfl z
    have j40 := r.2.2.2.2.2.1.2.1
    have ey2 : ¬ mPb (mZ h) (nI j) = 0 := by rw [ey]; decide
    by_cases c1 : xDy d = 0
    · have eX : xFact h (nI j) d k = (-1, h) := by unfold xFact; rw [z]; exact if_pos c1
      have eY : mFact h (nI j) d k = (-1, mZ h) := by unfold mFact; rw [if_neg ey2, if_pos (show mDy d = 0 from c1)]
      exact Op.of2 _ _ _ eX eY (m_fact g h r.1) (M_fact g h r.2.2.1) (RR_z r) rfl
    · by_cases c2 : mIn k 0 4 = 0
      · have eX : xFact h (nI j) d k = (-1, h) := by
          unfold xFact; rw [z]; show (if xDy d = 0 then _ else _) = _; rw [if_neg c1]
          unfold mIn at c2
          split at c2
          · rename_i c; rw [if_pos c]
          · rename_i c; rw [if_neg c]
            split at c2
            · rename_i c3; rw [if_neg (Int32.not_le.mpr c3)]
            · exact absurd c2 (by decide)
        have eY : mFact h (nI j) d k = (-1, mZ h) := by unfold mFact; rw [if_neg ey2, if_neg (show ¬ mDy d = 0 from c1), if_pos c2]
        exact Op.of2 _ _ _ eX eY (m_fact g h r.1) (M_fact g h r.2.2.1) (RR_z r) rfl
      · obtain ⟨D, hD, rfl⟩ := xDy_in c1
        obtain ⟨m, hm, rfl⟩ := mIn04 c2
        have eX : xFact h (nI j) (nI D) (nI m) = (xTell h j m (nI D), h) := by
          unfold xFact; rw [z]; show (if xDy (nI D) = 0 then _ else _) = _; rw [if_neg c1, if_neg (nI_pos (by omega)), if_pos (show nI m ≤ 4 from nI_le (b := 4) (by omega) (by decide)), nI_clamp (by omega)]
        obtain ⟨-, -, -, t, ht, et⟩ := r.1.ps j hj
        have te := (tell_eq (by omega) (r.2.2.2.2.2.1.2.2.1 j hj).1 (r.2.2.2.2.2.1.2.2.1 j hj).2 ht et hD hm).1
        have eY : mFact h (nI j) (nI D) (nI m) = (xTell h j m (nI D), mZ h) := by
          unfold mFact; rw [if_neg ey2, if_neg (show ¬ mDy (nI D) = 0 from c1), if_neg c2, nI_clamp (by omega), nI_clamp (by omega), mFc_Q (Qf.rf h).mZ, te]
        exact Op.of2 _ _ _ eX eY (m_fact g h r.1) (M_fact g h r.2.2.1) (RR_z r) rfl
