theorem PeR_I : PeR hI := by
  have a4 : ∀ p, p < 40 → vi hI (38, 4) p = 0 := by decide +kernel
  have a5 : ∀ p, p < 40 → vi hI (38, 5) p = 0 := by decide +kernel
  have a7 : ∀ p, p < 40 → vi hI (38, 7) p = 0 := by decide +kernel
  have a8 : ∀ p, p < 240 → vi hI (38, 8) p = 0 := by decide +kernel
  have a9 : ∀ p, p < 240 → vi hI (38, 9) p = 0 := by decide +kernel
  exact ⟨by rw [i9]; decide +kernel, by rw [i9]; decide, fun p hp => absurd hp (by rw [i9]; omega), fun p _ hp => ⟨a4 p hp, a5 p hp, a7 p hp, fun i hi => ⟨a8 _ (by omega), a9 _ (by omega)⟩⟩⟩
theorem RoR_I : RoR hI := ⟨by rw [i10]; decide +kernel, by rw [i11]; decide +kernel, fun p hp => absurd hp (by rw [i10]; omega), fun p hp => absurd hp (by rw [i11]; omega), fun s s' _ hs => absurd hs (by rw [i11]; omega), fun p hp => absurd hp (by rw [i9]; omega)⟩
theorem RR_I : RR hI := ⟨XI_I, LD_I, MJ_I, ScA_I, ⟨0, by decide, by decide +kernel, by decide +kernel, fun i hi => absurd hi (Nat.not_lt_zero i)⟩, PeR_I, ⟨fun p p' _ hp => absurd hp (by rw [i9]; omega), fun p hp => absurd hp (by rw [i9]; omega)⟩, RoR_I, ⟨0, by decide, by decide +kernel, by decide +kernel, by decide +kernel, Or.inl ⟨rfl, by decide +kernel, by decide +kernel⟩⟩, ⟨by rw [i12]; decide +kernel, fun p hp => absurd hp (by rw [i12]; omega)⟩, ⟨vi hI (6, 0) 0, 0, 0, trivial, by decide, by decide +kernel, by decide, rfl, by decide +kernel, by decide +kernel, by decide +kernel⟩, SR_I⟩
/-! the law's loop -/
theorem V.room {g : G0} {k : Kf} {dd rc rs rc' rs' pc : Nat} {L : List (Nat × PV)} {st : List PV} {h : Hp} {Q : Option PV → Hp → Prop} {E : EP} (h1 : rc ≤ rc') (h2 : rs ≤ rs') (K : V g k dd rc rs pc L st h Q E) : V g k dd rc' rs' pc L st h Q E := by
  intro p l e R s m args below meth c Z al0 ad0 ad al H locs cells slots ls cx hrc hec w x0 hS hl hL hs hc hsl
  exact K p l e R s m args below meth c Z al0 ad0 ad al H locs cells slots ls cx hrc hec w x0 hS hl hL hs (by omega) (by omega)
def LL (t : Nat) : List (Nat × PV) := [(3, pI (nI (6 * t))), (2, pR (32, 0)), (1, pR (0, 0)), (0, pR (67, 0))]
def QL : Option PV → Hp → Prop := fun r _ => r = some (pI 1)
theorem and31 (x : Int32) : ∃ k, k < 32 ∧ x &&& 31 = nI k := by
  refine ⟨(x.toBitVec &&& 31#32).toNat, ?_, ?_⟩
  · rw [BitVec.toNat_and]; exact Nat.lt_succ_of_le Nat.and_le_right
  · apply Int32.toBitVec_inj.mp
    rw [nI, Int32.toBitVec_and]
    apply BitVec.eq_of_toNat_eq
    have : (Int32.ofNat (x.toBitVec &&& 31#32).toNat).toBitVec = BitVec.ofNat 32 (x.toBitVec &&& 31#32).toNat := rfl
    rw [this, BitVec.toNat_ofNat]
    exact (Nat.mod_eq_of_lt (x.toBitVec &&& 31#32).isLt).symm
theorem scr_in {t L : Nat} (h : 6 * t + 6 ≤ L) (hL : L ≤ 3072) (c : Nat) (hc : c < 6) : vp_in (nI (6 * t) + nI c) L := by
  rw [nI_add]; exact vp_in_nI (by omega) (by omega)
theorem Op.ex0 {g : G0} {h : Hp} {yx : MethodName} {wx : Cond} {A : List PV} {ym : MethodName} {wm : Cond} {B : List PV} {dx dm : Nat} (o : Op g h yx wx A ym wm B dx dm 0 0 0 0) : ∃ mc ms mc' ms', mc + mc' ≤ 47 ∧ ms + ms' ≤ 22232 ∧ Op g h yx wx A ym wm B dx dm mc ms mc' ms' := ⟨0, 0, 0, 0, by decide, by decide, o⟩
theorem Op.ex2 {g : G0} {h : Hp} {yx : MethodName} {wx : Cond} {A : List PV} {ym : MethodName} {wm : Cond} {B : List PV} {dx dm : Nat} (o : ∃ mc ms, mc ≤ 4 ∧ ms ≤ 1523 ∧ Op g h yx wx A ym wm B dx dm mc ms 0 0) : ∃ mc ms mc' ms', mc + mc' ≤ 47 ∧ ms + ms' ≤ 22232 ∧ Op g h yx wx A ym wm B dx dm mc ms mc' ms' := by
  obtain ⟨mc, ms, h1, h2, o⟩ := o
  exact ⟨mc, ms, 0, 0, by omega, by omega, o⟩
set_option maxRecDepth 20000 in
theorem law_0 (g : G0) {t : Nat} {h : Hp} (r : RR h) (hin : 6 * t + 6 ≤ gL g) (hL : gL g ≤ 3072) (ih : ∀ h', RR h' → V g kfL_law 60 (potC h' + 47) (potS h' + 22232) 1120 (LL t) [] h' QL noE) : V g kfL_law 60 (potC h + 47) (potS h + 22232) 168 (LL t) [] h QL noE := by
  obtain ⟨mc, ms, mc', ms', b1, b2, o⟩ := Op.ex0 (op_will g h r )
  refine v_aload_n dL_law_168 rfl ?_
  refine v_invV (potC h + 47 - mc) (potS h + 22232 - ms) o dL_law_169 cwX11_will mlL_13 (ob_0 _) rfl rfl (by decide) (by decide) (Nat.le_of_ble_eq_true rfl) (by omega) (by omega) (fun r1 h1 q1 => ?_) (fun _ _ q => q.elim)
  obtain ⟨v, rfl, hm⟩ := q1
  refine v_aload_n dL_law_172 rfl ?_
  refine v_invV (potC h + 47 - mc - mc') (potS h + 22232 - ms - ms') hm dL_law_173 cwX14_will mlL_17 (ob_32 _) rfl rfl (by decide) (by decide) (Nat.le_of_ble_eq_true rfl) (by omega) (by omega) (fun r2 h2 q2 => ?_) (fun _ _ q => q.elim)
  obtain ⟨rfl, rr, p1, p2⟩ := q2
  refine v_icmp_eq 1120 dL_law_176 (by decide) (fun _ => ?_) (fun z => absurd rfl z)
  exact V.room (by omega) (by omega) (ih h2 rr)
set_option maxRecDepth 20000 in
theorem law_1 (g : G0) {t : Nat} {h : Hp} (r : RR h) (hin : 6 * t + 6 ≤ gL g) (hL : gL g ≤ 3072) (ih : ∀ h', RR h' → V g kfL_law 60 (potC h' + 47) (potS h' + 22232) 1120 (LL t) [] h' QL noE) : V g kfL_law 60 (potC h + 47) (potS h + 22232) 181 (LL t) [] h QL noE := by
  obtain ⟨mc, ms, mc', ms', b1, b2, o⟩ := Op.ex0 (op_feed g h r (a := (gX g (nI (6 * t) + 1).toNatClampNeg)) (b := (gX g (nI (6 * t) + 2).toNatClampNeg)) (c := (gX g (nI (6 * t) + 3).toNatClampNeg)) (d := (gX g (nI (6 * t) + 4).toNatClampNeg)) (e := (gX g (nI (6 * t) + 5).toNatClampNeg)))
  refine v_aload_n dL_law_181 rfl ?_
  refine v_aload_n dL_law_182 rfl ?_
  refine v_iload_n dL_law_183 rfl ?_
  refine v_iconst (1) dL_law_184 (by decide) ?_
  refine v_iadd dL_law_185 ?_
  refine v_scrAt dL_law_186 (scr_in hin hL 1 (by decide)) ?_
  refine v_aload_n dL_law_187 rfl ?_
  refine v_iload_n dL_law_188 rfl ?_
  refine v_iconst (2) dL_law_189 (by decide) ?_
  refine v_iadd dL_law_190 ?_
  refine v_scrAt dL_law_191 (scr_in hin hL 2 (by decide)) ?_
  refine v_aload_n dL_law_192 rfl ?_
  refine v_iload_n dL_law_193 rfl ?_
  refine v_iconst (3) dL_law_194 (by decide) ?_
  refine v_iadd dL_law_195 ?_
  refine v_scrAt dL_law_196 (scr_in hin hL 3 (by decide)) ?_
  refine v_aload_n dL_law_197 rfl ?_
  refine v_iload_n dL_law_198 rfl ?_
  refine v_iconst (4) dL_law_199 (by decide) ?_
  refine v_iadd dL_law_200 ?_
  refine v_scrAt dL_law_201 (scr_in hin hL 4 (by decide)) ?_
  refine v_aload_n dL_law_202 rfl ?_
  refine v_iload_n dL_law_203 rfl ?_
  refine v_iconst (5) dL_law_204 (by decide) ?_
  refine v_iadd dL_law_205 ?_
  refine v_scrAt dL_law_206 (scr_in hin hL 5 (by decide)) ?_
  refine v_invV (potC h + 47 - mc) (potS h + 22232 - ms) o dL_law_207 cwX11_feed mlL_18 (ob_0 _) rfl rfl (by decide) (by decide) (Nat.le_of_ble_eq_true rfl) (by omega) (by omega) (fun r1 h1 q1 => ?_) (fun _ _ q => q.elim)
  obtain ⟨v, rfl, hm⟩ := q1
  refine v_aload_n dL_law_210 rfl ?_
  refine v_aload_n dL_law_211 rfl ?_
  refine v_iload_n dL_law_212 rfl ?_
  refine v_iconst (1) dL_law_213 (by decide) ?_
  refine v_iadd dL_law_214 ?_
  refine v_scrAt dL_law_215 (scr_in hin hL 1 (by decide)) ?_
  refine v_aload_n dL_law_216 rfl ?_
  refine v_iload_n dL_law_217 rfl ?_
  refine v_iconst (2) dL_law_218 (by decide) ?_
  refine v_iadd dL_law_219 ?_
  refine v_scrAt dL_law_220 (scr_in hin hL 2 (by decide)) ?_
  refine v_aload_n dL_law_221 rfl ?_
  refine v_iload_n dL_law_222 rfl ?_
  refine v_iconst (3) dL_law_223 (by decide) ?_
  refine v_iadd dL_law_224 ?_
  refine v_scrAt dL_law_225 (scr_in hin hL 3 (by decide)) ?_
  refine v_aload_n dL_law_226 rfl ?_
  refine v_iload_n dL_law_227 rfl ?_
  refine v_iconst (4) dL_law_228 (by decide) ?_
  refine v_iadd dL_law_229 ?_
  refine v_scrAt dL_law_230 (scr_in hin hL 4 (by decide)) ?_
  refine v_aload_n dL_law_231 rfl ?_
  refine v_iload_n dL_law_232 rfl ?_
  refine v_iconst (5) dL_law_233 (by decide) ?_
  refine v_iadd dL_law_234 ?_
  refine v_scrAt dL_law_235 (scr_in hin hL 5 (by decide)) ?_
  refine v_invV (potC h + 47 - mc - mc') (potS h + 22232 - ms - ms') hm dL_law_236 cwX14_feed mlL_22 (ob_32 _) rfl rfl (by decide) (by decide) (Nat.le_of_ble_eq_true rfl) (by omega) (by omega) (fun r2 h2 q2 => ?_) (fun _ _ q => q.elim)
  obtain ⟨rfl, rr, p1, p2⟩ := q2
  refine v_icmp_eq 1120 dL_law_239 (by decide) (fun _ => ?_) (fun z => absurd rfl z)
  exact V.room (by omega) (by omega) (ih h2 rr)
set_option maxRecDepth 20000 in
theorem law_2 (g : G0) {t : Nat} {h : Hp} (r : RR h) (hin : 6 * t + 6 ≤ gL g) (hL : gL g ≤ 3072) (ih : ∀ h', RR h' → V g kfL_law 60 (potC h' + 47) (potS h' + 22232) 1120 (LL t) [] h' QL noE) : V g kfL_law 60 (potC h + 47) (potS h + 22232) 244 (LL t) [] h QL noE := by
  obtain ⟨mc, ms, mc', ms', b1, b2, o⟩ := op_scheme g h r (w := (gX g (nI (6 * t) + 1).toNatClampNeg)) (d := (gX g (nI (6 * t) + 2).toNatClampNeg)) (x := (gX g (nI (6 * t) + 3).toNatClampNeg))
  refine v_aload_n dL_law_244 rfl ?_
  refine v_aload_n dL_law_245 rfl ?_
  refine v_iload_n dL_law_246 rfl ?_
  refine v_iconst (1) dL_law_247 (by decide) ?_
  refine v_iadd dL_law_248 ?_
  refine v_scrAt dL_law_249 (scr_in hin hL 1 (by decide)) ?_
  refine v_aload_n dL_law_250 rfl ?_
  refine v_iload_n dL_law_251 rfl ?_
  refine v_iconst (2) dL_law_252 (by decide) ?_
  refine v_iadd dL_law_253 ?_
  refine v_scrAt dL_law_254 (scr_in hin hL 2 (by decide)) ?_
  refine v_aload_n dL_law_255 rfl ?_
  refine v_iload_n dL_law_256 rfl ?_
  refine v_iconst (3) dL_law_257 (by decide) ?_
  refine v_iadd dL_law_258 ?_
  refine v_scrAt dL_law_259 (scr_in hin hL 3 (by decide)) ?_
  refine v_invV (potC h + 47 - mc) (potS h + 22232 - ms) o dL_law_260 cwX11_scheme mlL_23 (ob_0 _) rfl rfl (by decide) (by decide) (Nat.le_of_ble_eq_true rfl) (by omega) (by omega) (fun r1 h1 q1 => ?_) (fun _ _ q => q.elim)
  obtain ⟨v, rfl, hm⟩ := q1
  refine v_aload_n dL_law_263 rfl ?_
  refine v_aload_n dL_law_264 rfl ?_
  refine v_iload_n dL_law_265 rfl ?_
  refine v_iconst (1) dL_law_266 (by decide) ?_
  refine v_iadd dL_law_267 ?_
  refine v_scrAt dL_law_268 (scr_in hin hL 1 (by decide)) ?_
  refine v_aload_n dL_law_269 rfl ?_
  refine v_iload_n dL_law_270 rfl ?_
  refine v_iconst (2) dL_law_271 (by decide) ?_
  refine v_iadd dL_law_272 ?_
  refine v_scrAt dL_law_273 (scr_in hin hL 2 (by decide)) ?_
  refine v_aload_n dL_law_274 rfl ?_
  refine v_iload_n dL_law_275 rfl ?_
  refine v_iconst (3) dL_law_276 (by decide) ?_
  refine v_iadd dL_law_277 ?_
  refine v_scrAt dL_law_278 (scr_in hin hL 3 (by decide)) ?_
  refine v_invV (potC h + 47 - mc - mc') (potS h + 22232 - ms - ms') hm dL_law_279 cwX14_scheme mlL_27 (ob_32 _) rfl rfl (by decide) (by decide) (Nat.le_of_ble_eq_true rfl) (by omega) (by omega) (fun r2 h2 q2 => ?_) (fun _ _ q => q.elim)
  obtain ⟨rfl, rr, p1, p2⟩ := q2
  refine v_icmp_eq 1120 dL_law_282 (by decide) (fun _ => ?_) (fun z => absurd rfl z)
  exact V.room (by omega) (by omega) (ih h2 rr)
set_option maxRecDepth 20000 in
theorem law_3 (g : G0) {t : Nat} {h : Hp} (r : RR h) (hin : 6 * t + 6 ≤ gL g) (hL : gL g ≤ 3072) (ih : ∀ h', RR h' → V g kfL_law 60 (potC h' + 47) (potS h' + 22232) 1120 (LL t) [] h' QL noE) : V g kfL_law 60 (potC h + 47) (potS h + 22232) 287 (LL t) [] h QL noE := by
  obtain ⟨mc, ms, mc', ms', b1, b2, o⟩ := Op.ex0 (op_fault g h r )
  refine v_aload_n dL_law_287 rfl ?_
  refine v_invV (potC h + 47 - mc) (potS h + 22232 - ms) o dL_law_288 cwX11_fault mlL_28 (ob_0 _) rfl rfl (by decide) (by decide) (Nat.le_of_ble_eq_true rfl) (by omega) (by omega) (fun r1 h1 q1 => ?_) (fun _ _ q => q.elim)
  obtain ⟨v, rfl, hm⟩ := q1
  refine v_aload_n dL_law_291 rfl ?_
  refine v_invV (potC h + 47 - mc - mc') (potS h + 22232 - ms - ms') hm dL_law_292 cwX14_fault mlL_31 (ob_32 _) rfl rfl (by decide) (by decide) (Nat.le_of_ble_eq_true rfl) (by omega) (by omega) (fun r2 h2 q2 => ?_) (fun _ _ q => q.elim)
  obtain ⟨rfl, rr, p1, p2⟩ := q2
  refine v_icmp_eq 1120 dL_law_295 (by decide) (fun _ => ?_) (fun z => absurd rfl z)
  exact V.room (by omega) (by omega) (ih h2 rr)
set_option maxRecDepth 20000 in
theorem law_4 (g : G0) {t : Nat} {h : Hp} (r : RR h) (hin : 6 * t + 6 ≤ gL g) (hL : gL g ≤ 3072) (ih : ∀ h', RR h' → V g kfL_law 60 (potC h' + 47) (potS h' + 22232) 1120 (LL t) [] h' QL noE) : V g kfL_law 60 (potC h + 47) (potS h + 22232) 300 (LL t) [] h QL noE := by
  obtain ⟨mc, ms, mc', ms', b1, b2, o⟩ := Op.ex0 (op_where g h r )
  refine v_aload_n dL_law_300 rfl ?_
  refine v_invV (potC h + 47 - mc) (potS h + 22232 - ms) o dL_law_301 cwX11_where mlL_32 (ob_0 _) rfl rfl (by decide) (by decide) (Nat.le_of_ble_eq_true rfl) (by omega) (by omega) (fun r1 h1 q1 => ?_) (fun _ _ q => q.elim)
  obtain ⟨v, rfl, hm⟩ := q1
  refine v_aload_n dL_law_304 rfl ?_
  refine v_invV (potC h + 47 - mc - mc') (potS h + 22232 - ms - ms') hm dL_law_305 cwX14_where mlL_35 (ob_32 _) rfl rfl (by decide) (by decide) (Nat.le_of_ble_eq_true rfl) (by omega) (by omega) (fun r2 h2 q2 => ?_) (fun _ _ q => q.elim)
  obtain ⟨rfl, rr, p1, p2⟩ := q2
  refine v_icmp_eq 1120 dL_law_308 (by decide) (fun _ => ?_) (fun z => absurd rfl z)
  exact V.room (by omega) (by omega) (ih h2 rr)
set_option maxRecDepth 20000 in
theorem law_5 (g : G0) {t : Nat} {h : Hp} (r : RR h) (hin : 6 * t + 6 ≤ gL g) (hL : gL g ≤ 3072) (ih : ∀ h', RR h' → V g kfL_law 60 (potC h' + 47) (potS h' + 22232) 1120 (LL t) [] h' QL noE) : V g kfL_law 60 (potC h + 47) (potS h + 22232) 313 (LL t) [] h QL noE := by
  obtain ⟨mc, ms, mc', ms', b1, b2, o⟩ := Op.ex0 (op_clause g h r (w := (gX g (nI (6 * t) + 1).toNatClampNeg)) (u := (gX g (nI (6 * t) + 2).toNatClampNeg)) (d := (gX g (nI (6 * t) + 3).toNatClampNeg)))
  refine v_aload_n dL_law_313 rfl ?_
  refine v_aload_n dL_law_314 rfl ?_
  refine v_iload_n dL_law_315 rfl ?_
  refine v_iconst (1) dL_law_316 (by decide) ?_
  refine v_iadd dL_law_317 ?_
  refine v_scrAt dL_law_318 (scr_in hin hL 1 (by decide)) ?_
  refine v_aload_n dL_law_319 rfl ?_
  refine v_iload_n dL_law_320 rfl ?_
  refine v_iconst (2) dL_law_321 (by decide) ?_
  refine v_iadd dL_law_322 ?_
  refine v_scrAt dL_law_323 (scr_in hin hL 2 (by decide)) ?_
  refine v_aload_n dL_law_324 rfl ?_
  refine v_iload_n dL_law_325 rfl ?_
  refine v_iconst (3) dL_law_326 (by decide) ?_
  refine v_iadd dL_law_327 ?_
  refine v_scrAt dL_law_328 (scr_in hin hL 3 (by decide)) ?_
  refine v_invV (potC h + 47 - mc) (potS h + 22232 - ms) o dL_law_329 cwX11_clause mlL_36 (ob_0 _) rfl rfl (by decide) (by decide) (Nat.le_of_ble_eq_true rfl) (by omega) (by omega) (fun r1 h1 q1 => ?_) (fun _ _ q => q.elim)
  obtain ⟨v, rfl, hm⟩ := q1
  refine v_aload_n dL_law_332 rfl ?_
  refine v_aload_n dL_law_333 rfl ?_
  refine v_iload_n dL_law_334 rfl ?_
  refine v_iconst (1) dL_law_335 (by decide) ?_
  refine v_iadd dL_law_336 ?_
  refine v_scrAt dL_law_337 (scr_in hin hL 1 (by decide)) ?_
  refine v_aload_n dL_law_338 rfl ?_
  refine v_iload_n dL_law_339 rfl ?_
  refine v_iconst (2) dL_law_340 (by decide) ?_
  refine v_iadd dL_law_341 ?_
  refine v_scrAt dL_law_342 (scr_in hin hL 2 (by decide)) ?_
  refine v_aload_n dL_law_343 rfl ?_
  refine v_iload_n dL_law_344 rfl ?_
  refine v_iconst (3) dL_law_345 (by decide) ?_
  refine v_iadd dL_law_346 ?_
  refine v_scrAt dL_law_347 (scr_in hin hL 3 (by decide)) ?_
  refine v_invV (potC h + 47 - mc - mc') (potS h + 22232 - ms - ms') hm dL_law_348 cwX14_clause mlL_39 (ob_32 _) rfl rfl (by decide) (by decide) (Nat.le_of_ble_eq_true rfl) (by omega) (by omega) (fun r2 h2 q2 => ?_) (fun _ _ q => q.elim)
  obtain ⟨rfl, rr, p1, p2⟩ := q2
  refine v_icmp_eq 1120 dL_law_351 (by decide) (fun _ => ?_) (fun z => absurd rfl z)
  exact V.room (by omega) (by omega) (ih h2 rr)
set_option maxRecDepth 20000 in
theorem law_6 (g : G0) {t : Nat} {h : Hp} (r : RR h) (hin : 6 * t + 6 ≤ gL g) (hL : gL g ≤ 3072) (ih : ∀ h', RR h' → V g kfL_law 60 (potC h' + 47) (potS h' + 22232) 1120 (LL t) [] h' QL noE) : V g kfL_law 60 (potC h + 47) (potS h + 22232) 356 (LL t) [] h QL noE := by
  obtain ⟨mc, ms, mc', ms', b1, b2, o⟩ := Op.ex0 (op_clauses g h r (w := (gX g (nI (6 * t) + 1).toNatClampNeg)) (d := (gX g (nI (6 * t) + 2).toNatClampNeg)))
  refine v_aload_n dL_law_356 rfl ?_
  refine v_aload_n dL_law_357 rfl ?_
  refine v_iload_n dL_law_358 rfl ?_
  refine v_iconst (1) dL_law_359 (by decide) ?_
  refine v_iadd dL_law_360 ?_
  refine v_scrAt dL_law_361 (scr_in hin hL 1 (by decide)) ?_
  refine v_aload_n dL_law_362 rfl ?_
  refine v_iload_n dL_law_363 rfl ?_
  refine v_iconst (2) dL_law_364 (by decide) ?_
  refine v_iadd dL_law_365 ?_
  refine v_scrAt dL_law_366 (scr_in hin hL 2 (by decide)) ?_
  refine v_invV (potC h + 47 - mc) (potS h + 22232 - ms) o dL_law_367 cwX11_clauses mlL_40 (ob_0 _) rfl rfl (by decide) (by decide) (Nat.le_of_ble_eq_true rfl) (by omega) (by omega) (fun r1 h1 q1 => ?_) (fun _ _ q => q.elim)
  obtain ⟨v, rfl, hm⟩ := q1
  refine v_aload_n dL_law_370 rfl ?_
  refine v_aload_n dL_law_371 rfl ?_
  refine v_iload_n dL_law_372 rfl ?_
  refine v_iconst (1) dL_law_373 (by decide) ?_
  refine v_iadd dL_law_374 ?_
  refine v_scrAt dL_law_375 (scr_in hin hL 1 (by decide)) ?_
  refine v_aload_n dL_law_376 rfl ?_
  refine v_iload_n dL_law_377 rfl ?_
  refine v_iconst (2) dL_law_378 (by decide) ?_
  refine v_iadd dL_law_379 ?_
  refine v_scrAt dL_law_380 (scr_in hin hL 2 (by decide)) ?_
  refine v_invV (potC h + 47 - mc - mc') (potS h + 22232 - ms - ms') hm dL_law_381 cwX14_clauses mlL_44 (ob_32 _) rfl rfl (by decide) (by decide) (Nat.le_of_ble_eq_true rfl) (by omega) (by omega) (fun r2 h2 q2 => ?_) (fun _ _ q => q.elim)
  obtain ⟨rfl, rr, p1, p2⟩ := q2
  refine v_icmp_eq 1120 dL_law_384 (by decide) (fun _ => ?_) (fun z => absurd rfl z)
  exact V.room (by omega) (by omega) (ih h2 rr)
set_option maxRecDepth 20000 in
theorem law_7 (g : G0) {t : Nat} {h : Hp} (r : RR h) (hin : 6 * t + 6 ≤ gL g) (hL : gL g ≤ 3072) (ih : ∀ h', RR h' → V g kfL_law 60 (potC h' + 47) (potS h' + 22232) 1120 (LL t) [] h' QL noE) : V g kfL_law 60 (potC h + 47) (potS h + 22232) 389 (LL t) [] h QL noE := by
  by_cases c0 : gX g (nI (6 * t) + 3).toNatClampNeg = 0
  · show V g kfL_law _ _ _ _ _ _ _ _ _
    obtain ⟨mc, ms, mc', ms', b1, b2, o⟩ := Op.ex2 (op_person g h r (b := (gX g (nI (6 * t) + 1).toNatClampNeg)) (c := (gX g (nI (6 * t) + 2).toNatClampNeg)) (k := (0 : Int32)) (Or.inl rfl))
    refine v_aload_n dL_law_389 rfl ?_
    refine v_aload_n dL_law_390 rfl ?_
    refine v_iload_n dL_law_391 rfl ?_
    refine v_iconst (1) dL_law_392 (by decide) ?_
    refine v_iadd dL_law_393 ?_
    refine v_scrAt dL_law_394 (scr_in hin hL 1 (by decide)) ?_
    refine v_aload_n dL_law_395 rfl ?_
    refine v_iload_n dL_law_396 rfl ?_
    refine v_iconst (2) dL_law_397 (by decide) ?_
    refine v_iadd dL_law_398 ?_
    refine v_scrAt dL_law_399 (scr_in hin hL 2 (by decide)) ?_
    refine v_aload_n dL_law_400 rfl ?_
    refine v_iload_n dL_law_401 rfl ?_
    refine v_iconst (3) dL_law_402 (by decide) ?_
    refine v_iadd dL_law_403 ?_
    refine v_scrAt dL_law_404 (scr_in hin hL 3 (by decide)) ?_
    refine v_if_eq 412 dL_law_405 (by decide) (fun _ => ?_) (fun z => absurd c0 z)
    refine v_iconst (0) dL_law_412 (by decide) ?_
    refine v_invV (potC h + 47 - mc) (potS h + 22232 - ms) o dL_law_413 cwX11_person mlL_45 (ob_0 _) rfl rfl (by decide) (by decide) (Nat.le_of_ble_eq_true rfl) (by omega) (by omega) (fun r1 h1 q1 => ?_) (fun _ _ q => q.elim)
    obtain ⟨v, rfl, hm⟩ := q1
    refine v_aload_n dL_law_416 rfl ?_
    refine v_aload_n dL_law_417 rfl ?_
    refine v_iload_n dL_law_418 rfl ?_
    refine v_iconst (1) dL_law_419 (by decide) ?_
    refine v_iadd dL_law_420 ?_
    refine v_scrAt dL_law_421 (scr_in hin hL 1 (by decide)) ?_
    refine v_aload_n dL_law_422 rfl ?_
    refine v_iload_n dL_law_423 rfl ?_
    refine v_iconst (2) dL_law_424 (by decide) ?_
    refine v_iadd dL_law_425 ?_
    refine v_scrAt dL_law_426 (scr_in hin hL 2 (by decide)) ?_
    refine v_aload_n dL_law_427 rfl ?_
    refine v_iload_n dL_law_428 rfl ?_
    refine v_iconst (3) dL_law_429 (by decide) ?_
    refine v_iadd dL_law_430 ?_
    refine v_scrAt dL_law_431 (scr_in hin hL 3 (by decide)) ?_
    refine v_if_eq 439 dL_law_432 (by decide) (fun _ => ?_) (fun z => absurd c0 z)
    refine v_iconst (0) dL_law_439 (by decide) ?_
    refine v_invV (potC h + 47 - mc - mc') (potS h + 22232 - ms - ms') hm dL_law_440 cwX14_person mlL_49 (ob_32 _) rfl rfl (by decide) (by decide) (Nat.le_of_ble_eq_true rfl) (by omega) (by omega) (fun r2 h2 q2 => ?_) (fun _ _ q => q.elim)
    obtain ⟨rfl, rr, p1, p2⟩ := q2
    refine v_icmp_eq 1120 dL_law_443 (by decide) (fun _ => ?_) (fun z => absurd rfl z)
    exact V.room (by omega) (by omega) (ih h2 rr)
  · show V g kfL_law _ _ _ _ _ _ _ _ _
    obtain ⟨mc, ms, mc', ms', b1, b2, o⟩ := Op.ex2 (op_person g h r (b := (gX g (nI (6 * t) + 1).toNatClampNeg)) (c := (gX g (nI (6 * t) + 2).toNatClampNeg)) (k := (1 : Int32)) (Or.inr rfl))
    refine v_aload_n dL_law_389 rfl ?_
    refine v_aload_n dL_law_390 rfl ?_
    refine v_iload_n dL_law_391 rfl ?_
    refine v_iconst (1) dL_law_392 (by decide) ?_
    refine v_iadd dL_law_393 ?_
    refine v_scrAt dL_law_394 (scr_in hin hL 1 (by decide)) ?_
    refine v_aload_n dL_law_395 rfl ?_
    refine v_iload_n dL_law_396 rfl ?_
    refine v_iconst (2) dL_law_397 (by decide) ?_
    refine v_iadd dL_law_398 ?_
    refine v_scrAt dL_law_399 (scr_in hin hL 2 (by decide)) ?_
    refine v_aload_n dL_law_400 rfl ?_
    refine v_iload_n dL_law_401 rfl ?_
    refine v_iconst (3) dL_law_402 (by decide) ?_
    refine v_iadd dL_law_403 ?_
    refine v_scrAt dL_law_404 (scr_in hin hL 3 (by decide)) ?_
    refine v_if_eq 412 dL_law_405 (by decide) (fun z => absurd z c0) (fun _ => ?_)
    refine v_iconst (1) dL_law_408 (by decide) ?_
    refine v_goto 413 dL_law_409 (by decide) ?_
    refine v_invV (potC h + 47 - mc) (potS h + 22232 - ms) o dL_law_413 cwX11_person mlL_45 (ob_0 _) rfl rfl (by decide) (by decide) (Nat.le_of_ble_eq_true rfl) (by omega) (by omega) (fun r1 h1 q1 => ?_) (fun _ _ q => q.elim)
    obtain ⟨v, rfl, hm⟩ := q1
    refine v_aload_n dL_law_416 rfl ?_
    refine v_aload_n dL_law_417 rfl ?_
    refine v_iload_n dL_law_418 rfl ?_
    refine v_iconst (1) dL_law_419 (by decide) ?_
    refine v_iadd dL_law_420 ?_
    refine v_scrAt dL_law_421 (scr_in hin hL 1 (by decide)) ?_
    refine v_aload_n dL_law_422 rfl ?_
    refine v_iload_n dL_law_423 rfl ?_
    refine v_iconst (2) dL_law_424 (by decide) ?_
    refine v_iadd dL_law_425 ?_
    refine v_scrAt dL_law_426 (scr_in hin hL 2 (by decide)) ?_
    refine v_aload_n dL_law_427 rfl ?_
    refine v_iload_n dL_law_428 rfl ?_
    refine v_iconst (3) dL_law_429 (by decide) ?_
    refine v_iadd dL_law_430 ?_
    refine v_scrAt dL_law_431 (scr_in hin hL 3 (by decide)) ?_
    refine v_if_eq 439 dL_law_432 (by decide) (fun z => absurd z c0) (fun _ => ?_)
    refine v_iconst (1) dL_law_435 (by decide) ?_
    refine v_goto 440 dL_law_436 (by decide) ?_
    refine v_invV (potC h + 47 - mc - mc') (potS h + 22232 - ms - ms') hm dL_law_440 cwX14_person mlL_49 (ob_32 _) rfl rfl (by decide) (by decide) (Nat.le_of_ble_eq_true rfl) (by omega) (by omega) (fun r2 h2 q2 => ?_) (fun _ _ q => q.elim)
    obtain ⟨rfl, rr, p1, p2⟩ := q2
    refine v_icmp_eq 1120 dL_law_443 (by decide) (fun _ => ?_) (fun z => absurd rfl z)
    exact V.room (by omega) (by omega) (ih h2 rr)
set_option maxRecDepth 20000 in
theorem law_8 (g : G0) {t : Nat} {h : Hp} (r : RR h) (hin : 6 * t + 6 ≤ gL g) (hL : gL g ≤ 3072) (ih : ∀ h', RR h' → V g kfL_law 60 (potC h' + 47) (potS h' + 22232) 1120 (LL t) [] h' QL noE) : V g kfL_law 60 (potC h + 47) (potS h + 22232) 448 (LL t) [] h QL noE := by
  obtain ⟨mc, ms, mc', ms', b1, b2, o⟩ := Op.ex0 (op_means g h r (p := (gX g (nI (6 * t) + 1).toNatClampNeg)) (d := (gX g (nI (6 * t) + 2).toNatClampNeg)) (v := (gX g (nI (6 * t) + 3).toNatClampNeg)))
  refine v_aload_n dL_law_448 rfl ?_
  refine v_aload_n dL_law_449 rfl ?_
  refine v_iload_n dL_law_450 rfl ?_
  refine v_iconst (1) dL_law_451 (by decide) ?_
  refine v_iadd dL_law_452 ?_
  refine v_scrAt dL_law_453 (scr_in hin hL 1 (by decide)) ?_
  refine v_aload_n dL_law_454 rfl ?_
  refine v_iload_n dL_law_455 rfl ?_
  refine v_iconst (2) dL_law_456 (by decide) ?_
  refine v_iadd dL_law_457 ?_
  refine v_scrAt dL_law_458 (scr_in hin hL 2 (by decide)) ?_
  refine v_aload_n dL_law_459 rfl ?_
  refine v_iload_n dL_law_460 rfl ?_
  refine v_iconst (3) dL_law_461 (by decide) ?_
  refine v_iadd dL_law_462 ?_
  refine v_scrAt dL_law_463 (scr_in hin hL 3 (by decide)) ?_
  refine v_invV (potC h + 47 - mc) (potS h + 22232 - ms) o dL_law_464 cwX11_means mlL_50 (ob_0 _) rfl rfl (by decide) (by decide) (Nat.le_of_ble_eq_true rfl) (by omega) (by omega) (fun r1 h1 q1 => ?_) (fun _ _ q => q.elim)
  obtain ⟨v, rfl, hm⟩ := q1
  refine v_aload_n dL_law_467 rfl ?_
  refine v_aload_n dL_law_468 rfl ?_
  refine v_iload_n dL_law_469 rfl ?_
  refine v_iconst (1) dL_law_470 (by decide) ?_
  refine v_iadd dL_law_471 ?_
  refine v_scrAt dL_law_472 (scr_in hin hL 1 (by decide)) ?_
  refine v_aload_n dL_law_473 rfl ?_
  refine v_iload_n dL_law_474 rfl ?_
  refine v_iconst (2) dL_law_475 (by decide) ?_
  refine v_iadd dL_law_476 ?_
  refine v_scrAt dL_law_477 (scr_in hin hL 2 (by decide)) ?_
  refine v_aload_n dL_law_478 rfl ?_
  refine v_iload_n dL_law_479 rfl ?_
  refine v_iconst (3) dL_law_480 (by decide) ?_
  refine v_iadd dL_law_481 ?_
  refine v_scrAt dL_law_482 (scr_in hin hL 3 (by decide)) ?_
  refine v_invV (potC h + 47 - mc - mc') (potS h + 22232 - ms - ms') hm dL_law_483 cwX14_means mlL_53 (ob_32 _) rfl rfl (by decide) (by decide) (Nat.le_of_ble_eq_true rfl) (by omega) (by omega) (fun r2 h2 q2 => ?_) (fun _ _ q => q.elim)
  obtain ⟨rfl, rr, p1, p2⟩ := q2
  refine v_icmp_eq 1120 dL_law_486 (by decide) (fun _ => ?_) (fun z => absurd rfl z)
  exact V.room (by omega) (by omega) (ih h2 rr)
set_option maxRecDepth 20000 in
theorem law_9 (g : G0) {t : Nat} {h : Hp} (r : RR h) (hin : 6 * t + 6 ≤ gL g) (hL : gL g ≤ 3072) (ih : ∀ h', RR h' → V g kfL_law 60 (potC h' + 47) (potS h' + 22232) 1120 (LL t) [] h' QL noE) : V g kfL_law 60 (potC h + 47) (potS h + 22232) 491 (LL t) [] h QL noE := by
  obtain ⟨mc, ms, mc', ms', b1, b2, o⟩ := Op.ex0 (op_dies g h r (p := (gX g (nI (6 * t) + 1).toNatClampNeg)))
  refine v_aload_n dL_law_491 rfl ?_
  refine v_aload_n dL_law_492 rfl ?_
  refine v_iload_n dL_law_493 rfl ?_
  refine v_iconst (1) dL_law_494 (by decide) ?_
  refine v_iadd dL_law_495 ?_
  refine v_scrAt dL_law_496 (scr_in hin hL 1 (by decide)) ?_
  refine v_invV (potC h + 47 - mc) (potS h + 22232 - ms) o dL_law_497 cwX11_dies mlL_54 (ob_0 _) rfl rfl (by decide) (by decide) (Nat.le_of_ble_eq_true rfl) (by omega) (by omega) (fun r1 h1 q1 => ?_) (fun _ _ q => q.elim)
  obtain ⟨v, rfl, hm⟩ := q1
  refine v_aload_n dL_law_500 rfl ?_
  refine v_aload_n dL_law_501 rfl ?_
  refine v_iload_n dL_law_502 rfl ?_
  refine v_iconst (1) dL_law_503 (by decide) ?_
  refine v_iadd dL_law_504 ?_
  refine v_scrAt dL_law_505 (scr_in hin hL 1 (by decide)) ?_
  refine v_invV (potC h + 47 - mc - mc') (potS h + 22232 - ms - ms') hm dL_law_506 cwX14_dies mlL_58 (ob_32 _) rfl rfl (by decide) (by decide) (Nat.le_of_ble_eq_true rfl) (by omega) (by omega) (fun r2 h2 q2 => ?_) (fun _ _ q => q.elim)
  obtain ⟨rfl, rr, p1, p2⟩ := q2
  refine v_icmp_eq 1120 dL_law_509 (by decide) (fun _ => ?_) (fun z => absurd rfl z)
  exact V.room (by omega) (by omega) (ih h2 rr)
set_option maxRecDepth 20000 in
theorem law_10 (g : G0) {t : Nat} {h : Hp} (r : RR h) (hin : 6 * t + 6 ≤ gL g) (hL : gL g ≤ 3072) (ih : ∀ h', RR h' → V g kfL_law 60 (potC h' + 47) (potS h' + 22232) 1120 (LL t) [] h' QL noE) : V g kfL_law 60 (potC h + 47) (potS h + 22232) 514 (LL t) [] h QL noE := by
  obtain ⟨mc, ms, mc', ms', b1, b2, o⟩ := Op.ex0 (op_fact g h r (p := (gX g (nI (6 * t) + 1).toNatClampNeg)) (d := (gX g (nI (6 * t) + 2).toNatClampNeg)) (k := (gX g (nI (6 * t) + 3).toNatClampNeg)))
  refine v_aload_n dL_law_514 rfl ?_
  refine v_aload_n dL_law_515 rfl ?_
  refine v_iload_n dL_law_516 rfl ?_
  refine v_iconst (1) dL_law_517 (by decide) ?_
  refine v_iadd dL_law_518 ?_
  refine v_scrAt dL_law_519 (scr_in hin hL 1 (by decide)) ?_
  refine v_aload_n dL_law_520 rfl ?_
  refine v_iload_n dL_law_521 rfl ?_
  refine v_iconst (2) dL_law_522 (by decide) ?_
  refine v_iadd dL_law_523 ?_
  refine v_scrAt dL_law_524 (scr_in hin hL 2 (by decide)) ?_
  refine v_aload_n dL_law_525 rfl ?_
  refine v_iload_n dL_law_526 rfl ?_
  refine v_iconst (3) dL_law_527 (by decide) ?_
  refine v_iadd dL_law_528 ?_
  refine v_scrAt dL_law_529 (scr_in hin hL 3 (by decide)) ?_
  refine v_invV (potC h + 47 - mc) (potS h + 22232 - ms) o dL_law_530 cwX11_fact mlL_59 (ob_0 _) rfl rfl (by decide) (by decide) (Nat.le_of_ble_eq_true rfl) (by omega) (by omega) (fun r1 h1 q1 => ?_) (fun _ _ q => q.elim)
  obtain ⟨v, rfl, hm⟩ := q1
  refine v_aload_n dL_law_533 rfl ?_
  refine v_aload_n dL_law_534 rfl ?_
  refine v_iload_n dL_law_535 rfl ?_
  refine v_iconst (1) dL_law_536 (by decide) ?_
  refine v_iadd dL_law_537 ?_
  refine v_scrAt dL_law_538 (scr_in hin hL 1 (by decide)) ?_
  refine v_aload_n dL_law_539 rfl ?_
  refine v_iload_n dL_law_540 rfl ?_
  refine v_iconst (2) dL_law_541 (by decide) ?_
  refine v_iadd dL_law_542 ?_
  refine v_scrAt dL_law_543 (scr_in hin hL 2 (by decide)) ?_
  refine v_aload_n dL_law_544 rfl ?_
  refine v_iload_n dL_law_545 rfl ?_
  refine v_iconst (3) dL_law_546 (by decide) ?_
  refine v_iadd dL_law_547 ?_
  refine v_scrAt dL_law_548 (scr_in hin hL 3 (by decide)) ?_
  refine v_invV (potC h + 47 - mc - mc') (potS h + 22232 - ms - ms') hm dL_law_549 cwX14_fact mlL_62 (ob_32 _) rfl rfl (by decide) (by decide) (Nat.le_of_ble_eq_true rfl) (by omega) (by omega) (fun r2 h2 q2 => ?_) (fun _ _ q => q.elim)
  obtain ⟨rfl, rr, p1, p2⟩ := q2
  refine v_icmp_eq 1120 dL_law_552 (by decide) (fun _ => ?_) (fun z => absurd rfl z)
  exact V.room (by omega) (by omega) (ih h2 rr)
set_option maxRecDepth 20000 in
theorem law_11 (g : G0) {t : Nat} {h : Hp} (r : RR h) (hin : 6 * t + 6 ≤ gL g) (hL : gL g ≤ 3072) (ih : ∀ h', RR h' → V g kfL_law 60 (potC h' + 47) (potS h' + 22232) 1120 (LL t) [] h' QL noE) : V g kfL_law 60 (potC h + 47) (potS h + 22232) 557 (LL t) [] h QL noE := by
  obtain ⟨mc, ms, mc', ms', b1, b2, o⟩ := Op.ex0 (op_may g h r (p := (gX g (nI (6 * t) + 1).toNatClampNeg)) (w := (gX g (nI (6 * t) + 2).toNatClampNeg)) (d := (gX g (nI (6 * t) + 3).toNatClampNeg)))
  refine v_aload_n dL_law_557 rfl ?_
  refine v_aload_n dL_law_558 rfl ?_
  refine v_iload_n dL_law_559 rfl ?_
  refine v_iconst (1) dL_law_560 (by decide) ?_
  refine v_iadd dL_law_561 ?_
  refine v_scrAt dL_law_562 (scr_in hin hL 1 (by decide)) ?_
  refine v_aload_n dL_law_563 rfl ?_
  refine v_iload_n dL_law_564 rfl ?_
  refine v_iconst (2) dL_law_565 (by decide) ?_
  refine v_iadd dL_law_566 ?_
  refine v_scrAt dL_law_567 (scr_in hin hL 2 (by decide)) ?_
  refine v_aload_n dL_law_568 rfl ?_
  refine v_iload_n dL_law_569 rfl ?_
  refine v_iconst (3) dL_law_570 (by decide) ?_
  refine v_iadd dL_law_571 ?_
  refine v_scrAt dL_law_572 (scr_in hin hL 3 (by decide)) ?_
  refine v_invV (potC h + 47 - mc) (potS h + 22232 - ms) o dL_law_573 cwX11_may mlL_63 (ob_0 _) rfl rfl (by decide) (by decide) (Nat.le_of_ble_eq_true rfl) (by omega) (by omega) (fun r1 h1 q1 => ?_) (fun _ _ q => q.elim)
  obtain ⟨v, rfl, hm⟩ := q1
  refine v_aload_n dL_law_576 rfl ?_
  refine v_aload_n dL_law_577 rfl ?_
  refine v_iload_n dL_law_578 rfl ?_
  refine v_iconst (1) dL_law_579 (by decide) ?_
  refine v_iadd dL_law_580 ?_
  refine v_scrAt dL_law_581 (scr_in hin hL 1 (by decide)) ?_
  refine v_aload_n dL_law_582 rfl ?_
  refine v_iload_n dL_law_583 rfl ?_
  refine v_iconst (2) dL_law_584 (by decide) ?_
  refine v_iadd dL_law_585 ?_
  refine v_scrAt dL_law_586 (scr_in hin hL 2 (by decide)) ?_
  refine v_aload_n dL_law_587 rfl ?_
  refine v_iload_n dL_law_588 rfl ?_
  refine v_iconst (3) dL_law_589 (by decide) ?_
  refine v_iadd dL_law_590 ?_
  refine v_scrAt dL_law_591 (scr_in hin hL 3 (by decide)) ?_
  refine v_invV (potC h + 47 - mc - mc') (potS h + 22232 - ms - ms') hm dL_law_592 cwX14_may mlL_66 (ob_32 _) rfl rfl (by decide) (by decide) (Nat.le_of_ble_eq_true rfl) (by omega) (by omega) (fun r2 h2 q2 => ?_) (fun _ _ q => q.elim)
  obtain ⟨rfl, rr, p1, p2⟩ := q2
  refine v_icmp_eq 1120 dL_law_595 (by decide) (fun _ => ?_) (fun z => absurd rfl z)
  exact V.room (by omega) (by omega) (ih h2 rr)
set_option maxRecDepth 20000 in
theorem law_12 (g : G0) {t : Nat} {h : Hp} (r : RR h) (hin : 6 * t + 6 ≤ gL g) (hL : gL g ≤ 3072) (ih : ∀ h', RR h' → V g kfL_law 60 (potC h' + 47) (potS h' + 22232) 1120 (LL t) [] h' QL noE) : V g kfL_law 60 (potC h + 47) (potS h + 22232) 600 (LL t) [] h QL noE := by
  obtain ⟨mc, ms, mc', ms', b1, b2, o⟩ := Op.ex0 (op_bars g h r (p := (gX g (nI (6 * t) + 1).toNatClampNeg)) (w := (gX g (nI (6 * t) + 2).toNatClampNeg)) (d := (gX g (nI (6 * t) + 3).toNatClampNeg)))
  refine v_aload_n dL_law_600 rfl ?_
  refine v_aload_n dL_law_601 rfl ?_
  refine v_iload_n dL_law_602 rfl ?_
  refine v_iconst (1) dL_law_603 (by decide) ?_
  refine v_iadd dL_law_604 ?_
  refine v_scrAt dL_law_605 (scr_in hin hL 1 (by decide)) ?_
  refine v_aload_n dL_law_606 rfl ?_
  refine v_iload_n dL_law_607 rfl ?_
  refine v_iconst (2) dL_law_608 (by decide) ?_
  refine v_iadd dL_law_609 ?_
  refine v_scrAt dL_law_610 (scr_in hin hL 2 (by decide)) ?_
  refine v_aload_n dL_law_611 rfl ?_
  refine v_iload_n dL_law_612 rfl ?_
  refine v_iconst (3) dL_law_613 (by decide) ?_
  refine v_iadd dL_law_614 ?_
  refine v_scrAt dL_law_615 (scr_in hin hL 3 (by decide)) ?_
  refine v_invV (potC h + 47 - mc) (potS h + 22232 - ms) o dL_law_616 cwX11_bars mlL_67 (ob_0 _) rfl rfl (by decide) (by decide) (Nat.le_of_ble_eq_true rfl) (by omega) (by omega) (fun r1 h1 q1 => ?_) (fun _ _ q => q.elim)
  obtain ⟨v, rfl, hm⟩ := q1
  refine v_aload_n dL_law_619 rfl ?_
  refine v_aload_n dL_law_620 rfl ?_
  refine v_iload_n dL_law_621 rfl ?_
  refine v_iconst (1) dL_law_622 (by decide) ?_
  refine v_iadd dL_law_623 ?_
  refine v_scrAt dL_law_624 (scr_in hin hL 1 (by decide)) ?_
  refine v_aload_n dL_law_625 rfl ?_
  refine v_iload_n dL_law_626 rfl ?_
  refine v_iconst (2) dL_law_627 (by decide) ?_
  refine v_iadd dL_law_628 ?_
  refine v_scrAt dL_law_629 (scr_in hin hL 2 (by decide)) ?_
  refine v_aload_n dL_law_630 rfl ?_
  refine v_iload_n dL_law_631 rfl ?_
  refine v_iconst (3) dL_law_632 (by decide) ?_
  refine v_iadd dL_law_633 ?_
  refine v_scrAt dL_law_634 (scr_in hin hL 3 (by decide)) ?_
  refine v_invV (potC h + 47 - mc - mc') (potS h + 22232 - ms - ms') hm dL_law_635 cwX14_bars mlL_70 (ob_32 _) rfl rfl (by decide) (by decide) (Nat.le_of_ble_eq_true rfl) (by omega) (by omega) (fun r2 h2 q2 => ?_) (fun _ _ q => q.elim)
  obtain ⟨rfl, rr, p1, p2⟩ := q2
  refine v_icmp_eq 1120 dL_law_638 (by decide) (fun _ => ?_) (fun z => absurd rfl z)
  exact V.room (by omega) (by omega) (ih h2 rr)
set_option maxRecDepth 20000 in
theorem law_13 (g : G0) {t : Nat} {h : Hp} (r : RR h) (hin : 6 * t + 6 ≤ gL g) (hL : gL g ≤ 3072) (ih : ∀ h', RR h' → V g kfL_law 60 (potC h' + 47) (potS h' + 22232) 1120 (LL t) [] h' QL noE) : V g kfL_law 60 (potC h + 47) (potS h + 22232) 643 (LL t) [] h QL noE := by
  obtain ⟨mc, ms, mc', ms', b1, b2, o⟩ := Op.ex0 (op_order g h r (p := (gX g (nI (6 * t) + 1).toNatClampNeg)) (w := (gX g (nI (6 * t) + 2).toNatClampNeg)) (d := (gX g (nI (6 * t) + 3).toNatClampNeg)))
  refine v_aload_n dL_law_643 rfl ?_
  refine v_aload_n dL_law_644 rfl ?_
  refine v_iload_n dL_law_645 rfl ?_
  refine v_iconst (1) dL_law_646 (by decide) ?_
  refine v_iadd dL_law_647 ?_
  refine v_scrAt dL_law_648 (scr_in hin hL 1 (by decide)) ?_
  refine v_aload_n dL_law_649 rfl ?_
  refine v_iload_n dL_law_650 rfl ?_
  refine v_iconst (2) dL_law_651 (by decide) ?_
  refine v_iadd dL_law_652 ?_
  refine v_scrAt dL_law_653 (scr_in hin hL 2 (by decide)) ?_
  refine v_aload_n dL_law_654 rfl ?_
  refine v_iload_n dL_law_655 rfl ?_
  refine v_iconst (3) dL_law_656 (by decide) ?_
  refine v_iadd dL_law_657 ?_
  refine v_scrAt dL_law_658 (scr_in hin hL 3 (by decide)) ?_
  refine v_invV (potC h + 47 - mc) (potS h + 22232 - ms) o dL_law_659 cwX11_order mlL_71 (ob_0 _) rfl rfl (by decide) (by decide) (Nat.le_of_ble_eq_true rfl) (by omega) (by omega) (fun r1 h1 q1 => ?_) (fun _ _ q => q.elim)
  obtain ⟨v, rfl, hm⟩ := q1
  refine v_aload_n dL_law_662 rfl ?_
  refine v_aload_n dL_law_663 rfl ?_
  refine v_iload_n dL_law_664 rfl ?_
  refine v_iconst (1) dL_law_665 (by decide) ?_
  refine v_iadd dL_law_666 ?_
  refine v_scrAt dL_law_667 (scr_in hin hL 1 (by decide)) ?_
  refine v_aload_n dL_law_668 rfl ?_
  refine v_iload_n dL_law_669 rfl ?_
  refine v_iconst (2) dL_law_670 (by decide) ?_
  refine v_iadd dL_law_671 ?_
  refine v_scrAt dL_law_672 (scr_in hin hL 2 (by decide)) ?_
  refine v_aload_n dL_law_673 rfl ?_
  refine v_iload_n dL_law_674 rfl ?_
  refine v_iconst (3) dL_law_675 (by decide) ?_
  refine v_iadd dL_law_676 ?_
  refine v_scrAt dL_law_677 (scr_in hin hL 3 (by decide)) ?_
  refine v_invV (potC h + 47 - mc - mc') (potS h + 22232 - ms - ms') hm dL_law_678 cwX14_order mlL_74 (ob_32 _) rfl rfl (by decide) (by decide) (Nat.le_of_ble_eq_true rfl) (by omega) (by omega) (fun r2 h2 q2 => ?_) (fun _ _ q => q.elim)
  obtain ⟨rfl, rr, p1, p2⟩ := q2
  refine v_icmp_eq 1120 dL_law_681 (by decide) (fun _ => ?_) (fun z => absurd rfl z)
  exact V.room (by omega) (by omega) (ih h2 rr)
set_option maxRecDepth 20000 in
theorem law_14 (g : G0) {t : Nat} {h : Hp} (r : RR h) (hin : 6 * t + 6 ≤ gL g) (hL : gL g ≤ 3072) (ih : ∀ h', RR h' → V g kfL_law 60 (potC h' + 47) (potS h' + 22232) 1120 (LL t) [] h' QL noE) : V g kfL_law 60 (potC h + 47) (potS h + 22232) 686 (LL t) [] h QL noE := by
  obtain ⟨mc, ms, mc', ms', b1, b2, o⟩ := Op.ex0 (op_list g h r (w := (gX g (nI (6 * t) + 1).toNatClampNeg)) (d := (gX g (nI (6 * t) + 2).toNatClampNeg)))
  refine v_aload_n dL_law_686 rfl ?_
  refine v_aload_n dL_law_687 rfl ?_
  refine v_iload_n dL_law_688 rfl ?_
  refine v_iconst (1) dL_law_689 (by decide) ?_
  refine v_iadd dL_law_690 ?_
  refine v_scrAt dL_law_691 (scr_in hin hL 1 (by decide)) ?_
  refine v_aload_n dL_law_692 rfl ?_
  refine v_iload_n dL_law_693 rfl ?_
  refine v_iconst (2) dL_law_694 (by decide) ?_
  refine v_iadd dL_law_695 ?_
  refine v_scrAt dL_law_696 (scr_in hin hL 2 (by decide)) ?_
  refine v_invV (potC h + 47 - mc) (potS h + 22232 - ms) o dL_law_697 cwX11_list mlL_75 (ob_0 _) rfl rfl (by decide) (by decide) (Nat.le_of_ble_eq_true rfl) (by omega) (by omega) (fun r1 h1 q1 => ?_) (fun _ _ q => q.elim)
  obtain ⟨v, rfl, hm⟩ := q1
  refine v_aload_n dL_law_700 rfl ?_
  refine v_aload_n dL_law_701 rfl ?_
  refine v_iload_n dL_law_702 rfl ?_
  refine v_iconst (1) dL_law_703 (by decide) ?_
  refine v_iadd dL_law_704 ?_
  refine v_scrAt dL_law_705 (scr_in hin hL 1 (by decide)) ?_
  refine v_aload_n dL_law_706 rfl ?_
  refine v_iload_n dL_law_707 rfl ?_
  refine v_iconst (2) dL_law_708 (by decide) ?_
  refine v_iadd dL_law_709 ?_
  refine v_scrAt dL_law_710 (scr_in hin hL 2 (by decide)) ?_
  refine v_invV (potC h + 47 - mc - mc') (potS h + 22232 - ms - ms') hm dL_law_711 cwX14_list mlL_78 (ob_32 _) rfl rfl (by decide) (by decide) (Nat.le_of_ble_eq_true rfl) (by omega) (by omega) (fun r2 h2 q2 => ?_) (fun _ _ q => q.elim)
  obtain ⟨rfl, rr, p1, p2⟩ := q2
  refine v_icmp_eq 1120 dL_law_714 (by decide) (fun _ => ?_) (fun z => absurd rfl z)
  exact V.room (by omega) (by omega) (ih h2 rr)
set_option maxRecDepth 20000 in
theorem law_15 (g : G0) {t : Nat} {h : Hp} (r : RR h) (hin : 6 * t + 6 ≤ gL g) (hL : gL g ≤ 3072) (ih : ∀ h', RR h' → V g kfL_law 60 (potC h' + 47) (potS h' + 22232) 1120 (LL t) [] h' QL noE) : V g kfL_law 60 (potC h + 47) (potS h + 22232) 719 (LL t) [] h QL noE := by
  obtain ⟨mc, ms, mc', ms', b1, b2, o⟩ := Op.ex0 (op_next g h r (w := (gX g (nI (6 * t) + 1).toNatClampNeg)) (d := (gX g (nI (6 * t) + 2).toNatClampNeg)))
  refine v_aload_n dL_law_719 rfl ?_
  refine v_aload_n dL_law_720 rfl ?_
  refine v_iload_n dL_law_721 rfl ?_
  refine v_iconst (1) dL_law_722 (by decide) ?_
  refine v_iadd dL_law_723 ?_
  refine v_scrAt dL_law_724 (scr_in hin hL 1 (by decide)) ?_
  refine v_aload_n dL_law_725 rfl ?_
  refine v_iload_n dL_law_726 rfl ?_
  refine v_iconst (2) dL_law_727 (by decide) ?_
  refine v_iadd dL_law_728 ?_
  refine v_scrAt dL_law_729 (scr_in hin hL 2 (by decide)) ?_
  refine v_invV (potC h + 47 - mc) (potS h + 22232 - ms) o dL_law_730 cwX11_next mlL_79 (ob_0 _) rfl rfl (by decide) (by decide) (Nat.le_of_ble_eq_true rfl) (by omega) (by omega) (fun r1 h1 q1 => ?_) (fun _ _ q => q.elim)
  obtain ⟨v, rfl, hm⟩ := q1
  refine v_aload_n dL_law_733 rfl ?_
  refine v_aload_n dL_law_734 rfl ?_
  refine v_iload_n dL_law_735 rfl ?_
  refine v_iconst (1) dL_law_736 (by decide) ?_
  refine v_iadd dL_law_737 ?_
  refine v_scrAt dL_law_738 (scr_in hin hL 1 (by decide)) ?_
  refine v_aload_n dL_law_739 rfl ?_
  refine v_iload_n dL_law_740 rfl ?_
  refine v_iconst (2) dL_law_741 (by decide) ?_
  refine v_iadd dL_law_742 ?_
  refine v_scrAt dL_law_743 (scr_in hin hL 2 (by decide)) ?_
  refine v_invV (potC h + 47 - mc - mc') (potS h + 22232 - ms - ms') hm dL_law_744 cwX14_next_ mlL_82 (ob_32 _) rfl rfl (by decide) (by decide) (Nat.le_of_ble_eq_true rfl) (by omega) (by omega) (fun r2 h2 q2 => ?_) (fun _ _ q => q.elim)
  obtain ⟨rfl, rr, p1, p2⟩ := q2
  refine v_icmp_eq 1120 dL_law_747 (by decide) (fun _ => ?_) (fun z => absurd rfl z)
  exact V.room (by omega) (by omega) (ih h2 rr)
set_option maxRecDepth 20000 in
theorem law_16 (g : G0) {t : Nat} {h : Hp} (r : RR h) (hin : 6 * t + 6 ≤ gL g) (hL : gL g ≤ 3072) (ih : ∀ h', RR h' → V g kfL_law 60 (potC h' + 47) (potS h' + 22232) 1120 (LL t) [] h' QL noE) : V g kfL_law 60 (potC h + 47) (potS h + 22232) 752 (LL t) [] h QL noE := by
  obtain ⟨mc, ms, mc', ms', b1, b2, o⟩ := Op.ex2 (op_room g h r (w := (gX g (nI (6 * t) + 1).toNatClampNeg)))
  refine v_aload_n dL_law_752 rfl ?_
  refine v_aload_n dL_law_753 rfl ?_
  refine v_iload_n dL_law_754 rfl ?_
  refine v_iconst (1) dL_law_755 (by decide) ?_
  refine v_iadd dL_law_756 ?_
  refine v_scrAt dL_law_757 (scr_in hin hL 1 (by decide)) ?_
  refine v_invV (potC h + 47 - mc) (potS h + 22232 - ms) o dL_law_758 cwX11_room mlL_83 (ob_0 _) rfl rfl (by decide) (by decide) (Nat.le_of_ble_eq_true rfl) (by omega) (by omega) (fun r1 h1 q1 => ?_) (fun _ _ q => q.elim)
  obtain ⟨v, rfl, hm⟩ := q1
  refine v_aload_n dL_law_761 rfl ?_
  refine v_aload_n dL_law_762 rfl ?_
  refine v_iload_n dL_law_763 rfl ?_
  refine v_iconst (1) dL_law_764 (by decide) ?_
  refine v_iadd dL_law_765 ?_
  refine v_scrAt dL_law_766 (scr_in hin hL 1 (by decide)) ?_
  refine v_invV (potC h + 47 - mc - mc') (potS h + 22232 - ms - ms') hm dL_law_767 cwX14_room mlL_87 (ob_32 _) rfl rfl (by decide) (by decide) (Nat.le_of_ble_eq_true rfl) (by omega) (by omega) (fun r2 h2 q2 => ?_) (fun _ _ q => q.elim)
  obtain ⟨rfl, rr, p1, p2⟩ := q2
  refine v_icmp_eq 1120 dL_law_770 (by decide) (fun _ => ?_) (fun z => absurd rfl z)
  exact V.room (by omega) (by omega) (ih h2 rr)
set_option maxRecDepth 20000 in
theorem law_17 (g : G0) {t : Nat} {h : Hp} (r : RR h) (hin : 6 * t + 6 ≤ gL g) (hL : gL g ≤ 3072) (ih : ∀ h', RR h' → V g kfL_law 60 (potC h' + 47) (potS h' + 22232) 1120 (LL t) [] h' QL noE) : V g kfL_law 60 (potC h + 47) (potS h + 22232) 775 (LL t) [] h QL noE := by
  obtain ⟨mc, ms, mc', ms', b1, b2, o⟩ := Op.ex0 (op_trustee g h r )
  refine v_aload_n dL_law_775 rfl ?_
  refine v_invV (potC h + 47 - mc) (potS h + 22232 - ms) o dL_law_776 cwX11_trustee mlL_88 (ob_0 _) rfl rfl (by decide) (by decide) (Nat.le_of_ble_eq_true rfl) (by omega) (by omega) (fun r1 h1 q1 => ?_) (fun _ _ q => q.elim)
  obtain ⟨v, rfl, hm⟩ := q1
  refine v_aload_n dL_law_779 rfl ?_
  refine v_invV (potC h + 47 - mc - mc') (potS h + 22232 - ms - ms') hm dL_law_780 cwX14_trustee mlL_91 (ob_32 _) rfl rfl (by decide) (by decide) (Nat.le_of_ble_eq_true rfl) (by omega) (by omega) (fun r2 h2 q2 => ?_) (fun _ _ q => q.elim)
  obtain ⟨rfl, rr, p1, p2⟩ := q2
  refine v_icmp_eq 1120 dL_law_783 (by decide) (fun _ => ?_) (fun z => absurd rfl z)
  exact V.room (by omega) (by omega) (ih h2 rr)
set_option maxRecDepth 20000 in
theorem law_18 (g : G0) {t : Nat} {h : Hp} (r : RR h) (hin : 6 * t + 6 ≤ gL g) (hL : gL g ≤ 3072) (ih : ∀ h', RR h' → V g kfL_law 60 (potC h' + 47) (potS h' + 22232) 1120 (LL t) [] h' QL noE) : V g kfL_law 60 (potC h + 47) (potS h + 22232) 788 (LL t) [] h QL noE := by
  by_cases c0 : gX g (nI (6 * t) + 2).toNatClampNeg = 0
  · show V g kfL_law _ _ _ _ _ _ _ _ _
    obtain ⟨mc, ms, mc', ms', b1, b2, o⟩ := Op.ex0 (op_away g h r (t := (gX g (nI (6 * t) + 1).toNatClampNeg)) (b := (0 : Int32)))
    refine v_aload_n dL_law_788 rfl ?_
    refine v_aload_n dL_law_789 rfl ?_
    refine v_iload_n dL_law_790 rfl ?_
    refine v_iconst (1) dL_law_791 (by decide) ?_
    refine v_iadd dL_law_792 ?_
    refine v_scrAt dL_law_793 (scr_in hin hL 1 (by decide)) ?_
    refine v_aload_n dL_law_794 rfl ?_
    refine v_iload_n dL_law_795 rfl ?_
    refine v_iconst (2) dL_law_796 (by decide) ?_
    refine v_iadd dL_law_797 ?_
    refine v_scrAt dL_law_798 (scr_in hin hL 2 (by decide)) ?_
    refine v_if_eq 806 dL_law_799 (by decide) (fun _ => ?_) (fun z => absurd c0 z)
    refine v_iconst (0) dL_law_806 (by decide) ?_
    refine v_invV (potC h + 47 - mc) (potS h + 22232 - ms) o dL_law_807 cwX11_away mlL_92 (ob_0 _) rfl rfl (by decide) (by decide) (Nat.le_of_ble_eq_true rfl) (by omega) (by omega) (fun r1 h1 q1 => ?_) (fun _ _ q => q.elim)
    obtain ⟨v, rfl, hm⟩ := q1
    refine v_aload_n dL_law_810 rfl ?_
    refine v_aload_n dL_law_811 rfl ?_
    refine v_iload_n dL_law_812 rfl ?_
    refine v_iconst (1) dL_law_813 (by decide) ?_
    refine v_iadd dL_law_814 ?_
    refine v_scrAt dL_law_815 (scr_in hin hL 1 (by decide)) ?_
    refine v_aload_n dL_law_816 rfl ?_
    refine v_iload_n dL_law_817 rfl ?_
    refine v_iconst (2) dL_law_818 (by decide) ?_
    refine v_iadd dL_law_819 ?_
    refine v_scrAt dL_law_820 (scr_in hin hL 2 (by decide)) ?_
    refine v_if_eq 828 dL_law_821 (by decide) (fun _ => ?_) (fun z => absurd c0 z)
    refine v_iconst (0) dL_law_828 (by decide) ?_
    refine v_invV (potC h + 47 - mc - mc') (potS h + 22232 - ms - ms') hm dL_law_829 cwX14_away mlL_96 (ob_32 _) rfl rfl (by decide) (by decide) (Nat.le_of_ble_eq_true rfl) (by omega) (by omega) (fun r2 h2 q2 => ?_) (fun _ _ q => q.elim)
    obtain ⟨rfl, rr, p1, p2⟩ := q2
    refine v_icmp_eq 1120 dL_law_832 (by decide) (fun _ => ?_) (fun z => absurd rfl z)
    exact V.room (by omega) (by omega) (ih h2 rr)
  · show V g kfL_law _ _ _ _ _ _ _ _ _
    obtain ⟨mc, ms, mc', ms', b1, b2, o⟩ := Op.ex0 (op_away g h r (t := (gX g (nI (6 * t) + 1).toNatClampNeg)) (b := (1 : Int32)))
    refine v_aload_n dL_law_788 rfl ?_
    refine v_aload_n dL_law_789 rfl ?_
    refine v_iload_n dL_law_790 rfl ?_
    refine v_iconst (1) dL_law_791 (by decide) ?_
    refine v_iadd dL_law_792 ?_
    refine v_scrAt dL_law_793 (scr_in hin hL 1 (by decide)) ?_
    refine v_aload_n dL_law_794 rfl ?_
    refine v_iload_n dL_law_795 rfl ?_
    refine v_iconst (2) dL_law_796 (by decide) ?_
    refine v_iadd dL_law_797 ?_
    refine v_scrAt dL_law_798 (scr_in hin hL 2 (by decide)) ?_
    refine v_if_eq 806 dL_law_799 (by decide) (fun z => absurd z c0) (fun _ => ?_)
    refine v_iconst (1) dL_law_802 (by decide) ?_
    refine v_goto 807 dL_law_803 (by decide) ?_
    refine v_invV (potC h + 47 - mc) (potS h + 22232 - ms) o dL_law_807 cwX11_away mlL_92 (ob_0 _) rfl rfl (by decide) (by decide) (Nat.le_of_ble_eq_true rfl) (by omega) (by omega) (fun r1 h1 q1 => ?_) (fun _ _ q => q.elim)
    obtain ⟨v, rfl, hm⟩ := q1
    refine v_aload_n dL_law_810 rfl ?_
    refine v_aload_n dL_law_811 rfl ?_
    refine v_iload_n dL_law_812 rfl ?_
    refine v_iconst (1) dL_law_813 (by decide) ?_
    refine v_iadd dL_law_814 ?_
    refine v_scrAt dL_law_815 (scr_in hin hL 1 (by decide)) ?_
    refine v_aload_n dL_law_816 rfl ?_
    refine v_iload_n dL_law_817 rfl ?_
    refine v_iconst (2) dL_law_818 (by decide) ?_
    refine v_iadd dL_law_819 ?_
    refine v_scrAt dL_law_820 (scr_in hin hL 2 (by decide)) ?_
    refine v_if_eq 828 dL_law_821 (by decide) (fun z => absurd z c0) (fun _ => ?_)
    refine v_iconst (1) dL_law_824 (by decide) ?_
    refine v_goto 829 dL_law_825 (by decide) ?_
    refine v_invV (potC h + 47 - mc - mc') (potS h + 22232 - ms - ms') hm dL_law_829 cwX14_away mlL_96 (ob_32 _) rfl rfl (by decide) (by decide) (Nat.le_of_ble_eq_true rfl) (by omega) (by omega) (fun r2 h2 q2 => ?_) (fun _ _ q => q.elim)
    obtain ⟨rfl, rr, p1, p2⟩ := q2
    refine v_icmp_eq 1120 dL_law_832 (by decide) (fun _ => ?_) (fun z => absurd rfl z)
    exact V.room (by omega) (by omega) (ih h2 rr)
set_option maxRecDepth 20000 in
theorem law_19 (g : G0) {t : Nat} {h : Hp} (r : RR h) (hin : 6 * t + 6 ≤ gL g) (hL : gL g ≤ 3072) (ih : ∀ h', RR h' → V g kfL_law 60 (potC h' + 47) (potS h' + 22232) 1120 (LL t) [] h' QL noE) : V g kfL_law 60 (potC h + 47) (potS h + 22232) 837 (LL t) [] h QL noE := by
  obtain ⟨mc, ms, mc', ms', b1, b2, o⟩ := Op.ex2 (op_fill g h r (w := (gX g (nI (6 * t) + 1).toNatClampNeg)))
  refine v_aload_n dL_law_837 rfl ?_
  refine v_aload_n dL_law_838 rfl ?_
  refine v_iload_n dL_law_839 rfl ?_
  refine v_iconst (1) dL_law_840 (by decide) ?_
  refine v_iadd dL_law_841 ?_
  refine v_scrAt dL_law_842 (scr_in hin hL 1 (by decide)) ?_
  refine v_invV (potC h + 47 - mc) (potS h + 22232 - ms) o dL_law_843 cwX11_fill mlL_97 (ob_0 _) rfl rfl (by decide) (by decide) (Nat.le_of_ble_eq_true rfl) (by omega) (by omega) (fun r1 h1 q1 => ?_) (fun _ _ q => q.elim)
  obtain ⟨v, rfl, hm⟩ := q1
  refine v_aload_n dL_law_846 rfl ?_
  refine v_aload_n dL_law_847 rfl ?_
  refine v_iload_n dL_law_848 rfl ?_
  refine v_iconst (1) dL_law_849 (by decide) ?_
  refine v_iadd dL_law_850 ?_
  refine v_scrAt dL_law_851 (scr_in hin hL 1 (by decide)) ?_
  refine v_invV (potC h + 47 - mc - mc') (potS h + 22232 - ms - ms') hm dL_law_852 cwX14_fill mlL_100 (ob_32 _) rfl rfl (by decide) (by decide) (Nat.le_of_ble_eq_true rfl) (by omega) (by omega) (fun r2 h2 q2 => ?_) (fun _ _ q => q.elim)
  obtain ⟨rfl, rr, p1, p2⟩ := q2
  refine v_icmp_eq 1120 dL_law_855 (by decide) (fun _ => ?_) (fun z => absurd rfl z)
  exact V.room (by omega) (by omega) (ih h2 rr)
set_option maxRecDepth 20000 in
theorem law_20 (g : G0) {t : Nat} {h : Hp} (r : RR h) (hin : 6 * t + 6 ≤ gL g) (hL : gL g ≤ 3072) (ih : ∀ h', RR h' → V g kfL_law 60 (potC h' + 47) (potS h' + 22232) 1120 (LL t) [] h' QL noE) : V g kfL_law 60 (potC h + 47) (potS h + 22232) 860 (LL t) [] h QL noE := by
  obtain ⟨mc, ms, mc', ms', b1, b2, o⟩ := Op.ex0 (op_leave g h r (w := (gX g (nI (6 * t) + 1).toNatClampNeg)))
  refine v_aload_n dL_law_860 rfl ?_
  refine v_aload_n dL_law_861 rfl ?_
  refine v_iload_n dL_law_862 rfl ?_
  refine v_iconst (1) dL_law_863 (by decide) ?_
  refine v_iadd dL_law_864 ?_
  refine v_scrAt dL_law_865 (scr_in hin hL 1 (by decide)) ?_
  refine v_invV (potC h + 47 - mc) (potS h + 22232 - ms) o dL_law_866 cwX11_leave mlL_101 (ob_0 _) rfl rfl (by decide) (by decide) (Nat.le_of_ble_eq_true rfl) (by omega) (by omega) (fun r1 h1 q1 => ?_) (fun _ _ q => q.elim)
  obtain ⟨v, rfl, hm⟩ := q1
  refine v_aload_n dL_law_869 rfl ?_
  refine v_aload_n dL_law_870 rfl ?_
  refine v_iload_n dL_law_871 rfl ?_
  refine v_iconst (1) dL_law_872 (by decide) ?_
  refine v_iadd dL_law_873 ?_
  refine v_scrAt dL_law_874 (scr_in hin hL 1 (by decide)) ?_
  refine v_invV (potC h + 47 - mc - mc') (potS h + 22232 - ms - ms') hm dL_law_875 cwX14_leave mlL_104 (ob_32 _) rfl rfl (by decide) (by decide) (Nat.le_of_ble_eq_true rfl) (by omega) (by omega) (fun r2 h2 q2 => ?_) (fun _ _ q => q.elim)
  obtain ⟨rfl, rr, p1, p2⟩ := q2
  refine v_icmp_eq 1120 dL_law_878 (by decide) (fun _ => ?_) (fun z => absurd rfl z)
  exact V.room (by omega) (by omega) (ih h2 rr)
set_option maxRecDepth 20000 in
theorem law_21 (g : G0) {t : Nat} {h : Hp} (r : RR h) (hin : 6 * t + 6 ≤ gL g) (hL : gL g ≤ 3072) (ih : ∀ h', RR h' → V g kfL_law 60 (potC h' + 47) (potS h' + 22232) 1120 (LL t) [] h' QL noE) : V g kfL_law 60 (potC h + 47) (potS h + 22232) 883 (LL t) [] h QL noE := by
  obtain ⟨mc, ms, mc', ms', b1, b2, o⟩ := Op.ex0 (op_roomOf g h r (q := (gX g (nI (6 * t) + 1).toNatClampNeg)) (k := (gX g (nI (6 * t) + 2).toNatClampNeg)))
  refine v_aload_n dL_law_883 rfl ?_
  refine v_aload_n dL_law_884 rfl ?_
  refine v_iload_n dL_law_885 rfl ?_
  refine v_iconst (1) dL_law_886 (by decide) ?_
  refine v_iadd dL_law_887 ?_
  refine v_scrAt dL_law_888 (scr_in hin hL 1 (by decide)) ?_
  refine v_aload_n dL_law_889 rfl ?_
  refine v_iload_n dL_law_890 rfl ?_
  refine v_iconst (2) dL_law_891 (by decide) ?_
  refine v_iadd dL_law_892 ?_
  refine v_scrAt dL_law_893 (scr_in hin hL 2 (by decide)) ?_
  refine v_invV (potC h + 47 - mc) (potS h + 22232 - ms) o dL_law_894 cwX11_roomOf mlL_105 (ob_0 _) rfl rfl (by decide) (by decide) (Nat.le_of_ble_eq_true rfl) (by omega) (by omega) (fun r1 h1 q1 => ?_) (fun _ _ q => q.elim)
  obtain ⟨v, rfl, hm⟩ := q1
  refine v_aload_n dL_law_897 rfl ?_
  refine v_aload_n dL_law_898 rfl ?_
  refine v_iload_n dL_law_899 rfl ?_
  refine v_iconst (1) dL_law_900 (by decide) ?_
  refine v_iadd dL_law_901 ?_
  refine v_scrAt dL_law_902 (scr_in hin hL 1 (by decide)) ?_
  refine v_aload_n dL_law_903 rfl ?_
  refine v_iload_n dL_law_904 rfl ?_
  refine v_iconst (2) dL_law_905 (by decide) ?_
  refine v_iadd dL_law_906 ?_
  refine v_scrAt dL_law_907 (scr_in hin hL 2 (by decide)) ?_
  refine v_invV (potC h + 47 - mc - mc') (potS h + 22232 - ms - ms') hm dL_law_908 cwX14_roomOf mlL_108 (ob_32 _) rfl rfl (by decide) (by decide) (Nat.le_of_ble_eq_true rfl) (by omega) (by omega) (fun r2 h2 q2 => ?_) (fun _ _ q => q.elim)
  obtain ⟨rfl, rr, p1, p2⟩ := q2
  refine v_icmp_eq 1120 dL_law_911 (by decide) (fun _ => ?_) (fun z => absurd rfl z)
  exact V.room (by omega) (by omega) (ih h2 rr)
set_option maxRecDepth 20000 in
theorem law_22 (g : G0) {t : Nat} {h : Hp} (r : RR h) (hin : 6 * t + 6 ≤ gL g) (hL : gL g ≤ 3072) (ih : ∀ h', RR h' → V g kfL_law 60 (potC h' + 47) (potS h' + 22232) 1120 (LL t) [] h' QL noE) : V g kfL_law 60 (potC h + 47) (potS h + 22232) 916 (LL t) [] h QL noE := by
  obtain ⟨mc, ms, mc', ms', b1, b2, o⟩ := Op.ex0 (op_had g h r (q := (gX g (nI (6 * t) + 1).toNatClampNeg)) (d := (gX g (nI (6 * t) + 2).toNatClampNeg)))
  refine v_aload_n dL_law_916 rfl ?_
  refine v_aload_n dL_law_917 rfl ?_
  refine v_iload_n dL_law_918 rfl ?_
  refine v_iconst (1) dL_law_919 (by decide) ?_
  refine v_iadd dL_law_920 ?_
  refine v_scrAt dL_law_921 (scr_in hin hL 1 (by decide)) ?_
  refine v_aload_n dL_law_922 rfl ?_
  refine v_iload_n dL_law_923 rfl ?_
  refine v_iconst (2) dL_law_924 (by decide) ?_
  refine v_iadd dL_law_925 ?_
  refine v_scrAt dL_law_926 (scr_in hin hL 2 (by decide)) ?_
  refine v_invV (potC h + 47 - mc) (potS h + 22232 - ms) o dL_law_927 cwX11_had mlL_109 (ob_0 _) rfl rfl (by decide) (by decide) (Nat.le_of_ble_eq_true rfl) (by omega) (by omega) (fun r1 h1 q1 => ?_) (fun _ _ q => q.elim)
  obtain ⟨v, rfl, hm⟩ := q1
  refine v_aload_n dL_law_930 rfl ?_
  refine v_aload_n dL_law_931 rfl ?_
  refine v_iload_n dL_law_932 rfl ?_
  refine v_iconst (1) dL_law_933 (by decide) ?_
  refine v_iadd dL_law_934 ?_
  refine v_scrAt dL_law_935 (scr_in hin hL 1 (by decide)) ?_
  refine v_aload_n dL_law_936 rfl ?_
  refine v_iload_n dL_law_937 rfl ?_
  refine v_iconst (2) dL_law_938 (by decide) ?_
  refine v_iadd dL_law_939 ?_
  refine v_scrAt dL_law_940 (scr_in hin hL 2 (by decide)) ?_
  refine v_invV (potC h + 47 - mc - mc') (potS h + 22232 - ms - ms') hm dL_law_941 cwX14_had mlL_112 (ob_32 _) rfl rfl (by decide) (by decide) (Nat.le_of_ble_eq_true rfl) (by omega) (by omega) (fun r2 h2 q2 => ?_) (fun _ _ q => q.elim)
  obtain ⟨rfl, rr, p1, p2⟩ := q2
  refine v_icmp_eq 1120 dL_law_944 (by decide) (fun _ => ?_) (fun z => absurd rfl z)
  exact V.room (by omega) (by omega) (ih h2 rr)
set_option maxRecDepth 20000 in
theorem law_23 (g : G0) {t : Nat} {h : Hp} (r : RR h) (hin : 6 * t + 6 ≤ gL g) (hL : gL g ≤ 3072) (ih : ∀ h', RR h' → V g kfL_law 60 (potC h' + 47) (potS h' + 22232) 1120 (LL t) [] h' QL noE) : V g kfL_law 60 (potC h + 47) (potS h + 22232) 949 (LL t) [] h QL noE := by
  obtain ⟨mc, ms, mc', ms', b1, b2, o⟩ := Op.ex2 (op_land g h r (u := (gX g (nI (6 * t) + 1).toNatClampNeg)) (v := (gX g (nI (6 * t) + 2).toNatClampNeg)) (w := (gX g (nI (6 * t) + 3).toNatClampNeg)))
  refine v_aload_n dL_law_949 rfl ?_
  refine v_aload_n dL_law_950 rfl ?_
  refine v_iload_n dL_law_951 rfl ?_
  refine v_iconst (1) dL_law_952 (by decide) ?_
  refine v_iadd dL_law_953 ?_
  refine v_scrAt dL_law_954 (scr_in hin hL 1 (by decide)) ?_
  refine v_aload_n dL_law_955 rfl ?_
  refine v_iload_n dL_law_956 rfl ?_
  refine v_iconst (2) dL_law_957 (by decide) ?_
  refine v_iadd dL_law_958 ?_
  refine v_scrAt dL_law_959 (scr_in hin hL 2 (by decide)) ?_
  refine v_aload_n dL_law_960 rfl ?_
  refine v_iload_n dL_law_961 rfl ?_
  refine v_iconst (3) dL_law_962 (by decide) ?_
  refine v_iadd dL_law_963 ?_
  refine v_scrAt dL_law_964 (scr_in hin hL 3 (by decide)) ?_
  refine v_invV (potC h + 47 - mc) (potS h + 22232 - ms) o dL_law_965 cwX11_land mlL_113 (ob_0 _) rfl rfl (by decide) (by decide) (Nat.le_of_ble_eq_true rfl) (by omega) (by omega) (fun r1 h1 q1 => ?_) (fun _ _ q => q.elim)
  obtain ⟨v, rfl, hm⟩ := q1
  refine v_aload_n dL_law_968 rfl ?_
  refine v_aload_n dL_law_969 rfl ?_
  refine v_iload_n dL_law_970 rfl ?_
  refine v_iconst (1) dL_law_971 (by decide) ?_
  refine v_iadd dL_law_972 ?_
  refine v_scrAt dL_law_973 (scr_in hin hL 1 (by decide)) ?_
  refine v_aload_n dL_law_974 rfl ?_
  refine v_iload_n dL_law_975 rfl ?_
  refine v_iconst (2) dL_law_976 (by decide) ?_
  refine v_iadd dL_law_977 ?_
  refine v_scrAt dL_law_978 (scr_in hin hL 2 (by decide)) ?_
  refine v_aload_n dL_law_979 rfl ?_
  refine v_iload_n dL_law_980 rfl ?_
  refine v_iconst (3) dL_law_981 (by decide) ?_
  refine v_iadd dL_law_982 ?_
  refine v_scrAt dL_law_983 (scr_in hin hL 3 (by decide)) ?_
  refine v_invV (potC h + 47 - mc - mc') (potS h + 22232 - ms - ms') hm dL_law_984 cwX14_land mlL_116 (ob_32 _) rfl rfl (by decide) (by decide) (Nat.le_of_ble_eq_true rfl) (by omega) (by omega) (fun r2 h2 q2 => ?_) (fun _ _ q => q.elim)
  obtain ⟨rfl, rr, p1, p2⟩ := q2
  refine v_icmp_eq 1120 dL_law_987 (by decide) (fun _ => ?_) (fun z => absurd rfl z)
  exact V.room (by omega) (by omega) (ih h2 rr)
set_option maxRecDepth 20000 in
theorem law_24 (g : G0) {t : Nat} {h : Hp} (r : RR h) (hin : 6 * t + 6 ≤ gL g) (hL : gL g ≤ 3072) (ih : ∀ h', RR h' → V g kfL_law 60 (potC h' + 47) (potS h' + 22232) 1120 (LL t) [] h' QL noE) : V g kfL_law 60 (potC h + 47) (potS h + 22232) 992 (LL t) [] h QL noE := by
  obtain ⟨mc, ms, mc', ms', b1, b2, o⟩ := Op.ex0 (op_dole g h r (v := (gX g (nI (6 * t) + 1).toNatClampNeg)))
  refine v_aload_n dL_law_992 rfl ?_
  refine v_aload_n dL_law_993 rfl ?_
  refine v_iload_n dL_law_994 rfl ?_
  refine v_iconst (1) dL_law_995 (by decide) ?_
  refine v_iadd dL_law_996 ?_
  refine v_scrAt dL_law_997 (scr_in hin hL 1 (by decide)) ?_
  refine v_invV (potC h + 47 - mc) (potS h + 22232 - ms) o dL_law_998 cwX11_dole mlL_117 (ob_0 _) rfl rfl (by decide) (by decide) (Nat.le_of_ble_eq_true rfl) (by omega) (by omega) (fun r1 h1 q1 => ?_) (fun _ _ q => q.elim)
  obtain ⟨v, rfl, hm⟩ := q1
  refine v_aload_n dL_law_1001 rfl ?_
  refine v_aload_n dL_law_1002 rfl ?_
  refine v_iload_n dL_law_1003 rfl ?_
  refine v_iconst (1) dL_law_1004 (by decide) ?_
  refine v_iadd dL_law_1005 ?_
  refine v_scrAt dL_law_1006 (scr_in hin hL 1 (by decide)) ?_
  refine v_invV (potC h + 47 - mc - mc') (potS h + 22232 - ms - ms') hm dL_law_1007 cwX14_dole mlL_120 (ob_32 _) rfl rfl (by decide) (by decide) (Nat.le_of_ble_eq_true rfl) (by omega) (by omega) (fun r2 h2 q2 => ?_) (fun _ _ q => q.elim)
  obtain ⟨rfl, rr, p1, p2⟩ := q2
  refine v_icmp_eq 1120 dL_law_1010 (by decide) (fun _ => ?_) (fun z => absurd rfl z)
  exact V.room (by omega) (by omega) (ih h2 rr)
set_option maxRecDepth 20000 in
theorem law_25 (g : G0) {t : Nat} {h : Hp} (r : RR h) (hin : 6 * t + 6 ≤ gL g) (hL : gL g ≤ 3072) (ih : ∀ h', RR h' → V g kfL_law 60 (potC h' + 47) (potS h' + 22232) 1120 (LL t) [] h' QL noE) : V g kfL_law 60 (potC h + 47) (potS h + 22232) 1015 (LL t) [] h QL noE := by
  obtain ⟨mc, ms, mc', ms', b1, b2, o⟩ := Op.ex0 (op_pass g h r (d := (gX g (nI (6 * t) + 1).toNatClampNeg)))
  refine v_aload_n dL_law_1015 rfl ?_
  refine v_aload_n dL_law_1016 rfl ?_
  refine v_iload_n dL_law_1017 rfl ?_
  refine v_iconst (1) dL_law_1018 (by decide) ?_
  refine v_iadd dL_law_1019 ?_
  refine v_scrAt dL_law_1020 (scr_in hin hL 1 (by decide)) ?_
  refine v_invV (potC h + 47 - mc) (potS h + 22232 - ms) o dL_law_1021 cwX11_pass mlL_121 (ob_0 _) rfl rfl (by decide) (by decide) (Nat.le_of_ble_eq_true rfl) (by omega) (by omega) (fun r1 h1 q1 => ?_) (fun _ _ q => q.elim)
  obtain ⟨v, rfl, hm⟩ := q1
  refine v_aload_n dL_law_1024 rfl ?_
  refine v_aload_n dL_law_1025 rfl ?_
  refine v_iload_n dL_law_1026 rfl ?_
  refine v_iconst (1) dL_law_1027 (by decide) ?_
  refine v_iadd dL_law_1028 ?_
  refine v_scrAt dL_law_1029 (scr_in hin hL 1 (by decide)) ?_
  refine v_invV (potC h + 47 - mc - mc') (potS h + 22232 - ms - ms') hm dL_law_1030 cwX14_pass mlL_124 (ob_32 _) rfl rfl (by decide) (by decide) (Nat.le_of_ble_eq_true rfl) (by omega) (by omega) (fun r2 h2 q2 => ?_) (fun _ _ q => q.elim)
  obtain ⟨rfl, rr, p1, p2⟩ := q2
  refine v_icmp_eq 1120 dL_law_1033 (by decide) (fun _ => ?_) (fun z => absurd rfl z)
  exact V.room (by omega) (by omega) (ih h2 rr)
set_option maxRecDepth 20000 in
theorem law_26 (g : G0) {t : Nat} {h : Hp} (r : RR h) (hin : 6 * t + 6 ≤ gL g) (hL : gL g ≤ 3072) (ih : ∀ h', RR h' → V g kfL_law 60 (potC h' + 47) (potS h' + 22232) 1120 (LL t) [] h' QL noE) : V g kfL_law 60 (potC h + 47) (potS h + 22232) 1038 (LL t) [] h QL noE := by
  obtain ⟨mc, ms, mc', ms', b1, b2, o⟩ := Op.ex0 (op_owed g h r (p := (gX g (nI (6 * t) + 1).toNatClampNeg)))
  refine v_aload_n dL_law_1038 rfl ?_
  refine v_aload_n dL_law_1039 rfl ?_
  refine v_iload_n dL_law_1040 rfl ?_
  refine v_iconst (1) dL_law_1041 (by decide) ?_
  refine v_iadd dL_law_1042 ?_
  refine v_scrAt dL_law_1043 (scr_in hin hL 1 (by decide)) ?_
  refine v_invV (potC h + 47 - mc) (potS h + 22232 - ms) o dL_law_1044 cwX11_owed mlL_125 (ob_0 _) rfl rfl (by decide) (by decide) (Nat.le_of_ble_eq_true rfl) (by omega) (by omega) (fun r1 h1 q1 => ?_) (fun _ _ q => q.elim)
  obtain ⟨v, rfl, hm⟩ := q1
  refine v_aload_n dL_law_1047 rfl ?_
  refine v_aload_n dL_law_1048 rfl ?_
  refine v_iload_n dL_law_1049 rfl ?_
  refine v_iconst (1) dL_law_1050 (by decide) ?_
  refine v_iadd dL_law_1051 ?_
  refine v_scrAt dL_law_1052 (scr_in hin hL 1 (by decide)) ?_
  refine v_invV (potC h + 47 - mc - mc') (potS h + 22232 - ms - ms') hm dL_law_1053 cwX14_owed mlL_128 (ob_32 _) rfl rfl (by decide) (by decide) (Nat.le_of_ble_eq_true rfl) (by omega) (by omega) (fun r2 h2 q2 => ?_) (fun _ _ q => q.elim)
  obtain ⟨rfl, rr, p1, p2⟩ := q2
  refine v_icmp_eq 1120 dL_law_1056 (by decide) (fun _ => ?_) (fun z => absurd rfl z)
  exact V.room (by omega) (by omega) (ih h2 rr)
set_option maxRecDepth 20000 in
theorem law_27 (g : G0) {t : Nat} {h : Hp} (r : RR h) (hin : 6 * t + 6 ≤ gL g) (hL : gL g ≤ 3072) (ih : ∀ h', RR h' → V g kfL_law 60 (potC h' + 47) (potS h' + 22232) 1120 (LL t) [] h' QL noE) : V g kfL_law 60 (potC h + 47) (potS h + 22232) 1061 (LL t) [] h QL noE := by
  obtain ⟨mc, ms, mc', ms', b1, b2, o⟩ := Op.ex0 (op_got g h r (p := (gX g (nI (6 * t) + 1).toNatClampNeg)))
  refine v_aload_n dL_law_1061 rfl ?_
  refine v_aload_n dL_law_1062 rfl ?_
  refine v_iload_n dL_law_1063 rfl ?_
  refine v_iconst (1) dL_law_1064 (by decide) ?_
  refine v_iadd dL_law_1065 ?_
  refine v_scrAt dL_law_1066 (scr_in hin hL 1 (by decide)) ?_
  refine v_invV (potC h + 47 - mc) (potS h + 22232 - ms) o dL_law_1067 cwX11_got mlL_129 (ob_0 _) rfl rfl (by decide) (by decide) (Nat.le_of_ble_eq_true rfl) (by omega) (by omega) (fun r1 h1 q1 => ?_) (fun _ _ q => q.elim)
  obtain ⟨v, rfl, hm⟩ := q1
  refine v_aload_n dL_law_1070 rfl ?_
  refine v_aload_n dL_law_1071 rfl ?_
  refine v_iload_n dL_law_1072 rfl ?_
  refine v_iconst (1) dL_law_1073 (by decide) ?_
  refine v_iadd dL_law_1074 ?_
  refine v_scrAt dL_law_1075 (scr_in hin hL 1 (by decide)) ?_
  refine v_invV (potC h + 47 - mc - mc') (potS h + 22232 - ms - ms') hm dL_law_1076 cwX14_got mlL_132 (ob_32 _) rfl rfl (by decide) (by decide) (Nat.le_of_ble_eq_true rfl) (by omega) (by omega) (fun r2 h2 q2 => ?_) (fun _ _ q => q.elim)
  obtain ⟨rfl, rr, p1, p2⟩ := q2
  refine v_icmp_eq 1120 dL_law_1079 (by decide) (fun _ => ?_) (fun z => absurd rfl z)
  exact V.room (by omega) (by omega) (ih h2 rr)
set_option maxRecDepth 20000 in
theorem law_28 (g : G0) {t : Nat} {h : Hp} (r : RR h) (hin : 6 * t + 6 ≤ gL g) (hL : gL g ≤ 3072) (ih : ∀ h', RR h' → V g kfL_law 60 (potC h' + 47) (potS h' + 22232) 1120 (LL t) [] h' QL noE) : V g kfL_law 60 (potC h + 47) (potS h + 22232) 1084 (LL t) [] h QL noE := by
  obtain ⟨mc, ms, mc', ms', b1, b2, o⟩ := Op.ex0 (op_count g h r (k := (gX g (nI (6 * t) + 1).toNatClampNeg)))
  refine v_aload_n dL_law_1084 rfl ?_
  refine v_aload_n dL_law_1085 rfl ?_
  refine v_iload_n dL_law_1086 rfl ?_
  refine v_iconst (1) dL_law_1087 (by decide) ?_
  refine v_iadd dL_law_1088 ?_
  refine v_scrAt dL_law_1089 (scr_in hin hL 1 (by decide)) ?_
  refine v_invV (potC h + 47 - mc) (potS h + 22232 - ms) o dL_law_1090 cwX11_count mlL_133 (ob_0 _) rfl rfl (by decide) (by decide) (Nat.le_of_ble_eq_true rfl) (by omega) (by omega) (fun r1 h1 q1 => ?_) (fun _ _ q => q.elim)
  obtain ⟨v, rfl, hm⟩ := q1
  refine v_aload_n dL_law_1093 rfl ?_
  refine v_aload_n dL_law_1094 rfl ?_
  refine v_iload_n dL_law_1095 rfl ?_
  refine v_iconst (1) dL_law_1096 (by decide) ?_
  refine v_iadd dL_law_1097 ?_
  refine v_scrAt dL_law_1098 (scr_in hin hL 1 (by decide)) ?_
  refine v_invV (potC h + 47 - mc - mc') (potS h + 22232 - ms - ms') hm dL_law_1099 cwX14_count mlL_136 (ob_32 _) rfl rfl (by decide) (by decide) (Nat.le_of_ble_eq_true rfl) (by omega) (by omega) (fun r2 h2 q2 => ?_) (fun _ _ q => q.elim)
  obtain ⟨rfl, rr, p1, p2⟩ := q2
  refine v_icmp_eq 1120 dL_law_1102 (by decide) (fun _ => ?_) (fun z => absurd rfl z)
  exact V.room (by omega) (by omega) (ih h2 rr)
set_option maxRecDepth 20000 in
theorem law_29 (g : G0) {t : Nat} {h : Hp} (r : RR h) (hin : 6 * t + 6 ≤ gL g) (hL : gL g ≤ 3072) (ih : ∀ h', RR h' → V g kfL_law 60 (potC h' + 47) (potS h' + 22232) 1120 (LL t) [] h' QL noE) : V g kfL_law 60 (potC h + 47) (potS h + 22232) 1107 (LL t) [] h QL noE := by
  obtain ⟨mc, ms, mc', ms', b1, b2, o⟩ := Op.ex0 (op_trouble g h r )
  refine v_aload_n dL_law_1107 rfl ?_
  refine v_invV (potC h + 47 - mc) (potS h + 22232 - ms) o dL_law_1108 cwX11_trouble mlL_137 (ob_0 _) rfl rfl (by decide) (by decide) (Nat.le_of_ble_eq_true rfl) (by omega) (by omega) (fun r1 h1 q1 => ?_) (fun _ _ q => q.elim)
  obtain ⟨v, rfl, hm⟩ := q1
  refine v_aload_n dL_law_1111 rfl ?_
  refine v_invV (potC h + 47 - mc - mc') (potS h + 22232 - ms - ms') hm dL_law_1112 cwX14_trouble mlL_140 (ob_32 _) rfl rfl (by decide) (by decide) (Nat.le_of_ble_eq_true rfl) (by omega) (by omega) (fun r2 h2 q2 => ?_) (fun _ _ q => q.elim)
  obtain ⟨rfl, rr, p1, p2⟩ := q2
  refine v_icmp_eq 1120 dL_law_1115 (by decide) (fun _ => ?_) (fun z => absurd rfl z)
  exact V.room (by omega) (by omega) (ih h2 rr)
