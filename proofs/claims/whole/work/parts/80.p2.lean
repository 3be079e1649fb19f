/-! tokens: alike bytes give alike tokens -/
theorem skp_c {b b' : Nat → Int32} {e : Nat} (hb : ∀ i, i < e → b i = b' i) : ∀ (j q : Nat), q + j ≤ e → skp b j q = skp b' j q
  | 0, _, _ => rfl
  | j + 1, q, h => by rw [skp, skp, hb q (by omega), skp_c hb j (q + 1) (by omega)]
theorem spn_c {b b' : Nat → Int32} {e : Nat} (hb : ∀ i, i < e → b i = b' i) : ∀ (j q : Nat), q + j ≤ e → spn b j q = spn b' j q
  | 0, _, _ => rfl
  | j + 1, q, h => by rw [spn, spn, hb q (by omega), spn_c hb j (q + 1) (by omega)]
theorem tnA_c {b b' : Nat → Int32} {e : Nat} (hb : ∀ i, i < e → b i = b' i) : ∀ (j q : Nat) (v : Int32), q + j ≤ e → tnA b j q v = tnA b' j q v
  | 0, _, _, _ => rfl
  | j + 1, q, v, h => by rw [tnA, tnA, hb q (by omega), tnA_c hb j (q + 1) _ (by omega)]
theorem spT_c {b b' : Nat → Int32} {e s j : Nat} (hb : ∀ i, i < e → b i = b' i) : ∀ (n i : Nat), s + i + n ≤ e → spT b s j n i = spT b' s j n i
  | 0, _, _ => rfl
  | n + 1, i, h => by rw [spT, spT, hb (s + i) (by omega), spT_c hb n (i + 1) (by omega)]
theorem len6 (j : Nat) : lenS.getD j 0 ≤ 6 := by
  by_cases h : j < 11
  · have key : ∀ k : Fin 11, lenS.getD k.val 0 ≤ 6 := by decide
    exact key ⟨j, h⟩
  · rw [List.getD_eq_getElem?_getD, List.getElem?_eq_none (by show 11 ≤ j; omega)]; exact Nat.zero_le _
theorem spl_c {b b' : Nat → Int32} {e s w : Nat} (hb : ∀ i, i < e → b i = b' i) (hw : s + w ≤ e) (he : e ≤ 300) (j : Nat) : spl b s w j = spl b' s w j := by
  have l6 := len6 j
  unfold spl
  by_cases c : nI w = nI (lenS.getD j 0)
  · have := (nI_eq (by omega) (by omega)).mp c
    rw [if_pos c, if_pos c, spT_c hb _ 0 (by omega)]
  · rw [if_neg c, if_neg c]
theorem tokW_c {b b' : Nat → Int32} {e s t : Nat} (hb : ∀ i, i < e → b i = b' i) (hs : s ≤ t) (ht : t ≤ e) (he : e ≤ 300) (v : Int32) : tokW b s t v = tokW b' s t v := by
  have k := fun j => spl_c (b := b) (b' := b') hb (s := s) (w := t - s) (by omega) he j
  unfold tokW kwK kwN
  simp only [k]
theorem tok_c {b b' : Nat → Int32} {e q : Nat} (hb : ∀ i, i < e → b i = b' i) (he : e ≤ 300) (hq : q ≤ e) : tok b e q = tok b' e q := by
  have hs := skp_le b (e - q) q
  unfold tok
  rw [← skp_c hb (e - q) q (by omega)]
  generalize skp b (e - q) q = s at hs
  unfold tokS
  by_cases c : nI s < nI e
  · have sl : s < e := (nI_ltI (by omega) (by omega)).mp c
    have hp := spn_le b (e - s) s
    rw [if_pos c, if_pos c, hb s sl, tnA_c hb (e - s) s 0 (by omega), ← spn_c hb (e - s) s (by omega), tokW_c hb hp.1 (by omega) he]
  · rw [if_neg c, if_neg c]
/-! the reference's counts beside the class's -/
theorem wdL_1 (b : Nat → Int32) : ∀ (j q c : Nat) (w : Int64), (wdL b j q c w).1 = spn b j q
  | 0, _, _, _ => rfl
  | j + 1, q, c, w => by
    rw [wdL, spn]
    split
    · rfl
    · exact wdL_1 b j (q + 1) (c + 1) _
theorem wdL_2 (b : Nat → Int32) : ∀ (j q c : Nat) (w : Int64), (wdL b j q c w).2.1 + q = c + spn b j q
  | 0, _, _, _ => rfl
  | j + 1, q, c, w => by
    rw [wdL, spn]
    split
    · rfl
    · have := wdL_2 b j (q + 1) (c + 1) (if 8 ≤ nI c then w else 32 * w + (b q - 97 + 1).toInt64)
      omega
def wO (b : Nat → Int32) : Nat → Nat → Int64 → Int64
  | 0, _, w => w
  | n + 1, q, w => wO b n (q + 1) (32 * w + (b q - 97 + 1).toInt64)
theorem wdL_3 (b : Nat → Int32) : ∀ (j q c : Nat) (w : Int64), c + (spn b j q - q) ≤ 8 → (wdL b j q c w).2.2 = wO b (spn b j q - q) q w
  | 0, q, _, _, _ => by rw [wdL, spn, Nat.sub_self]; rfl
  | j + 1, q, c, w, h => by
    rw [spn] at h
    rw [wdL, spn]
    split
    · rw [Nat.sub_self]; rfl
    · rename_i z
      rw [if_neg z] at h
      have hp := spn_le b j (q + 1)
      rw [if_neg (show ¬ (8 : Int32) ≤ nI c from nI_ge (a := c) (b := 8) (by omega) (by decide)), wdL_3 b j (q + 1) (c + 1) _ (by omega), show spn b j (q + 1) - q = (spn b j (q + 1) - (q + 1)) + 1 by omega, wO]
theorem spn_let (b : Nat → Int32) : ∀ (j q i : Nat), q ≤ i → i < spn b j q → ¬ xLet (b i) = 0
  | 0, q, i, h1, h2 => by rw [spn] at h2; omega
  | j + 1, q, i, h1, h2 => by
    rw [spn] at h2
    split at h2
    · omega
    · rename_i z
      by_cases e : i = q
      · rw [e]; exact z
      · exact spn_let b j (q + 1) i (by omega) h2
theorem nmL_1 (b : Nat → Int32) : ∀ (j q c : Nat) (v v' : Int32), (nmL b j q c v).1 = (tnA b j q v').1
  | 0, _, _, _, _ => rfl
  | j + 1, q, c, v, v' => by
    rw [nmL, tnA]
    split
    · rfl
    · exact nmL_1 b j (q + 1) (c + 1) _ _
theorem nmL_2 (b : Nat → Int32) : ∀ (j q c : Nat) (v v' : Int32), (nmL b j q c v).2.1 + q = c + (tnA b j q v').1
  | 0, _, _, _, _ => rfl
  | j + 1, q, c, v, v' => by
    rw [nmL, tnA]
    split
    · rfl
    · have := nmL_2 b j (q + 1) (c + 1) (if 4 ≤ nI c then v else 10 * v + b q - 48) (v' * 10 + b q - 48)
      omega
theorem nmL_3 (b : Nat → Int32) : ∀ (j q c : Nat) (v : Int32), c + ((tnA b j q v).1 - q) ≤ 4 → (nmL b j q c v).2.2 = (tnA b j q v).2
  | 0, _, _, _, _ => rfl
  | j + 1, q, c, v, h => by
    rw [tnA] at h
    rw [nmL, tnA]
    split
    · rfl
    · rename_i z
      rw [if_neg z] at h
      have hp := tnA_le b j (q + 1) (v * 10 + b q - 48)
      rw [if_neg (show ¬ (4 : Int32) ≤ nI c from nI_ge (a := c) (b := 4) (by omega) (by decide)), show 10 * v = v * 10 from Int32.mul_comm 10 v, nmL_3 b j (q + 1) (c + 1) _ (by omega)]
/-! words as numbers -/
def nO (d : Nat → Nat) : Nat → Nat → Nat → Nat
  | 0, _, a => a
  | n + 1, q, a => nO d n (q + 1) (32 * a + d q)
theorem nO_r (d : Nat → Nat) : ∀ (n q a : Nat), nO d (n + 1) q a = 32 * nO d n q a + d (q + n)
  | 0, q, a => rfl
  | n + 1, q, a => by
    rw [nO, nO_r d n (q + 1) (32 * a + d q), show q + 1 + n = q + (n + 1) by omega]; rfl
theorem nO_inj (d d' : Nat → Nat) : ∀ (n n' q q' : Nat), (∀ i, i < n → 1 ≤ d (q + i) ∧ d (q + i) < 32) → (∀ i, i < n' → 1 ≤ d' (q' + i) ∧ d' (q' + i) < 32) → nO d n q 0 = nO d' n' q' 0 → n = n' ∧ ∀ i, i < n → d (q + i) = d' (q' + i)
  | 0, 0, _, _, _, _, _ => ⟨rfl, fun i hi => by omega⟩
  | 0, n' + 1, q, q', _, h', e => by
    rw [nO_r] at e
    have := h' n' (by omega)
    have e0 : nO d 0 q 0 = 0 := rfl
    omega
  | n + 1, 0, q, q', h, _, e => by
    rw [nO_r] at e
    have := h n (by omega)
    have e0 : nO d' 0 q' 0 = 0 := rfl
    omega
  | n + 1, n' + 1, q, q', h, h', e => by
    rw [nO_r, nO_r] at e
    have a := h n (by omega)
    have a' := h' n' (by omega)
    have e1 : d (q + n) = d' (q' + n') := by omega
    have e2 : nO d n q 0 = nO d' n' q' 0 := by omega
    obtain ⟨k1, k2⟩ := nO_inj d d' n n' q q' (fun i hi => h i (by omega)) (fun i hi => h' i (by omega)) e2
    subst k1
    refine ⟨rfl, fun i hi => ?_⟩
    by_cases z : i = n
    · rw [z]; exact e1
    · exact k2 i (by omega)
theorem nO_lt (d : Nat → Nat) : ∀ (n q : Nat), (∀ i, i < n → d (q + i) < 32) → nO d n q 0 < 32 ^ n
  | 0, _, _ => by show 0 < 32 ^ 0; decide
  | n + 1, q, h => by
    rw [nO_r, Nat.pow_succ]
    have a := nO_lt d n q (fun i hi => h i (by omega))
    have b := h n (by omega)
    omega
