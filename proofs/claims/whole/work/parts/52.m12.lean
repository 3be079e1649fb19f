/-- a scheme of the reference and its rows -/
def SK (h : Hp) (k : Nat) : Prop := k < cn h 33 ∧ vr h (36, 0) k = some (33, k) ∧ (k < cn h 40 ∧ k < cn h 41 ∧ k < cn h 42 ∧ k < cn h 43 ∧ k < cn h 44 ∧ k < cn h 45 ∧ k < cn h 46 ∧ k < cn h 47 ∧ k < cn h 48 ∧ k < cn h 49) ∧ (vr h (33, k) 4 = some (40, k) ∧ vr h (33, k) 5 = some (41, k) ∧ vr h (33, k) 6 = some (42, k) ∧ vr h (33, k) 7 = some (43, k) ∧ vr h (33, k) 8 = some (44, k) ∧ vr h (33, k) 9 = some (45, k) ∧ vr h (33, k) 10 = some (46, k) ∧ vr h (33, k) 11 = some (47, k) ∧ vr h (33, k) 12 = some (48, k) ∧ vr h (33, k) 13 = some (49, k)) ∧ (ln h (40, k) = 12 ∧ ln h (41, k) = 12 ∧ ln h (42, k) = 12 ∧ ln h (43, k) = 12 ∧ ln h (44, k) = 12 ∧ ln h (45, k) = 130 ∧ ln h (46, k) = 130 ∧ ln h (47, k) = 130 ∧ ln h (48, k) = 48 ∧ ln h (49, k) = 48) ∧ ∃ c, c ≤ 12 ∧ vi h (33, k) 2 = nI c
/-- what finds sets -/
def ff (h : Hp) (s : Int32 × Int32) : Hp := sIs h (32, 0) (fun f => if f = 20 then s.1 else if f = 21 then s.2 else vi h (32, 0) f)
theorem ff_a (h : Hp) (s : Int32 × Int32) (x : Int32) : sI (ff h s) (32, 0) 20 x = ff h (x, s.2) := by
  refine Prod.ext rfl (Prod.ext rfl (Prod.ext ?_ rfl))
  funext b f
  show (if b = (32, 0) ∧ f = 20 then x else if b = (32, 0) then _ else vi h b f) = if b = (32, 0) then _ else vi h b f
  by_cases hb : b = (32, 0)
  · rw [if_pos hb, if_pos hb]
    by_cases hf : f = 20
    · rw [if_pos ⟨hb, hf⟩, if_pos hf]
    · rw [if_neg (fun z => hf z.2), if_neg hf, if_neg hf]
  · rw [if_neg (fun z => hb z.1), if_neg hb, if_neg hb]
theorem ff_b (h : Hp) (s : Int32 × Int32) (x : Int32) : sI (ff h s) (32, 0) 21 x = ff h (s.1, x) := by
  refine Prod.ext rfl (Prod.ext rfl (Prod.ext ?_ rfl))
  funext b f
  show (if b = (32, 0) ∧ f = 21 then x else if b = (32, 0) then _ else vi h b f) = if b = (32, 0) then _ else vi h b f
  by_cases hb : b = (32, 0)
  · rw [if_pos hb, if_pos hb]
    by_cases hf : f = 21
    · rw [if_pos ⟨hb, hf⟩, hf]; rfl
    · rw [if_neg (fun z => hf z.2), if_neg hf, if_neg hf]
  · rw [if_neg (fun z => hb z.1), if_neg hb, if_neg hb]
theorem ff_0 (h : Hp) (x : Int32) : sI h (32, 0) 20 x = ff h (x, vi h (32, 0) 21) := by
  refine Prod.ext rfl (Prod.ext rfl (Prod.ext ?_ rfl))
  funext b f
  show (if b = (32, 0) ∧ f = 20 then x else vi h b f) = if b = (32, 0) then _ else vi h b f
  by_cases hb : b = (32, 0)
  · rw [if_pos hb]
    by_cases hf : f = 20
    · rw [if_pos ⟨hb, hf⟩, if_pos hf]
    · rw [if_neg (fun z => hf z.2), if_neg hf, hb]
      by_cases hg : f = 21
      · rw [if_pos hg, hg]
      · rw [if_neg hg]
  · rw [if_neg (fun z => hb z.1), if_neg hb]
theorem ff_o (h : Hp) (s : Int32 × Int32) {b : Ad} (f : Nat) (hb : b ≠ (32, 0)) : vi (ff h s) b f = vi h b f := by
  show (if b = (32, 0) then _ else vi h b f) = vi h b f
  rw [if_neg hb]
theorem SMff {h : Hp} (m : SM h) (s : Int32 × Int32) : SM (ff h s) := m
