def scI (h : Hp) (e n : Nat) : Hp := iSch40_9 (nw (scA h e) 33 0) n
def scN (h : Hp) (e n : Nat) : Hp := sR (scI h e n) (36, 0) n (some (33, n))
theorem scI_v (h : Hp) (e n : Nat) {q : Nat} (hq : q < 33 ∨ 33 < q ∧ q < 40 ∨ 50 ≤ q) (i f : Nat) : vi (scI h e n) (q, i) f = vi (scA h e) (q, i) f := by
  unfold scI
  rw [iS_v _ _ (by omega), vi_nw, if_neg (fun z => by have := congrArg Prod.fst z; have : q = 33 := this; omega)]
theorem scN_v (h : Hp) (e n : Nat) {q : Nat} (hq : q < 33 ∨ 33 < q ∧ q < 40 ∨ 50 ≤ q) (i f : Nat) : vi (scN h e n) (q, i) f = vi (scA h e) (q, i) f := by
  unfold scN
  rw [vi_sR]; exact scI_v h e n hq i f
theorem scI_SM {h : Hp} (m : SM h) (e n : Nat) : SM (scI h e n) := iS_SM (SM_n33 (show SM (scA h e) from m)) n
theorem scN_SM {h : Hp} (m : SM h) (e n : Nat) : SM (scN h e n) := SM.sR (scI_SM m e n) (fun q hq z => (by decide : ∀ q ∈ mR, q.1.1.1 ≠ 36) q hq (congrArg (fun x => x.1.1) z))
theorem scA_c (h : Hp) (e p : Nat) : cn (scA h e) p = cn h p := rfl
theorem sX_c {h : Hp} {e : Nat} {p : Nat} (hp : p ≠ 33) : cn (nw (scA h e) 33 0) p = cn h p := by rw [cn_nw, if_neg hp, scA_c]
theorem scN_33 (h : Hp) (e n : Nat) : cn (scN h e n) 33 = cn h 33 + 1 := by
  unfold scN scI
  rw [cn_sR, iS_c _ _ (by decide), cn_nw, if_pos rfl, scA_c]
theorem scN_SK {h : Hp} {e n : Nat} (c33 : cn h 33 = n) (c40 : ∀ i, 40 ≤ i → i < 50 → cn h i = n) : SK (scN h e n) n := by
  have q40 : cn (nw (scA h e) 33 0) 40 = n := (sX_c (by decide)).trans (c40 40 (by decide) (by decide))
  have a40 : n < cn (scN h e n) 40 := by unfold scN scI; rw [cn_sR, iS_c40, q40]; exact Nat.lt_succ_self n
  have b40 : vr (scN h e n) (33, n) 4 = some (40, n) := by unfold scN scI; rw [vr_sR, if_neg (fun z => (by cases z.1)), iS_r40, q40]
  have l40 : ln (scN h e n) (40, n) = 12 := by have z := iS_l40 (nw (scA h e) 33 0) n; rw [q40] at z; unfold scN scI; rw [ln_sR]; exact z
  have q41 : cn (nw (scA h e) 33 0) 41 = n := (sX_c (by decide)).trans (c40 41 (by decide) (by decide))
  have a41 : n < cn (scN h e n) 41 := by unfold scN scI; rw [cn_sR, iS_c41, q41]; exact Nat.lt_succ_self n
  have b41 : vr (scN h e n) (33, n) 5 = some (41, n) := by unfold scN scI; rw [vr_sR, if_neg (fun z => (by cases z.1)), iS_r41, q41]
  have l41 : ln (scN h e n) (41, n) = 12 := by have z := iS_l41 (nw (scA h e) 33 0) n; rw [q41] at z; unfold scN scI; rw [ln_sR]; exact z
  have q42 : cn (nw (scA h e) 33 0) 42 = n := (sX_c (by decide)).trans (c40 42 (by decide) (by decide))
  have a42 : n < cn (scN h e n) 42 := by unfold scN scI; rw [cn_sR, iS_c42, q42]; exact Nat.lt_succ_self n
  have b42 : vr (scN h e n) (33, n) 6 = some (42, n) := by unfold scN scI; rw [vr_sR, if_neg (fun z => (by cases z.1)), iS_r42, q42]
  have l42 : ln (scN h e n) (42, n) = 12 := by have z := iS_l42 (nw (scA h e) 33 0) n; rw [q42] at z; unfold scN scI; rw [ln_sR]; exact z
  have q43 : cn (nw (scA h e) 33 0) 43 = n := (sX_c (by decide)).trans (c40 43 (by decide) (by decide))
  have a43 : n < cn (scN h e n) 43 := by unfold scN scI; rw [cn_sR, iS_c43, q43]; exact Nat.lt_succ_self n
  have b43 : vr (scN h e n) (33, n) 7 = some (43, n) := by unfold scN scI; rw [vr_sR, if_neg (fun z => (by cases z.1)), iS_r43, q43]
  have l43 : ln (scN h e n) (43, n) = 12 := by have z := iS_l43 (nw (scA h e) 33 0) n; rw [q43] at z; unfold scN scI; rw [ln_sR]; exact z
  have q44 : cn (nw (scA h e) 33 0) 44 = n := (sX_c (by decide)).trans (c40 44 (by decide) (by decide))
  have a44 : n < cn (scN h e n) 44 := by unfold scN scI; rw [cn_sR, iS_c44, q44]; exact Nat.lt_succ_self n
  have b44 : vr (scN h e n) (33, n) 8 = some (44, n) := by unfold scN scI; rw [vr_sR, if_neg (fun z => (by cases z.1)), iS_r44, q44]
  have l44 : ln (scN h e n) (44, n) = 12 := by have z := iS_l44 (nw (scA h e) 33 0) n; rw [q44] at z; unfold scN scI; rw [ln_sR]; exact z
  have q45 : cn (nw (scA h e) 33 0) 45 = n := (sX_c (by decide)).trans (c40 45 (by decide) (by decide))
  have a45 : n < cn (scN h e n) 45 := by unfold scN scI; rw [cn_sR, iS_c45, q45]; exact Nat.lt_succ_self n
  have b45 : vr (scN h e n) (33, n) 9 = some (45, n) := by unfold scN scI; rw [vr_sR, if_neg (fun z => (by cases z.1)), iS_r45, q45]
  have l45 : ln (scN h e n) (45, n) = 130 := by have z := iS_l45 (nw (scA h e) 33 0) n; rw [q45] at z; unfold scN scI; rw [ln_sR]; exact z
  have q46 : cn (nw (scA h e) 33 0) 46 = n := (sX_c (by decide)).trans (c40 46 (by decide) (by decide))
  have a46 : n < cn (scN h e n) 46 := by unfold scN scI; rw [cn_sR, iS_c46, q46]; exact Nat.lt_succ_self n
  have b46 : vr (scN h e n) (33, n) 10 = some (46, n) := by unfold scN scI; rw [vr_sR, if_neg (fun z => (by cases z.1)), iS_r46, q46]
  have l46 : ln (scN h e n) (46, n) = 130 := by have z := iS_l46 (nw (scA h e) 33 0) n; rw [q46] at z; unfold scN scI; rw [ln_sR]; exact z
  have q47 : cn (nw (scA h e) 33 0) 47 = n := (sX_c (by decide)).trans (c40 47 (by decide) (by decide))
  have a47 : n < cn (scN h e n) 47 := by unfold scN scI; rw [cn_sR, iS_c47, q47]; exact Nat.lt_succ_self n
  have b47 : vr (scN h e n) (33, n) 11 = some (47, n) := by unfold scN scI; rw [vr_sR, if_neg (fun z => (by cases z.1)), iS_r47, q47]
  have l47 : ln (scN h e n) (47, n) = 130 := by have z := iS_l47 (nw (scA h e) 33 0) n; rw [q47] at z; unfold scN scI; rw [ln_sR]; exact z
  have q48 : cn (nw (scA h e) 33 0) 48 = n := (sX_c (by decide)).trans (c40 48 (by decide) (by decide))
  have a48 : n < cn (scN h e n) 48 := by unfold scN scI; rw [cn_sR, iS_c48, q48]; exact Nat.lt_succ_self n
  have b48 : vr (scN h e n) (33, n) 12 = some (48, n) := by unfold scN scI; rw [vr_sR, if_neg (fun z => (by cases z.1)), iS_r48, q48]
  have l48 : ln (scN h e n) (48, n) = 48 := by have z := iS_l48 (nw (scA h e) 33 0) n; rw [q48] at z; unfold scN scI; rw [ln_sR]; exact z
  have q49 : cn (nw (scA h e) 33 0) 49 = n := (sX_c (by decide)).trans (c40 49 (by decide) (by decide))
  have a49 : n < cn (scN h e n) 49 := by unfold scN scI; rw [cn_sR, iS_c49, q49]; exact Nat.lt_succ_self n
  have b49 : vr (scN h e n) (33, n) 13 = some (49, n) := by unfold scN scI; rw [vr_sR, if_neg (fun z => (by cases z.1)), iS_r49, q49]
  have l49 : ln (scN h e n) (49, n) = 48 := by have z := iS_l49 (nw (scA h e) 33 0) n; rw [q49] at z; unfold scN scI; rw [ln_sR]; exact z
  refine ⟨by rw [scN_33, c33]; exact Nat.lt_succ_self n, by unfold scN; rw [vr_sR, if_pos ⟨rfl, rfl⟩], ⟨a40, a41, a42, a43, a44, a45, a46, a47, a48, a49⟩, ⟨b40, b41, b42, b43, b44, b45, b46, b47, b48, b49⟩, ⟨l40, l41, l42, l43, l44, l45, l46, l47, l48, l49⟩, 0, by decide, ?_⟩
  unfold scN scI; rw [vi_sR, iS_v _ _ (by decide), vi_nw, if_pos (by rw [scA_c, c33])]; rfl
