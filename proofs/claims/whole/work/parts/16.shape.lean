def xC : List (Nat × Nat) := [(0, 1), (1, 1), (2, 1), (3, 1), (4, 1), (5, 1), (6, 1), (7, 5), (13, 6), (14, 1), (15, 1)]
def xLn : List (Ad × Nat) := [((13, 0), 300), ((13, 1), 300), ((13, 2), 300), ((13, 3), 12), ((13, 4), 12), ((13, 5), 12), ((14, 0), 8), ((15, 0), 13)]
def xR : List ((Ad × Nat) × Ad) := [(((0, 0), 0), (1, 0)), (((0, 0), 1), (2, 0)), (((0, 0), 2), (7, 0)), (((0, 0), 3), (4, 0)), (((0, 0), 4), (7, 1)), (((0, 0), 5), (7, 2)), (((0, 0), 6), (7, 3)), (((0, 0), 7), (5, 0)), (((0, 0), 8), (7, 4)), (((0, 0), 9), (6, 0)), (((1, 0), 0), (13, 0)), (((2, 0), 0), (1, 0)), (((2, 0), 1), (3, 0)), (((2, 0), 2), (13, 3)), (((2, 0), 3), (13, 4)), (((2, 0), 4), (13, 5)), (((3, 0), 0), (13, 1)), (((3, 0), 1), (13, 2)), (((4, 0), 0), (15, 0)), (((5, 0), 0), (14, 0))]
def SX (h : Hp) : Prop := (∀ q ∈ xC, cn h q.1 = q.2) ∧ (∀ q ∈ xLn, ln h q.1 = q.2) ∧ ∀ q ∈ xR, vr h q.1.1 q.1.2 = some q.2
theorem xc_0 {h : Hp} (s : SX h) : cn h 0 = 1 := s.1 (0, 1) (by decide)
theorem xh_0_0 {h : Hp} (s : SX h) : 0 < cn h 0 := by rw [xc_0 s]; decide
theorem xc_1 {h : Hp} (s : SX h) : cn h 1 = 1 := s.1 (1, 1) (by decide)
theorem xh_1_0 {h : Hp} (s : SX h) : 0 < cn h 1 := by rw [xc_1 s]; decide
theorem xc_2 {h : Hp} (s : SX h) : cn h 2 = 1 := s.1 (2, 1) (by decide)
theorem xh_2_0 {h : Hp} (s : SX h) : 0 < cn h 2 := by rw [xc_2 s]; decide
theorem xc_3 {h : Hp} (s : SX h) : cn h 3 = 1 := s.1 (3, 1) (by decide)
theorem xh_3_0 {h : Hp} (s : SX h) : 0 < cn h 3 := by rw [xc_3 s]; decide
theorem xc_4 {h : Hp} (s : SX h) : cn h 4 = 1 := s.1 (4, 1) (by decide)
theorem xh_4_0 {h : Hp} (s : SX h) : 0 < cn h 4 := by rw [xc_4 s]; decide
theorem xc_5 {h : Hp} (s : SX h) : cn h 5 = 1 := s.1 (5, 1) (by decide)
theorem xh_5_0 {h : Hp} (s : SX h) : 0 < cn h 5 := by rw [xc_5 s]; decide
theorem xc_6 {h : Hp} (s : SX h) : cn h 6 = 1 := s.1 (6, 1) (by decide)
theorem xh_6_0 {h : Hp} (s : SX h) : 0 < cn h 6 := by rw [xc_6 s]; decide
theorem xc_7 {h : Hp} (s : SX h) : cn h 7 = 5 := s.1 (7, 5) (by decide)
theorem xh_7_0 {h : Hp} (s : SX h) : 0 < cn h 7 := by rw [xc_7 s]; decide
theorem xh_7_1 {h : Hp} (s : SX h) : 1 < cn h 7 := by rw [xc_7 s]; decide
theorem xh_7_2 {h : Hp} (s : SX h) : 2 < cn h 7 := by rw [xc_7 s]; decide
theorem xh_7_3 {h : Hp} (s : SX h) : 3 < cn h 7 := by rw [xc_7 s]; decide
theorem xh_7_4 {h : Hp} (s : SX h) : 4 < cn h 7 := by rw [xc_7 s]; decide
theorem xc_13 {h : Hp} (s : SX h) : cn h 13 = 6 := s.1 (13, 6) (by decide)
theorem xh_13_0 {h : Hp} (s : SX h) : 0 < cn h 13 := by rw [xc_13 s]; decide
theorem xh_13_1 {h : Hp} (s : SX h) : 1 < cn h 13 := by rw [xc_13 s]; decide
theorem xh_13_2 {h : Hp} (s : SX h) : 2 < cn h 13 := by rw [xc_13 s]; decide
theorem xh_13_3 {h : Hp} (s : SX h) : 3 < cn h 13 := by rw [xc_13 s]; decide
theorem xh_13_4 {h : Hp} (s : SX h) : 4 < cn h 13 := by rw [xc_13 s]; decide
theorem xh_13_5 {h : Hp} (s : SX h) : 5 < cn h 13 := by rw [xc_13 s]; decide
theorem xc_14 {h : Hp} (s : SX h) : cn h 14 = 1 := s.1 (14, 1) (by decide)
theorem xh_14_0 {h : Hp} (s : SX h) : 0 < cn h 14 := by rw [xc_14 s]; decide
theorem xc_15 {h : Hp} (s : SX h) : cn h 15 = 1 := s.1 (15, 1) (by decide)
theorem xh_15_0 {h : Hp} (s : SX h) : 0 < cn h 15 := by rw [xc_15 s]; decide
theorem xl_13_0 {h : Hp} (s : SX h) : ln h (13, 0) = 300 := s.2.1 ((13, 0), 300) (by decide)
theorem xl_13_1 {h : Hp} (s : SX h) : ln h (13, 1) = 300 := s.2.1 ((13, 1), 300) (by decide)
theorem xl_13_2 {h : Hp} (s : SX h) : ln h (13, 2) = 300 := s.2.1 ((13, 2), 300) (by decide)
theorem xl_13_3 {h : Hp} (s : SX h) : ln h (13, 3) = 12 := s.2.1 ((13, 3), 12) (by decide)
theorem xl_13_4 {h : Hp} (s : SX h) : ln h (13, 4) = 12 := s.2.1 ((13, 4), 12) (by decide)
theorem xl_13_5 {h : Hp} (s : SX h) : ln h (13, 5) = 12 := s.2.1 ((13, 5), 12) (by decide)
theorem xl_14_0 {h : Hp} (s : SX h) : ln h (14, 0) = 8 := s.2.1 ((14, 0), 8) (by decide)
theorem xl_15_0 {h : Hp} (s : SX h) : ln h (15, 0) = 13 := s.2.1 ((15, 0), 13) (by decide)
theorem xr_0_0_0 {h : Hp} (s : SX h) : vr h (0, 0) 0 = some (1, 0) := s.2.2 (((0, 0), 0), (1, 0)) (by decide)
theorem xr_0_0_1 {h : Hp} (s : SX h) : vr h (0, 0) 1 = some (2, 0) := s.2.2 (((0, 0), 1), (2, 0)) (by decide)
theorem xr_0_0_2 {h : Hp} (s : SX h) : vr h (0, 0) 2 = some (7, 0) := s.2.2 (((0, 0), 2), (7, 0)) (by decide)
theorem xr_0_0_3 {h : Hp} (s : SX h) : vr h (0, 0) 3 = some (4, 0) := s.2.2 (((0, 0), 3), (4, 0)) (by decide)
theorem xr_0_0_4 {h : Hp} (s : SX h) : vr h (0, 0) 4 = some (7, 1) := s.2.2 (((0, 0), 4), (7, 1)) (by decide)
theorem xr_0_0_5 {h : Hp} (s : SX h) : vr h (0, 0) 5 = some (7, 2) := s.2.2 (((0, 0), 5), (7, 2)) (by decide)
theorem xr_0_0_6 {h : Hp} (s : SX h) : vr h (0, 0) 6 = some (7, 3) := s.2.2 (((0, 0), 6), (7, 3)) (by decide)
theorem xr_0_0_7 {h : Hp} (s : SX h) : vr h (0, 0) 7 = some (5, 0) := s.2.2 (((0, 0), 7), (5, 0)) (by decide)
theorem xr_0_0_8 {h : Hp} (s : SX h) : vr h (0, 0) 8 = some (7, 4) := s.2.2 (((0, 0), 8), (7, 4)) (by decide)
theorem xr_0_0_9 {h : Hp} (s : SX h) : vr h (0, 0) 9 = some (6, 0) := s.2.2 (((0, 0), 9), (6, 0)) (by decide)
theorem xr_1_0_0 {h : Hp} (s : SX h) : vr h (1, 0) 0 = some (13, 0) := s.2.2 (((1, 0), 0), (13, 0)) (by decide)
theorem xr_2_0_0 {h : Hp} (s : SX h) : vr h (2, 0) 0 = some (1, 0) := s.2.2 (((2, 0), 0), (1, 0)) (by decide)
theorem xr_2_0_1 {h : Hp} (s : SX h) : vr h (2, 0) 1 = some (3, 0) := s.2.2 (((2, 0), 1), (3, 0)) (by decide)
theorem xr_2_0_2 {h : Hp} (s : SX h) : vr h (2, 0) 2 = some (13, 3) := s.2.2 (((2, 0), 2), (13, 3)) (by decide)
theorem xr_2_0_3 {h : Hp} (s : SX h) : vr h (2, 0) 3 = some (13, 4) := s.2.2 (((2, 0), 3), (13, 4)) (by decide)
theorem xr_2_0_4 {h : Hp} (s : SX h) : vr h (2, 0) 4 = some (13, 5) := s.2.2 (((2, 0), 4), (13, 5)) (by decide)
theorem xr_3_0_0 {h : Hp} (s : SX h) : vr h (3, 0) 0 = some (13, 1) := s.2.2 (((3, 0), 0), (13, 1)) (by decide)
theorem xr_3_0_1 {h : Hp} (s : SX h) : vr h (3, 0) 1 = some (13, 2) := s.2.2 (((3, 0), 1), (13, 2)) (by decide)
theorem xr_4_0_0 {h : Hp} (s : SX h) : vr h (4, 0) 0 = some (15, 0) := s.2.2 (((4, 0), 0), (15, 0)) (by decide)
theorem xr_5_0_0 {h : Hp} (s : SX h) : vr h (5, 0) 0 = some (14, 0) := s.2.2 (((5, 0), 0), (14, 0)) (by decide)
theorem SX.sR {h : Hp} (s : SX h) {a : Ad} {k : Nat} {v : Option Ad} (hn : ∀ q ∈ xR, q.1 ≠ (a, k)) : SX (sR h a k v) := ⟨s.1, s.2.1, fun q hq => by rw [vr_sR, if_neg (fun z => hn q hq (Prod.ext z.1 z.2))]; exact s.2.2 q hq⟩
theorem SX.sRs {h : Hp} (s : SX h) {a : Ad} {f : Nat → Option Ad} (hn : ∀ q ∈ xR, q.1.1 ≠ a) : SX (sRs h a f) := ⟨s.1, s.2.1, fun q hq => by rw [vr_sRs, if_neg (hn q hq)]; exact s.2.2 q hq⟩
theorem SX.nw {h : Hp} (s : SX h) {p n : Nat} (h1 : ∀ q ∈ xC, q.1 ≠ p) (h2 : ∀ q ∈ xLn, q.1.1 ≠ p) (h3 : ∀ q ∈ xR, q.1.1.1 ≠ p) : SX (nw h p n) := ⟨fun q hq => by rw [cn_nw, if_neg (h1 q hq)]; exact s.1 q hq, fun q hq => by rw [ln_nw, if_neg (fun z => h2 q hq (congrArg Prod.fst z))]; exact s.2.1 q hq, fun q hq => by rw [vr_nw, if_neg (fun z => h3 q hq (congrArg Prod.fst z))]; exact s.2.2 q hq⟩
theorem SX.sI {h : Hp} (s : SX h) {a : Ad} {k : Nat} {x : Int32} : SX (sI h a k x) := s
theorem SX.sIs {h : Hp} (s : SX h) {a : Ad} {f : Nat → Int32} : SX (sIs h a f) := s
theorem SX.sL {h : Hp} (s : SX h) {a : Ad} {k : Nat} {x : Int64} : SX (sL h a k x) := s
def mC : List (Nat × Nat) := [(32, 1), (34, 1), (35, 1), (36, 1), (37, 1), (38, 20), (39, 3), (50, 1), (51, 1), (52, 1), (53, 1), (54, 1), (55, 1), (56, 1), (57, 1), (58, 1), (59, 1)]
def mLn : List (Ad × Nat) := [((36, 0), 40), ((37, 0), 300), ((38, 0), 40), ((38, 1), 40), ((38, 2), 40), ((38, 3), 40), ((38, 4), 40), ((38, 5), 40), ((38, 6), 40), ((38, 7), 40), ((38, 8), 240), ((38, 9), 240), ((38, 10), 20), ((38, 11), 20), ((38, 12), 20), ((38, 13), 100), ((38, 14), 100), ((38, 15), 100), ((38, 16), 100), ((38, 17), 10), ((38, 18), 10), ((38, 19), 10), ((39, 0), 40), ((39, 1), 130), ((39, 2), 8), ((50, 0), 12), ((51, 0), 12), ((52, 0), 12), ((53, 0), 12), ((54, 0), 12), ((55, 0), 130), ((56, 0), 130), ((57, 0), 130), ((58, 0), 48), ((59, 0), 48)]
def mR : List ((Ad × Nat) × Ad) := [(((32, 0), 6), (36, 0)), (((32, 0), 7), (34, 0)), (((32, 0), 8), (35, 0)), (((32, 0), 9), (37, 0)), (((32, 0), 24), (38, 0)), (((32, 0), 25), (38, 1)), (((32, 0), 26), (38, 2)), (((32, 0), 27), (38, 3)), (((32, 0), 28), (38, 4)), (((32, 0), 29), (38, 5)), (((32, 0), 30), (38, 6)), (((32, 0), 31), (38, 7)), (((32, 0), 32), (39, 0)), (((32, 0), 33), (38, 8)), (((32, 0), 34), (38, 9)), (((32, 0), 35), (39, 1)), (((32, 0), 40), (38, 10)), (((32, 0), 41), (38, 11)), (((32, 0), 42), (38, 12)), (((32, 0), 43), (38, 13)), (((32, 0), 44), (38, 14)), (((32, 0), 45), (38, 15)), (((32, 0), 46), (38, 16)), (((32, 0), 47), (39, 2)), (((32, 0), 52), (38, 17)), (((32, 0), 53), (38, 18)), (((32, 0), 54), (38, 19)), (((34, 0), 4), (50, 0)), (((34, 0), 5), (51, 0)), (((34, 0), 6), (52, 0)), (((34, 0), 7), (53, 0)), (((34, 0), 8), (54, 0)), (((34, 0), 9), (55, 0)), (((34, 0), 10), (56, 0)), (((34, 0), 11), (57, 0)), (((34, 0), 12), (58, 0)), (((34, 0), 13), (59, 0))]
def SM (h : Hp) : Prop := (∀ q ∈ mC, cn h q.1 = q.2) ∧ (∀ q ∈ mLn, ln h q.1 = q.2) ∧ ∀ q ∈ mR, vr h q.1.1 q.1.2 = some q.2
theorem mc_32 {h : Hp} (s : SM h) : cn h 32 = 1 := s.1 (32, 1) (by decide)
theorem mh_32_0 {h : Hp} (s : SM h) : 0 < cn h 32 := by rw [mc_32 s]; decide
theorem mc_34 {h : Hp} (s : SM h) : cn h 34 = 1 := s.1 (34, 1) (by decide)
theorem mh_34_0 {h : Hp} (s : SM h) : 0 < cn h 34 := by rw [mc_34 s]; decide
theorem mc_35 {h : Hp} (s : SM h) : cn h 35 = 1 := s.1 (35, 1) (by decide)
theorem mh_35_0 {h : Hp} (s : SM h) : 0 < cn h 35 := by rw [mc_35 s]; decide
theorem mc_36 {h : Hp} (s : SM h) : cn h 36 = 1 := s.1 (36, 1) (by decide)
theorem mh_36_0 {h : Hp} (s : SM h) : 0 < cn h 36 := by rw [mc_36 s]; decide
theorem mc_37 {h : Hp} (s : SM h) : cn h 37 = 1 := s.1 (37, 1) (by decide)
theorem mh_37_0 {h : Hp} (s : SM h) : 0 < cn h 37 := by rw [mc_37 s]; decide
theorem mc_38 {h : Hp} (s : SM h) : cn h 38 = 20 := s.1 (38, 20) (by decide)
theorem mh_38_0 {h : Hp} (s : SM h) : 0 < cn h 38 := by rw [mc_38 s]; decide
theorem mh_38_1 {h : Hp} (s : SM h) : 1 < cn h 38 := by rw [mc_38 s]; decide
theorem mh_38_2 {h : Hp} (s : SM h) : 2 < cn h 38 := by rw [mc_38 s]; decide
theorem mh_38_3 {h : Hp} (s : SM h) : 3 < cn h 38 := by rw [mc_38 s]; decide
theorem mh_38_4 {h : Hp} (s : SM h) : 4 < cn h 38 := by rw [mc_38 s]; decide
theorem mh_38_5 {h : Hp} (s : SM h) : 5 < cn h 38 := by rw [mc_38 s]; decide
theorem mh_38_6 {h : Hp} (s : SM h) : 6 < cn h 38 := by rw [mc_38 s]; decide
theorem mh_38_7 {h : Hp} (s : SM h) : 7 < cn h 38 := by rw [mc_38 s]; decide
theorem mh_38_8 {h : Hp} (s : SM h) : 8 < cn h 38 := by rw [mc_38 s]; decide
theorem mh_38_9 {h : Hp} (s : SM h) : 9 < cn h 38 := by rw [mc_38 s]; decide
theorem mh_38_10 {h : Hp} (s : SM h) : 10 < cn h 38 := by rw [mc_38 s]; decide
theorem mh_38_11 {h : Hp} (s : SM h) : 11 < cn h 38 := by rw [mc_38 s]; decide
theorem mh_38_12 {h : Hp} (s : SM h) : 12 < cn h 38 := by rw [mc_38 s]; decide
theorem mh_38_13 {h : Hp} (s : SM h) : 13 < cn h 38 := by rw [mc_38 s]; decide
theorem mh_38_14 {h : Hp} (s : SM h) : 14 < cn h 38 := by rw [mc_38 s]; decide
theorem mh_38_15 {h : Hp} (s : SM h) : 15 < cn h 38 := by rw [mc_38 s]; decide
theorem mh_38_16 {h : Hp} (s : SM h) : 16 < cn h 38 := by rw [mc_38 s]; decide
theorem mh_38_17 {h : Hp} (s : SM h) : 17 < cn h 38 := by rw [mc_38 s]; decide
theorem mh_38_18 {h : Hp} (s : SM h) : 18 < cn h 38 := by rw [mc_38 s]; decide
theorem mh_38_19 {h : Hp} (s : SM h) : 19 < cn h 38 := by rw [mc_38 s]; decide
theorem mc_39 {h : Hp} (s : SM h) : cn h 39 = 3 := s.1 (39, 3) (by decide)
theorem mh_39_0 {h : Hp} (s : SM h) : 0 < cn h 39 := by rw [mc_39 s]; decide
theorem mh_39_1 {h : Hp} (s : SM h) : 1 < cn h 39 := by rw [mc_39 s]; decide
theorem mh_39_2 {h : Hp} (s : SM h) : 2 < cn h 39 := by rw [mc_39 s]; decide
theorem mc_50 {h : Hp} (s : SM h) : cn h 50 = 1 := s.1 (50, 1) (by decide)
theorem mh_50_0 {h : Hp} (s : SM h) : 0 < cn h 50 := by rw [mc_50 s]; decide
theorem mc_51 {h : Hp} (s : SM h) : cn h 51 = 1 := s.1 (51, 1) (by decide)
theorem mh_51_0 {h : Hp} (s : SM h) : 0 < cn h 51 := by rw [mc_51 s]; decide
theorem mc_52 {h : Hp} (s : SM h) : cn h 52 = 1 := s.1 (52, 1) (by decide)
theorem mh_52_0 {h : Hp} (s : SM h) : 0 < cn h 52 := by rw [mc_52 s]; decide
theorem mc_53 {h : Hp} (s : SM h) : cn h 53 = 1 := s.1 (53, 1) (by decide)
theorem mh_53_0 {h : Hp} (s : SM h) : 0 < cn h 53 := by rw [mc_53 s]; decide
theorem mc_54 {h : Hp} (s : SM h) : cn h 54 = 1 := s.1 (54, 1) (by decide)
theorem mh_54_0 {h : Hp} (s : SM h) : 0 < cn h 54 := by rw [mc_54 s]; decide
theorem mc_55 {h : Hp} (s : SM h) : cn h 55 = 1 := s.1 (55, 1) (by decide)
theorem mh_55_0 {h : Hp} (s : SM h) : 0 < cn h 55 := by rw [mc_55 s]; decide
theorem mc_56 {h : Hp} (s : SM h) : cn h 56 = 1 := s.1 (56, 1) (by decide)
theorem mh_56_0 {h : Hp} (s : SM h) : 0 < cn h 56 := by rw [mc_56 s]; decide
theorem mc_57 {h : Hp} (s : SM h) : cn h 57 = 1 := s.1 (57, 1) (by decide)
theorem mh_57_0 {h : Hp} (s : SM h) : 0 < cn h 57 := by rw [mc_57 s]; decide
theorem mc_58 {h : Hp} (s : SM h) : cn h 58 = 1 := s.1 (58, 1) (by decide)
theorem mh_58_0 {h : Hp} (s : SM h) : 0 < cn h 58 := by rw [mc_58 s]; decide
theorem mc_59 {h : Hp} (s : SM h) : cn h 59 = 1 := s.1 (59, 1) (by decide)
theorem mh_59_0 {h : Hp} (s : SM h) : 0 < cn h 59 := by rw [mc_59 s]; decide
theorem ml_36_0 {h : Hp} (s : SM h) : ln h (36, 0) = 40 := s.2.1 ((36, 0), 40) (by decide)
theorem ml_37_0 {h : Hp} (s : SM h) : ln h (37, 0) = 300 := s.2.1 ((37, 0), 300) (by decide)
theorem ml_38_0 {h : Hp} (s : SM h) : ln h (38, 0) = 40 := s.2.1 ((38, 0), 40) (by decide)
theorem ml_38_1 {h : Hp} (s : SM h) : ln h (38, 1) = 40 := s.2.1 ((38, 1), 40) (by decide)
theorem ml_38_2 {h : Hp} (s : SM h) : ln h (38, 2) = 40 := s.2.1 ((38, 2), 40) (by decide)
theorem ml_38_3 {h : Hp} (s : SM h) : ln h (38, 3) = 40 := s.2.1 ((38, 3), 40) (by decide)
theorem ml_38_4 {h : Hp} (s : SM h) : ln h (38, 4) = 40 := s.2.1 ((38, 4), 40) (by decide)
theorem ml_38_5 {h : Hp} (s : SM h) : ln h (38, 5) = 40 := s.2.1 ((38, 5), 40) (by decide)
theorem ml_38_6 {h : Hp} (s : SM h) : ln h (38, 6) = 40 := s.2.1 ((38, 6), 40) (by decide)
theorem ml_38_7 {h : Hp} (s : SM h) : ln h (38, 7) = 40 := s.2.1 ((38, 7), 40) (by decide)
theorem ml_38_8 {h : Hp} (s : SM h) : ln h (38, 8) = 240 := s.2.1 ((38, 8), 240) (by decide)
theorem ml_38_9 {h : Hp} (s : SM h) : ln h (38, 9) = 240 := s.2.1 ((38, 9), 240) (by decide)
theorem ml_38_10 {h : Hp} (s : SM h) : ln h (38, 10) = 20 := s.2.1 ((38, 10), 20) (by decide)
theorem ml_38_11 {h : Hp} (s : SM h) : ln h (38, 11) = 20 := s.2.1 ((38, 11), 20) (by decide)
theorem ml_38_12 {h : Hp} (s : SM h) : ln h (38, 12) = 20 := s.2.1 ((38, 12), 20) (by decide)
theorem ml_38_13 {h : Hp} (s : SM h) : ln h (38, 13) = 100 := s.2.1 ((38, 13), 100) (by decide)
theorem ml_38_14 {h : Hp} (s : SM h) : ln h (38, 14) = 100 := s.2.1 ((38, 14), 100) (by decide)
theorem ml_38_15 {h : Hp} (s : SM h) : ln h (38, 15) = 100 := s.2.1 ((38, 15), 100) (by decide)
theorem ml_38_16 {h : Hp} (s : SM h) : ln h (38, 16) = 100 := s.2.1 ((38, 16), 100) (by decide)
theorem ml_38_17 {h : Hp} (s : SM h) : ln h (38, 17) = 10 := s.2.1 ((38, 17), 10) (by decide)
theorem ml_38_18 {h : Hp} (s : SM h) : ln h (38, 18) = 10 := s.2.1 ((38, 18), 10) (by decide)
theorem ml_38_19 {h : Hp} (s : SM h) : ln h (38, 19) = 10 := s.2.1 ((38, 19), 10) (by decide)
theorem ml_39_0 {h : Hp} (s : SM h) : ln h (39, 0) = 40 := s.2.1 ((39, 0), 40) (by decide)
theorem ml_39_1 {h : Hp} (s : SM h) : ln h (39, 1) = 130 := s.2.1 ((39, 1), 130) (by decide)
theorem ml_39_2 {h : Hp} (s : SM h) : ln h (39, 2) = 8 := s.2.1 ((39, 2), 8) (by decide)
theorem ml_50_0 {h : Hp} (s : SM h) : ln h (50, 0) = 12 := s.2.1 ((50, 0), 12) (by decide)
theorem ml_51_0 {h : Hp} (s : SM h) : ln h (51, 0) = 12 := s.2.1 ((51, 0), 12) (by decide)
theorem ml_52_0 {h : Hp} (s : SM h) : ln h (52, 0) = 12 := s.2.1 ((52, 0), 12) (by decide)
theorem ml_53_0 {h : Hp} (s : SM h) : ln h (53, 0) = 12 := s.2.1 ((53, 0), 12) (by decide)
theorem ml_54_0 {h : Hp} (s : SM h) : ln h (54, 0) = 12 := s.2.1 ((54, 0), 12) (by decide)
theorem ml_55_0 {h : Hp} (s : SM h) : ln h (55, 0) = 130 := s.2.1 ((55, 0), 130) (by decide)
theorem ml_56_0 {h : Hp} (s : SM h) : ln h (56, 0) = 130 := s.2.1 ((56, 0), 130) (by decide)
theorem ml_57_0 {h : Hp} (s : SM h) : ln h (57, 0) = 130 := s.2.1 ((57, 0), 130) (by decide)
theorem ml_58_0 {h : Hp} (s : SM h) : ln h (58, 0) = 48 := s.2.1 ((58, 0), 48) (by decide)
theorem ml_59_0 {h : Hp} (s : SM h) : ln h (59, 0) = 48 := s.2.1 ((59, 0), 48) (by decide)
theorem mr_32_0_6 {h : Hp} (s : SM h) : vr h (32, 0) 6 = some (36, 0) := s.2.2 (((32, 0), 6), (36, 0)) (by decide)
theorem mr_32_0_7 {h : Hp} (s : SM h) : vr h (32, 0) 7 = some (34, 0) := s.2.2 (((32, 0), 7), (34, 0)) (by decide)
theorem mr_32_0_8 {h : Hp} (s : SM h) : vr h (32, 0) 8 = some (35, 0) := s.2.2 (((32, 0), 8), (35, 0)) (by decide)
theorem mr_32_0_9 {h : Hp} (s : SM h) : vr h (32, 0) 9 = some (37, 0) := s.2.2 (((32, 0), 9), (37, 0)) (by decide)
theorem mr_32_0_24 {h : Hp} (s : SM h) : vr h (32, 0) 24 = some (38, 0) := s.2.2 (((32, 0), 24), (38, 0)) (by decide)
theorem mr_32_0_25 {h : Hp} (s : SM h) : vr h (32, 0) 25 = some (38, 1) := s.2.2 (((32, 0), 25), (38, 1)) (by decide)
theorem mr_32_0_26 {h : Hp} (s : SM h) : vr h (32, 0) 26 = some (38, 2) := s.2.2 (((32, 0), 26), (38, 2)) (by decide)
theorem mr_32_0_27 {h : Hp} (s : SM h) : vr h (32, 0) 27 = some (38, 3) := s.2.2 (((32, 0), 27), (38, 3)) (by decide)
theorem mr_32_0_28 {h : Hp} (s : SM h) : vr h (32, 0) 28 = some (38, 4) := s.2.2 (((32, 0), 28), (38, 4)) (by decide)
theorem mr_32_0_29 {h : Hp} (s : SM h) : vr h (32, 0) 29 = some (38, 5) := s.2.2 (((32, 0), 29), (38, 5)) (by decide)
theorem mr_32_0_30 {h : Hp} (s : SM h) : vr h (32, 0) 30 = some (38, 6) := s.2.2 (((32, 0), 30), (38, 6)) (by decide)
theorem mr_32_0_31 {h : Hp} (s : SM h) : vr h (32, 0) 31 = some (38, 7) := s.2.2 (((32, 0), 31), (38, 7)) (by decide)
theorem mr_32_0_32 {h : Hp} (s : SM h) : vr h (32, 0) 32 = some (39, 0) := s.2.2 (((32, 0), 32), (39, 0)) (by decide)
theorem mr_32_0_33 {h : Hp} (s : SM h) : vr h (32, 0) 33 = some (38, 8) := s.2.2 (((32, 0), 33), (38, 8)) (by decide)
theorem mr_32_0_34 {h : Hp} (s : SM h) : vr h (32, 0) 34 = some (38, 9) := s.2.2 (((32, 0), 34), (38, 9)) (by decide)
theorem mr_32_0_35 {h : Hp} (s : SM h) : vr h (32, 0) 35 = some (39, 1) := s.2.2 (((32, 0), 35), (39, 1)) (by decide)
theorem mr_32_0_40 {h : Hp} (s : SM h) : vr h (32, 0) 40 = some (38, 10) := s.2.2 (((32, 0), 40), (38, 10)) (by decide)
theorem mr_32_0_41 {h : Hp} (s : SM h) : vr h (32, 0) 41 = some (38, 11) := s.2.2 (((32, 0), 41), (38, 11)) (by decide)
theorem mr_32_0_42 {h : Hp} (s : SM h) : vr h (32, 0) 42 = some (38, 12) := s.2.2 (((32, 0), 42), (38, 12)) (by decide)
theorem mr_32_0_43 {h : Hp} (s : SM h) : vr h (32, 0) 43 = some (38, 13) := s.2.2 (((32, 0), 43), (38, 13)) (by decide)
theorem mr_32_0_44 {h : Hp} (s : SM h) : vr h (32, 0) 44 = some (38, 14) := s.2.2 (((32, 0), 44), (38, 14)) (by decide)
theorem mr_32_0_45 {h : Hp} (s : SM h) : vr h (32, 0) 45 = some (38, 15) := s.2.2 (((32, 0), 45), (38, 15)) (by decide)
theorem mr_32_0_46 {h : Hp} (s : SM h) : vr h (32, 0) 46 = some (38, 16) := s.2.2 (((32, 0), 46), (38, 16)) (by decide)
theorem mr_32_0_47 {h : Hp} (s : SM h) : vr h (32, 0) 47 = some (39, 2) := s.2.2 (((32, 0), 47), (39, 2)) (by decide)
theorem mr_32_0_52 {h : Hp} (s : SM h) : vr h (32, 0) 52 = some (38, 17) := s.2.2 (((32, 0), 52), (38, 17)) (by decide)
theorem mr_32_0_53 {h : Hp} (s : SM h) : vr h (32, 0) 53 = some (38, 18) := s.2.2 (((32, 0), 53), (38, 18)) (by decide)
theorem mr_32_0_54 {h : Hp} (s : SM h) : vr h (32, 0) 54 = some (38, 19) := s.2.2 (((32, 0), 54), (38, 19)) (by decide)
theorem mr_34_0_4 {h : Hp} (s : SM h) : vr h (34, 0) 4 = some (50, 0) := s.2.2 (((34, 0), 4), (50, 0)) (by decide)
theorem mr_34_0_5 {h : Hp} (s : SM h) : vr h (34, 0) 5 = some (51, 0) := s.2.2 (((34, 0), 5), (51, 0)) (by decide)
theorem mr_34_0_6 {h : Hp} (s : SM h) : vr h (34, 0) 6 = some (52, 0) := s.2.2 (((34, 0), 6), (52, 0)) (by decide)
theorem mr_34_0_7 {h : Hp} (s : SM h) : vr h (34, 0) 7 = some (53, 0) := s.2.2 (((34, 0), 7), (53, 0)) (by decide)
theorem mr_34_0_8 {h : Hp} (s : SM h) : vr h (34, 0) 8 = some (54, 0) := s.2.2 (((34, 0), 8), (54, 0)) (by decide)
theorem mr_34_0_9 {h : Hp} (s : SM h) : vr h (34, 0) 9 = some (55, 0) := s.2.2 (((34, 0), 9), (55, 0)) (by decide)
theorem mr_34_0_10 {h : Hp} (s : SM h) : vr h (34, 0) 10 = some (56, 0) := s.2.2 (((34, 0), 10), (56, 0)) (by decide)
theorem mr_34_0_11 {h : Hp} (s : SM h) : vr h (34, 0) 11 = some (57, 0) := s.2.2 (((34, 0), 11), (57, 0)) (by decide)
theorem mr_34_0_12 {h : Hp} (s : SM h) : vr h (34, 0) 12 = some (58, 0) := s.2.2 (((34, 0), 12), (58, 0)) (by decide)
theorem mr_34_0_13 {h : Hp} (s : SM h) : vr h (34, 0) 13 = some (59, 0) := s.2.2 (((34, 0), 13), (59, 0)) (by decide)
theorem SM.sR {h : Hp} (s : SM h) {a : Ad} {k : Nat} {v : Option Ad} (hn : ∀ q ∈ mR, q.1 ≠ (a, k)) : SM (sR h a k v) := ⟨s.1, s.2.1, fun q hq => by rw [vr_sR, if_neg (fun z => hn q hq (Prod.ext z.1 z.2))]; exact s.2.2 q hq⟩
theorem SM.sRs {h : Hp} (s : SM h) {a : Ad} {f : Nat → Option Ad} (hn : ∀ q ∈ mR, q.1.1 ≠ a) : SM (sRs h a f) := ⟨s.1, s.2.1, fun q hq => by rw [vr_sRs, if_neg (hn q hq)]; exact s.2.2 q hq⟩
theorem SM.nw {h : Hp} (s : SM h) {p n : Nat} (h1 : ∀ q ∈ mC, q.1 ≠ p) (h2 : ∀ q ∈ mLn, q.1.1 ≠ p) (h3 : ∀ q ∈ mR, q.1.1.1 ≠ p) : SM (nw h p n) := ⟨fun q hq => by rw [cn_nw, if_neg (h1 q hq)]; exact s.1 q hq, fun q hq => by rw [ln_nw, if_neg (fun z => h2 q hq (congrArg Prod.fst z))]; exact s.2.1 q hq, fun q hq => by rw [vr_nw, if_neg (fun z => h3 q hq (congrArg Prod.fst z))]; exact s.2.2 q hq⟩
theorem SM.sI {h : Hp} (s : SM h) {a : Ad} {k : Nat} {x : Int32} : SM (sI h a k x) := s
theorem SM.sIs {h : Hp} (s : SM h) {a : Ad} {f : Nat → Int32} : SM (sIs h a f) := s
theorem SM.sL {h : Hp} (s : SM h) {a : Ad} {k : Nat} {x : Int64} : SM (sL h a k x) := s
theorem ob_0 (i : Nat) : isOb (0, i) RX11 := ⟨by show 0 < 64; decide, 12, (RX11, TX11, 17), rfl, rfl, rfl⟩
theorem ob_1 (i : Nat) : isOb (1, i) RX8 := ⟨by show 1 < 64; decide, 9, (RX8, TX8, 7), rfl, rfl, rfl⟩
theorem ob_2 (i : Nat) : isOb (2, i) RX4 := ⟨by show 2 < 64; decide, 5, (RX4, TX4, 14), rfl, rfl, rfl⟩
theorem ob_3 (i : Nat) : isOb (3, i) RX10 := ⟨by show 3 < 64; decide, 11, (RX10, TX10, 4), rfl, rfl, rfl⟩
theorem ob_4 (i : Nat) : isOb (4, i) RX6 := ⟨by show 4 < 64; decide, 7, (RX6, TX6, 1), rfl, rfl, rfl⟩
theorem ob_5 (i : Nat) : isOb (5, i) RX9 := ⟨by show 5 < 64; decide, 10, (RX9, TX9, 3), rfl, rfl, rfl⟩
theorem ob_6 (i : Nat) : isOb (6, i) RX1 := ⟨by show 6 < 64; decide, 2, (RX1, TX1, 2), rfl, rfl, rfl⟩
theorem ob_7 (i : Nat) : isOb (7, i) RJx4a65c := ⟨by show 7 < 64; decide, 0, (RJx4a65c, TJx4a65c, 3), rfl, rfl, rfl⟩
theorem ob_8 (i : Nat) : isOb (8, i) RX0 := ⟨by show 8 < 64; decide, 1, (RX0, TX0, 6), rfl, rfl, rfl⟩
theorem ob_9 (i : Nat) : isOb (9, i) RX3 := ⟨by show 9 < 64; decide, 4, (RX3, TX3, 11), rfl, rfl, rfl⟩
theorem ob_10 (i : Nat) : isOb (10, i) RX5 := ⟨by show 10 < 64; decide, 6, (RX5, TX5, 3), rfl, rfl, rfl⟩
theorem ob_11 (i : Nat) : isOb (11, i) RX7 := ⟨by show 11 < 64; decide, 8, (RX7, TX7, 4), rfl, rfl, rfl⟩
theorem ob_12 (i : Nat) : isOb (12, i) RX2 := ⟨by show 12 < 64; decide, 3, (RX2, TX2, 3), rfl, rfl, rfl⟩
theorem ob_32 (i : Nat) : isOb (32, i) RX14 := ⟨by show 32 < 64; decide, 15, (RX14, TX14, 55), rfl, rfl, rfl⟩
theorem ob_33 (i : Nat) : isOb (33, i) RX12 := ⟨by show 33 < 64; decide, 13, (RX12, TX12, 14), rfl, rfl, rfl⟩
theorem ob_34 (i : Nat) : isOb (34, i) RX12 := ⟨by show 34 < 64; decide, 13, (RX12, TX12, 14), rfl, rfl, rfl⟩
theorem ob_35 (i : Nat) : isOb (35, i) RX13 := ⟨by show 35 < 64; decide, 14, (RX13, TX13, 8), rfl, rfl, rfl⟩
