def pk (p : Nat) : (Nat × Nat) ⊕ Nat := match p with
  | 0 => .inl (12, 17)
  | 1 => .inl (9, 7)
  | 2 => .inl (5, 14)
  | 3 => .inl (11, 4)
  | 4 => .inl (7, 1)
  | 5 => .inl (10, 3)
  | 6 => .inl (2, 2)
  | 7 => .inl (0, 3)
  | 8 => .inl (1, 6)
  | 9 => .inl (4, 11)
  | 10 => .inl (6, 3)
  | 11 => .inl (8, 4)
  | 12 => .inl (3, 3)
  | 13 => .inr 0
  | 14 => .inr 2
  | 15 => .inr 4
  | 16 => .inr 3
  | 17 => .inr 0
  | 18 => .inr 0
  | 19 => .inr 0
  | 32 => .inl (15, 55)
  | 33 => .inl (13, 14)
  | 34 => .inl (13, 14)
  | 35 => .inl (14, 8)
  | 36 => .inr 5
  | 37 => .inr 1
  | 38 => .inr 0
  | 39 => .inr 2
  | 40 => .inr 0
  | 41 => .inr 0
  | 42 => .inr 0
  | 43 => .inr 0
  | 44 => .inr 0
  | 45 => .inr 0
  | 46 => .inr 0
  | 47 => .inr 0
  | 48 => .inr 0
  | 49 => .inr 0
  | 50 => .inr 0
  | 51 => .inr 0
  | 52 => .inr 0
  | 53 => .inr 0
  | 54 => .inr 0
  | 55 => .inr 0
  | 56 => .inr 0
  | 57 => .inr 0
  | 58 => .inr 0
  | 59 => .inr 0
  | _ => .inr 0
def fk (ci k : Nat) : Nat := match ci with
  | 0 => if k ∈ ([1] : List Nat) then 2 else 0
  | 1 => if k ∈ ([5] : List Nat) then 2 else 0
  | 2 => if k ∈ ([1] : List Nat) then 1 else 0
  | 3 => 0
  | 4 => if k ∈ ([4, 5] : List Nat) then 2 else 0
  | 5 => if k ∈ ([0, 1, 2, 3, 4] : List Nat) then 2 else 0
  | 6 => if k ∈ ([1] : List Nat) then 2 else 0
  | 7 => if k ∈ ([0] : List Nat) then 2 else 0
  | 8 => 0
  | 9 => if k ∈ ([0] : List Nat) then 2 else 0
  | 10 => if k ∈ ([0] : List Nat) then 2 else 0
  | 11 => if k ∈ ([0, 1] : List Nat) then 2 else 0
  | 12 => if k ∈ ([0, 1, 2, 3, 4, 5, 6, 7, 8, 9] : List Nat) then 2 else 0
  | 13 => if k ∈ ([4, 5, 6, 7, 8, 9, 10, 11, 12, 13] : List Nat) then 2 else 0
  | 14 => if k ∈ ([0, 1, 2, 3, 4] : List Nat) then 2 else 0
  | 15 => if k ∈ ([6, 7, 8, 9, 24, 25, 26, 27, 28, 29, 30, 31, 32, 33, 34, 35, 40, 41, 42, 43, 44, 45, 46, 47, 52, 53, 54] : List Nat) then 2 else if k ∈ ([19] : List Nat) then 1 else 0
  | _ => 0
def aty (t : Nat) : FieldType := match t with | 0 => .int | 1 => .byte | 2 => .boolean | 3 => .object "java/lang/Object" | 4 => .object "AlmsHouse$Change" | _ => .object "AlmsHouseModel$Scheme"
def lw_g : List Cond := lw_tbl.filter goodWord
def isNw (w : Cond) : Bool := match w with | .fieldLinkNest .. => true | .methodLinkNest .. => true | .castable .. => true | .declares .. => true | _ => false
def lw_n : List Cond := lw_tbl.filter isNw
theorem lw_g_in {w : Cond} {i : Nat} (h : lw_tbl[i]? = some w) (hg : goodWord w = true) : w ∈ lw_g := List.mem_filter.mpr ⟨List.mem_of_getElem? h, hg⟩
theorem lw_n_in {w : Cond} {i : Nat} (h : lw_tbl[i]? = some w) (hg : isNw w = true) : w ∈ lw_n := List.mem_filter.mpr ⟨List.mem_of_getElem? h, hg⟩
def FL (own : String) (idx ci k : Nat) : Prop := ∃ (ref : String) (q : vw_C), vwCl[ci]? = some q ∧ k < q.2.2 ∧ (Cond.fieldLink own idx ref (q.2.1 k).2.1 (q.2.1 k).2.2.1 ∈ lw_g ∨ ∃ host, Cond.fieldLinkNest own idx ref (q.2.1 k).2.1 (q.2.1 k).2.2.1 host ∈ lw_n) ∧ (ref = (q.2.1 k).1 ∨ Cond.sameField ref (q.2.1 k).1 (q.2.1 k).2.1 (q.2.1 k).2.2.1 ∈ lw_g)
theorem fl_X8_9 : FL RX8 9 9 0 := ⟨"AlmsHouse$Tape", _, rfl, by decide, Or.inl (lw_g_in (i := 114) (by decide +kernel) (by decide +kernel)), Or.inl rfl⟩
theorem fl_X8_15 : FL RX8 15 9 1 := ⟨"AlmsHouse$Tape", _, rfl, by decide, Or.inl (lw_g_in (i := 115) (by decide +kernel) (by decide +kernel)), Or.inl rfl⟩
theorem fl_X11_81 : FL RX11 81 9 1 := ⟨"AlmsHouse$Tape", _, rfl, by decide, Or.inl (lw_g_in (i := 116) (by decide +kernel) (by decide +kernel)), Or.inl rfl⟩
theorem fl_X8_19 : FL RX8 19 9 2 := ⟨"AlmsHouse$Tape", _, rfl, by decide, Or.inl (lw_g_in (i := 117) (by decide +kernel) (by decide +kernel)), Or.inl rfl⟩
theorem fl_X8_22 : FL RX8 22 9 3 := ⟨"AlmsHouse$Tape", _, rfl, by decide, Or.inl (lw_g_in (i := 118) (by decide +kernel) (by decide +kernel)), Or.inl rfl⟩
theorem fl_X8_29 : FL RX8 29 9 4 := ⟨"AlmsHouse$Tape", _, rfl, by decide, Or.inl (lw_g_in (i := 119) (by decide +kernel) (by decide +kernel)), Or.inl rfl⟩
theorem fl_X11_101 : FL RX11 101 9 4 := ⟨"AlmsHouse$Tape", _, rfl, by decide, Or.inl (lw_g_in (i := 120) (by decide +kernel) (by decide +kernel)), Or.inl rfl⟩
theorem fl_X8_35 : FL RX8 35 9 5 := ⟨"AlmsHouse$Tape", _, rfl, by decide, Or.inl (lw_g_in (i := 121) (by decide +kernel) (by decide +kernel)), Or.inl rfl⟩
theorem fl_X4_108 : FL RX4 108 9 5 := ⟨"AlmsHouse$Tape", _, rfl, by decide, Or.inl (lw_g_in (i := 122) (by decide +kernel) (by decide +kernel)), Or.inl rfl⟩
theorem fl_X8_32 : FL RX8 32 9 6 := ⟨"AlmsHouse$Tape", _, rfl, by decide, Or.inl (lw_g_in (i := 123) (by decide +kernel) (by decide +kernel)), Or.inl rfl⟩
theorem fl_X4_117 : FL RX4 117 9 6 := ⟨"AlmsHouse$Tape", _, rfl, by decide, Or.inl (lw_g_in (i := 124) (by decide +kernel) (by decide +kernel)), Or.inl rfl⟩
theorem fl_X10_9 : FL RX10 9 11 0 := ⟨"AlmsHouse$Writer", _, rfl, by decide, Or.inl (lw_g_in (i := 153) (by decide +kernel) (by decide +kernel)), Or.inl rfl⟩
theorem fl_X4_55 : FL RX4 55 11 0 := ⟨"AlmsHouse$Writer", _, rfl, by decide, Or.inl (lw_g_in (i := 154) (by decide +kernel) (by decide +kernel)), Or.inl rfl⟩
theorem fl_X10_15 : FL RX10 15 11 1 := ⟨"AlmsHouse$Writer", _, rfl, by decide, Or.inl (lw_g_in (i := 155) (by decide +kernel) (by decide +kernel)), Or.inl rfl⟩
theorem fl_X10_18 : FL RX10 18 11 2 := ⟨"AlmsHouse$Writer", _, rfl, by decide, Or.inl (lw_g_in (i := 156) (by decide +kernel) (by decide +kernel)), Or.inl rfl⟩
theorem fl_X4_120 : FL RX4 120 11 2 := ⟨"AlmsHouse$Writer", _, rfl, by decide, Or.inl (lw_g_in (i := 157) (by decide +kernel) (by decide +kernel)), Or.inl rfl⟩
theorem fl_X10_22 : FL RX10 22 11 3 := ⟨"AlmsHouse$Writer", _, rfl, by decide, Or.inl (lw_g_in (i := 158) (by decide +kernel) (by decide +kernel)), Or.inl rfl⟩
theorem fl_X4_28 : FL RX4 28 5 0 := ⟨"AlmsHouse$Reader", _, rfl, by decide, Or.inl (lw_g_in (i := 168) (by decide +kernel) (by decide +kernel)), Or.inl rfl⟩
theorem fl_X4_12 : FL RX4 12 5 1 := ⟨"AlmsHouse$Reader", _, rfl, by decide, Or.inl (lw_g_in (i := 169) (by decide +kernel) (by decide +kernel)), Or.inl rfl⟩
theorem fl_X4_18 : FL RX4 18 5 2 := ⟨"AlmsHouse$Reader", _, rfl, by decide, Or.inl (lw_g_in (i := 170) (by decide +kernel) (by decide +kernel)), Or.inl rfl⟩
theorem fl_X4_22 : FL RX4 22 5 3 := ⟨"AlmsHouse$Reader", _, rfl, by decide, Or.inl (lw_g_in (i := 171) (by decide +kernel) (by decide +kernel)), Or.inl rfl⟩
theorem fl_X4_25 : FL RX4 25 5 4 := ⟨"AlmsHouse$Reader", _, rfl, by decide, Or.inl (lw_g_in (i := 172) (by decide +kernel) (by decide +kernel)), Or.inl rfl⟩
theorem fl_X4_52 : FL RX4 52 5 5 := ⟨"AlmsHouse$Reader", _, rfl, by decide, Or.inl (lw_g_in (i := 173) (by decide +kernel) (by decide +kernel)), Or.inl rfl⟩
theorem fl_X11_274 : FL RX11 274 5 5 := ⟨"AlmsHouse$Reader", _, rfl, by decide, Or.inl (lw_g_in (i := 174) (by decide +kernel) (by decide +kernel)), Or.inl rfl⟩
theorem fl_X4_48 : FL RX4 48 5 6 := ⟨"AlmsHouse$Reader", _, rfl, by decide, Or.inl (lw_g_in (i := 175) (by decide +kernel) (by decide +kernel)), Or.inl rfl⟩
theorem fl_X4_65 : FL RX4 65 5 7 := ⟨"AlmsHouse$Reader", _, rfl, by decide, Or.inl (lw_g_in (i := 176) (by decide +kernel) (by decide +kernel)), Or.inl rfl⟩
theorem fl_X4_114 : FL RX4 114 5 8 := ⟨"AlmsHouse$Reader", _, rfl, by decide, Or.inl (lw_g_in (i := 177) (by decide +kernel) (by decide +kernel)), Or.inl rfl⟩
theorem fl_X4_68 : FL RX4 68 5 9 := ⟨"AlmsHouse$Reader", _, rfl, by decide, Or.inl (lw_g_in (i := 178) (by decide +kernel) (by decide +kernel)), Or.inl rfl⟩
theorem fl_X4_71 : FL RX4 71 5 10 := ⟨"AlmsHouse$Reader", _, rfl, by decide, Or.inl (lw_g_in (i := 179) (by decide +kernel) (by decide +kernel)), Or.inl rfl⟩
theorem fl_X4_126 : FL RX4 126 5 11 := ⟨"AlmsHouse$Reader", _, rfl, by decide, Or.inl (lw_g_in (i := 180) (by decide +kernel) (by decide +kernel)), Or.inl rfl⟩
theorem fl_X4_132 : FL RX4 132 5 12 := ⟨"AlmsHouse$Reader", _, rfl, by decide, Or.inl (lw_g_in (i := 181) (by decide +kernel) (by decide +kernel)), Or.inl rfl⟩
theorem fl_X4_155 : FL RX4 155 5 13 := ⟨"AlmsHouse$Reader", _, rfl, by decide, Or.inl (lw_g_in (i := 182) (by decide +kernel) (by decide +kernel)), Or.inl rfl⟩
theorem fl_Jx4a65c_9 : FL RJx4a65c 9 0 1 := ⟨"java/util/ArrayList", _, rfl, by decide, Or.inl (lw_g_in (i := 226) (by decide +kernel) (by decide +kernel)), Or.inl rfl⟩
theorem fl_Jx4a65c_48 : FL RJx4a65c 48 0 2 := ⟨"java/util/ArrayList", _, rfl, by decide, Or.inl (lw_g_in (i := 227) (by decide +kernel) (by decide +kernel)), Or.inl rfl⟩
theorem fl_Jxc12de_7 : FL RJxc12de 7 0 0 := ⟨"java/util/AbstractList", _, rfl, by decide, Or.inl (lw_g_in (i := 228) (by decide +kernel) (by decide +kernel)), Or.inl rfl⟩
theorem fl_Jx4a65c_63 : FL RJx4a65c 63 0 0 := ⟨"java/util/ArrayList", _, rfl, by decide, Or.inl (lw_g_in (i := 229) (by decide +kernel) (by decide +kernel)), Or.inr (lw_g_in (i := 230) (by decide +kernel) (by decide +kernel))⟩
theorem fl_X6_11 : FL RX6 11 7 0 := ⟨"AlmsHouse$Standing", _, rfl, by decide, Or.inl (lw_g_in (i := 246) (by decide +kernel) (by decide +kernel)), Or.inl rfl⟩
theorem fl_X9_9 : FL RX9 9 10 0 := ⟨"AlmsHouse$Trustees", _, rfl, by decide, Or.inl (lw_g_in (i := 256) (by decide +kernel) (by decide +kernel)), Or.inl rfl⟩
theorem fl_X9_19 : FL RX9 19 10 1 := ⟨"AlmsHouse$Trustees", _, rfl, by decide, Or.inl (lw_g_in (i := 257) (by decide +kernel) (by decide +kernel)), Or.inl rfl⟩
theorem fl_X11_201 : FL RX11 201 10 1 := ⟨"AlmsHouse$Trustees", _, rfl, by decide, Or.inl (lw_g_in (i := 258) (by decide +kernel) (by decide +kernel)), Or.inl rfl⟩
theorem fl_X9_15 : FL RX9 15 10 2 := ⟨"AlmsHouse$Trustees", _, rfl, by decide, Or.inl (lw_g_in (i := 259) (by decide +kernel) (by decide +kernel)), Or.inl rfl⟩
theorem fl_X11_256 : FL RX11 256 10 2 := ⟨"AlmsHouse$Trustees", _, rfl, by decide, Or.inl (lw_g_in (i := 260) (by decide +kernel) (by decide +kernel)), Or.inl rfl⟩
theorem fl_X1_16 : FL RX1 16 2 0 := ⟨"AlmsHouse$Chest", _, rfl, by decide, Or.inl (lw_g_in (i := 275) (by decide +kernel) (by decide +kernel)), Or.inl rfl⟩
theorem fl_X11_259 : FL RX11 259 2 0 := ⟨"AlmsHouse$Chest", _, rfl, by decide, Or.inl (lw_g_in (i := 276) (by decide +kernel) (by decide +kernel)), Or.inl rfl⟩
theorem fl_X1_9 : FL RX1 9 2 1 := ⟨"AlmsHouse$Chest", _, rfl, by decide, Or.inl (lw_g_in (i := 277) (by decide +kernel) (by decide +kernel)), Or.inl rfl⟩
theorem fl_X11_262 : FL RX11 262 2 1 := ⟨"AlmsHouse$Chest", _, rfl, by decide, Or.inl (lw_g_in (i := 278) (by decide +kernel) (by decide +kernel)), Or.inl rfl⟩
theorem fl_X11_12 : FL RX11 12 12 0 := ⟨"AlmsHouse", _, rfl, by decide, Or.inl (lw_g_in (i := 284) (by decide +kernel) (by decide +kernel)), Or.inl rfl⟩
theorem fl_X11_23 : FL RX11 23 12 1 := ⟨"AlmsHouse", _, rfl, by decide, Or.inl (lw_g_in (i := 285) (by decide +kernel) (by decide +kernel)), Or.inl rfl⟩
theorem fl_X11_30 : FL RX11 30 12 2 := ⟨"AlmsHouse", _, rfl, by decide, Or.inl (lw_g_in (i := 286) (by decide +kernel) (by decide +kernel)), Or.inl rfl⟩
theorem fl_X11_37 : FL RX11 37 12 3 := ⟨"AlmsHouse", _, rfl, by decide, Or.inl (lw_g_in (i := 287) (by decide +kernel) (by decide +kernel)), Or.inl rfl⟩
theorem fl_X11_41 : FL RX11 41 12 4 := ⟨"AlmsHouse", _, rfl, by decide, Or.inl (lw_g_in (i := 288) (by decide +kernel) (by decide +kernel)), Or.inl rfl⟩
theorem fl_X11_44 : FL RX11 44 12 5 := ⟨"AlmsHouse", _, rfl, by decide, Or.inl (lw_g_in (i := 289) (by decide +kernel) (by decide +kernel)), Or.inl rfl⟩
theorem fl_X11_47 : FL RX11 47 12 6 := ⟨"AlmsHouse", _, rfl, by decide, Or.inl (lw_g_in (i := 290) (by decide +kernel) (by decide +kernel)), Or.inl rfl⟩
theorem fl_X11_53 : FL RX11 53 12 7 := ⟨"AlmsHouse", _, rfl, by decide, Or.inl (lw_g_in (i := 291) (by decide +kernel) (by decide +kernel)), Or.inl rfl⟩
theorem fl_X11_57 : FL RX11 57 12 8 := ⟨"AlmsHouse", _, rfl, by decide, Or.inl (lw_g_in (i := 292) (by decide +kernel) (by decide +kernel)), Or.inl rfl⟩
theorem fl_X11_63 : FL RX11 63 12 9 := ⟨"AlmsHouse", _, rfl, by decide, Or.inl (lw_g_in (i := 293) (by decide +kernel) (by decide +kernel)), Or.inl rfl⟩
theorem fl_X11_71 : FL RX11 71 12 10 := ⟨"AlmsHouse", _, rfl, by decide, Or.inl (lw_g_in (i := 294) (by decide +kernel) (by decide +kernel)), Or.inl rfl⟩
theorem fl_X11_107 : FL RX11 107 12 11 := ⟨"AlmsHouse", _, rfl, by decide, Or.inl (lw_g_in (i := 295) (by decide +kernel) (by decide +kernel)), Or.inl rfl⟩
theorem fl_X11_67 : FL RX11 67 12 12 := ⟨"AlmsHouse", _, rfl, by decide, Or.inl (lw_g_in (i := 296) (by decide +kernel) (by decide +kernel)), Or.inl rfl⟩
theorem fl_X11_135 : FL RX11 135 12 13 := ⟨"AlmsHouse", _, rfl, by decide, Or.inl (lw_g_in (i := 297) (by decide +kernel) (by decide +kernel)), Or.inl rfl⟩
theorem fl_X11_114 : FL RX11 114 12 14 := ⟨"AlmsHouse", _, rfl, by decide, Or.inl (lw_g_in (i := 298) (by decide +kernel) (by decide +kernel)), Or.inl rfl⟩
theorem fl_X11_98 : FL RX11 98 12 15 := ⟨"AlmsHouse", _, rfl, by decide, Or.inl (lw_g_in (i := 299) (by decide +kernel) (by decide +kernel)), Or.inl rfl⟩
theorem fl_X11_104 : FL RX11 104 12 16 := ⟨"AlmsHouse", _, rfl, by decide, Or.inl (lw_g_in (i := 300) (by decide +kernel) (by decide +kernel)), Or.inl rfl⟩
theorem fl_X0_9 : FL RX0 9 1 0 := ⟨"AlmsHouse$Change", _, rfl, by decide, Or.inl (lw_g_in (i := 613) (by decide +kernel) (by decide +kernel)), Or.inl rfl⟩
theorem fl_X11_125 : FL RX11 125 1 0 := ⟨"AlmsHouse$Change", _, rfl, by decide, Or.inl (lw_g_in (i := 614) (by decide +kernel) (by decide +kernel)), Or.inl rfl⟩
theorem fl_X0_15 : FL RX0 15 1 1 := ⟨"AlmsHouse$Change", _, rfl, by decide, Or.inl (lw_g_in (i := 615) (by decide +kernel) (by decide +kernel)), Or.inl rfl⟩
theorem fl_X6_27 : FL RX6 27 1 1 := ⟨"AlmsHouse$Change", _, rfl, by decide, Or.inl (lw_g_in (i := 616) (by decide +kernel) (by decide +kernel)), Or.inl rfl⟩
theorem fl_X0_18 : FL RX0 18 1 2 := ⟨"AlmsHouse$Change", _, rfl, by decide, Or.inl (lw_g_in (i := 617) (by decide +kernel) (by decide +kernel)), Or.inl rfl⟩
theorem fl_X6_31 : FL RX6 31 1 2 := ⟨"AlmsHouse$Change", _, rfl, by decide, Or.inl (lw_g_in (i := 618) (by decide +kernel) (by decide +kernel)), Or.inl rfl⟩
theorem fl_X0_21 : FL RX0 21 1 3 := ⟨"AlmsHouse$Change", _, rfl, by decide, Or.inl (lw_g_in (i := 619) (by decide +kernel) (by decide +kernel)), Or.inl rfl⟩
theorem fl_X6_38 : FL RX6 38 1 3 := ⟨"AlmsHouse$Change", _, rfl, by decide, Or.inl (lw_g_in (i := 620) (by decide +kernel) (by decide +kernel)), Or.inl rfl⟩
theorem fl_X0_24 : FL RX0 24 1 4 := ⟨"AlmsHouse$Change", _, rfl, by decide, Or.inl (lw_g_in (i := 621) (by decide +kernel) (by decide +kernel)), Or.inl rfl⟩
theorem fl_X6_67 : FL RX6 67 1 4 := ⟨"AlmsHouse$Change", _, rfl, by decide, Or.inl (lw_g_in (i := 622) (by decide +kernel) (by decide +kernel)), Or.inl rfl⟩
theorem fl_X0_27 : FL RX0 27 1 5 := ⟨"AlmsHouse$Change", _, rfl, by decide, Or.inl (lw_g_in (i := 623) (by decide +kernel) (by decide +kernel)), Or.inl rfl⟩
theorem fl_X3_26 : FL RX3 26 4 0 := ⟨"AlmsHouse$Person", _, rfl, by decide, Or.inl (lw_g_in (i := 757) (by decide +kernel) (by decide +kernel)), Or.inl rfl⟩
theorem fl_X3_29 : FL RX3 29 4 1 := ⟨"AlmsHouse$Person", _, rfl, by decide, Or.inl (lw_g_in (i := 758) (by decide +kernel) (by decide +kernel)), Or.inl rfl⟩
theorem fl_X3_32 : FL RX3 32 4 2 := ⟨"AlmsHouse$Person", _, rfl, by decide, Or.inl (lw_g_in (i := 759) (by decide +kernel) (by decide +kernel)), Or.inl rfl⟩
theorem fl_X3_36 : FL RX3 36 4 3 := ⟨"AlmsHouse$Person", _, rfl, by decide, Or.inl (lw_g_in (i := 760) (by decide +kernel) (by decide +kernel)), Or.inl rfl⟩
theorem fl_X6_49 : FL RX6 49 4 3 := ⟨"AlmsHouse$Person", _, rfl, by decide, Or.inl (lw_g_in (i := 761) (by decide +kernel) (by decide +kernel)), Or.inl rfl⟩
theorem fl_X3_9 : FL RX3 9 4 4 := ⟨"AlmsHouse$Person", _, rfl, by decide, Or.inl (lw_g_in (i := 762) (by decide +kernel) (by decide +kernel)), Or.inl rfl⟩
theorem fl_X3_15 : FL RX3 15 4 5 := ⟨"AlmsHouse$Person", _, rfl, by decide, Or.inl (lw_g_in (i := 763) (by decide +kernel) (by decide +kernel)), Or.inl rfl⟩
theorem fl_X3_39 : FL RX3 39 4 6 := ⟨"AlmsHouse$Person", _, rfl, by decide, Or.inl (lw_g_in (i := 764) (by decide +kernel) (by decide +kernel)), Or.inl rfl⟩
theorem fl_X11_154 : FL RX11 154 4 6 := ⟨"AlmsHouse$Person", _, rfl, by decide, Or.inl (lw_g_in (i := 765) (by decide +kernel) (by decide +kernel)), Or.inl rfl⟩
theorem fl_X3_19 : FL RX3 19 4 7 := ⟨"AlmsHouse$Person", _, rfl, by decide, Or.inl (lw_g_in (i := 766) (by decide +kernel) (by decide +kernel)), Or.inl rfl⟩
theorem fl_X6_54 : FL RX6 54 4 7 := ⟨"AlmsHouse$Person", _, rfl, by decide, Or.inl (lw_g_in (i := 767) (by decide +kernel) (by decide +kernel)), Or.inl rfl⟩
theorem fl_X11_160 : FL RX11 160 4 7 := ⟨"AlmsHouse$Person", _, rfl, by decide, Or.inl (lw_g_in (i := 768) (by decide +kernel) (by decide +kernel)), Or.inl rfl⟩
theorem fl_X3_23 : FL RX3 23 4 8 := ⟨"AlmsHouse$Person", _, rfl, by decide, Or.inl (lw_g_in (i := 769) (by decide +kernel) (by decide +kernel)), Or.inl rfl⟩
theorem fl_X11_164 : FL RX11 164 4 8 := ⟨"AlmsHouse$Person", _, rfl, by decide, Or.inl (lw_g_in (i := 770) (by decide +kernel) (by decide +kernel)), Or.inl rfl⟩
theorem fl_X11_247 : FL RX11 247 4 9 := ⟨"AlmsHouse$Person", _, rfl, by decide, Or.inl (lw_g_in (i := 771) (by decide +kernel) (by decide +kernel)), Or.inl rfl⟩
theorem fl_X11_250 : FL RX11 250 4 10 := ⟨"AlmsHouse$Person", _, rfl, by decide, Or.inl (lw_g_in (i := 772) (by decide +kernel) (by decide +kernel)), Or.inl rfl⟩
theorem fl_X5_15 : FL RX5 15 6 0 := ⟨"AlmsHouse$Room", _, rfl, by decide, Or.inl (lw_g_in (i := 904) (by decide +kernel) (by decide +kernel)), Or.inl rfl⟩
theorem fl_X11_214 : FL RX11 214 6 0 := ⟨"AlmsHouse$Room", _, rfl, by decide, Or.inl (lw_g_in (i := 905) (by decide +kernel) (by decide +kernel)), Or.inl rfl⟩
theorem fl_X11_207 : FL RX11 207 6 1 := ⟨"AlmsHouse$Room", _, rfl, by decide, Or.inl (lw_g_in (i := 906) (by decide +kernel) (by decide +kernel)), Or.inl rfl⟩
theorem fl_X5_9 : FL RX5 9 6 2 := ⟨"AlmsHouse$Room", _, rfl, by decide, Or.inl (lw_g_in (i := 907) (by decide +kernel) (by decide +kernel)), Or.inl rfl⟩
theorem fl_X11_222 : FL RX11 222 6 2 := ⟨"AlmsHouse$Room", _, rfl, by decide, Or.inl (lw_g_in (i := 908) (by decide +kernel) (by decide +kernel)), Or.inl rfl⟩
theorem fl_X7_16 : FL RX7 16 8 0 := ⟨"AlmsHouse$Stay", _, rfl, by decide, Or.inl (lw_g_in (i := 947) (by decide +kernel) (by decide +kernel)), Or.inl rfl⟩
theorem fl_X11_233 : FL RX11 233 8 0 := ⟨"AlmsHouse$Stay", _, rfl, by decide, Or.inl (lw_g_in (i := 948) (by decide +kernel) (by decide +kernel)), Or.inl rfl⟩
theorem fl_X7_19 : FL RX7 19 8 1 := ⟨"AlmsHouse$Stay", _, rfl, by decide, Or.inl (lw_g_in (i := 949) (by decide +kernel) (by decide +kernel)), Or.inl rfl⟩
theorem fl_X11_227 : FL RX11 227 8 1 := ⟨"AlmsHouse$Stay", _, rfl, by decide, Or.inl (lw_g_in (i := 950) (by decide +kernel) (by decide +kernel)), Or.inl rfl⟩
theorem fl_X7_22 : FL RX7 22 8 2 := ⟨"AlmsHouse$Stay", _, rfl, by decide, Or.inl (lw_g_in (i := 951) (by decide +kernel) (by decide +kernel)), Or.inl rfl⟩
theorem fl_X11_230 : FL RX11 230 8 2 := ⟨"AlmsHouse$Stay", _, rfl, by decide, Or.inl (lw_g_in (i := 952) (by decide +kernel) (by decide +kernel)), Or.inl rfl⟩
theorem fl_X7_10 : FL RX7 10 8 3 := ⟨"AlmsHouse$Stay", _, rfl, by decide, Or.inl (lw_g_in (i := 953) (by decide +kernel) (by decide +kernel)), Or.inl rfl⟩
theorem fl_X11_234 : FL RX11 234 8 3 := ⟨"AlmsHouse$Stay", _, rfl, by decide, Or.inl (lw_g_in (i := 954) (by decide +kernel) (by decide +kernel)), Or.inl rfl⟩
theorem fl_X2_7 : FL RX2 7 3 0 := ⟨"AlmsHouse$Land", _, rfl, by decide, Or.inl (lw_g_in (i := 990) (by decide +kernel) (by decide +kernel)), Or.inl rfl⟩
theorem fl_X11_292 : FL RX11 292 3 0 := ⟨"AlmsHouse$Land", _, rfl, by decide, Or.inl (lw_g_in (i := 991) (by decide +kernel) (by decide +kernel)), Or.inl rfl⟩
theorem fl_X2_13 : FL RX2 13 3 1 := ⟨"AlmsHouse$Land", _, rfl, by decide, Or.inl (lw_g_in (i := 992) (by decide +kernel) (by decide +kernel)), Or.inl rfl⟩
theorem fl_X2_16 : FL RX2 16 3 2 := ⟨"AlmsHouse$Land", _, rfl, by decide, Or.inl (lw_g_in (i := 993) (by decide +kernel) (by decide +kernel)), Or.inl rfl⟩
theorem fl_X14_289 : FL RX14 289 13 0 := ⟨"AlmsHouseModel$Scheme", _, rfl, by decide, Or.inr ⟨"AlmsHouseModel", lw_n_in (i := 1068) (by decide +kernel) (by decide +kernel)⟩, Or.inl rfl⟩
theorem fl_X14_292 : FL RX14 292 13 1 := ⟨"AlmsHouseModel$Scheme", _, rfl, by decide, Or.inr ⟨"AlmsHouseModel", lw_n_in (i := 1069) (by decide +kernel) (by decide +kernel)⟩, Or.inl rfl⟩
theorem fl_X14_208 : FL RX14 208 13 2 := ⟨"AlmsHouseModel$Scheme", _, rfl, by decide, Or.inr ⟨"AlmsHouseModel", lw_n_in (i := 1070) (by decide +kernel) (by decide +kernel)⟩, Or.inl rfl⟩
theorem fl_X12_42 : FL RX12 42 13 3 := ⟨"AlmsHouseModel$Scheme", _, rfl, by decide, Or.inl (lw_g_in (i := 1071) (by decide +kernel) (by decide +kernel)), Or.inl rfl⟩
theorem fl_X14_211 : FL RX14 211 13 3 := ⟨"AlmsHouseModel$Scheme", _, rfl, by decide, Or.inr ⟨"AlmsHouseModel", lw_n_in (i := 1072) (by decide +kernel) (by decide +kernel)⟩, Or.inl rfl⟩
theorem fl_X12_9 : FL RX12 9 13 4 := ⟨"AlmsHouseModel$Scheme", _, rfl, by decide, Or.inl (lw_g_in (i := 1073) (by decide +kernel) (by decide +kernel)), Or.inl rfl⟩
theorem fl_X14_223 : FL RX14 223 13 4 := ⟨"AlmsHouseModel$Scheme", _, rfl, by decide, Or.inr ⟨"AlmsHouseModel", lw_n_in (i := 1074) (by decide +kernel) (by decide +kernel)⟩, Or.inl rfl⟩
theorem fl_X12_15 : FL RX12 15 13 5 := ⟨"AlmsHouseModel$Scheme", _, rfl, by decide, Or.inl (lw_g_in (i := 1075) (by decide +kernel) (by decide +kernel)), Or.inl rfl⟩
theorem fl_X14_226 : FL RX14 226 13 5 := ⟨"AlmsHouseModel$Scheme", _, rfl, by decide, Or.inr ⟨"AlmsHouseModel", lw_n_in (i := 1076) (by decide +kernel) (by decide +kernel)⟩, Or.inl rfl⟩
theorem fl_X12_18 : FL RX12 18 13 6 := ⟨"AlmsHouseModel$Scheme", _, rfl, by decide, Or.inl (lw_g_in (i := 1077) (by decide +kernel) (by decide +kernel)), Or.inl rfl⟩
theorem fl_X14_235 : FL RX14 235 13 6 := ⟨"AlmsHouseModel$Scheme", _, rfl, by decide, Or.inr ⟨"AlmsHouseModel", lw_n_in (i := 1078) (by decide +kernel) (by decide +kernel)⟩, Or.inl rfl⟩
theorem fl_X12_21 : FL RX12 21 13 7 := ⟨"AlmsHouseModel$Scheme", _, rfl, by decide, Or.inl (lw_g_in (i := 1079) (by decide +kernel) (by decide +kernel)), Or.inl rfl⟩
theorem fl_X14_242 : FL RX14 242 13 7 := ⟨"AlmsHouseModel$Scheme", _, rfl, by decide, Or.inr ⟨"AlmsHouseModel", lw_n_in (i := 1080) (by decide +kernel) (by decide +kernel)⟩, Or.inl rfl⟩
theorem fl_X12_24 : FL RX12 24 13 8 := ⟨"AlmsHouseModel$Scheme", _, rfl, by decide, Or.inl (lw_g_in (i := 1081) (by decide +kernel) (by decide +kernel)), Or.inl rfl⟩
theorem fl_X14_228 : FL RX14 228 13 8 := ⟨"AlmsHouseModel$Scheme", _, rfl, by decide, Or.inr ⟨"AlmsHouseModel", lw_n_in (i := 1082) (by decide +kernel) (by decide +kernel)⟩, Or.inl rfl⟩
theorem fl_X12_27 : FL RX12 27 13 9 := ⟨"AlmsHouseModel$Scheme", _, rfl, by decide, Or.inl (lw_g_in (i := 1083) (by decide +kernel) (by decide +kernel)), Or.inl rfl⟩
theorem fl_X14_327 : FL RX14 327 13 9 := ⟨"AlmsHouseModel$Scheme", _, rfl, by decide, Or.inr ⟨"AlmsHouseModel", lw_n_in (i := 1084) (by decide +kernel) (by decide +kernel)⟩, Or.inl rfl⟩
theorem fl_X12_30 : FL RX12 30 13 10 := ⟨"AlmsHouseModel$Scheme", _, rfl, by decide, Or.inl (lw_g_in (i := 1085) (by decide +kernel) (by decide +kernel)), Or.inl rfl⟩
theorem fl_X14_330 : FL RX14 330 13 10 := ⟨"AlmsHouseModel$Scheme", _, rfl, by decide, Or.inr ⟨"AlmsHouseModel", lw_n_in (i := 1086) (by decide +kernel) (by decide +kernel)⟩, Or.inl rfl⟩
theorem fl_X12_33 : FL RX12 33 13 11 := ⟨"AlmsHouseModel$Scheme", _, rfl, by decide, Or.inl (lw_g_in (i := 1087) (by decide +kernel) (by decide +kernel)), Or.inl rfl⟩
theorem fl_X14_333 : FL RX14 333 13 11 := ⟨"AlmsHouseModel$Scheme", _, rfl, by decide, Or.inr ⟨"AlmsHouseModel", lw_n_in (i := 1088) (by decide +kernel) (by decide +kernel)⟩, Or.inl rfl⟩
theorem fl_X12_36 : FL RX12 36 13 12 := ⟨"AlmsHouseModel$Scheme", _, rfl, by decide, Or.inl (lw_g_in (i := 1089) (by decide +kernel) (by decide +kernel)), Or.inl rfl⟩
theorem fl_X14_267 : FL RX14 267 13 12 := ⟨"AlmsHouseModel$Scheme", _, rfl, by decide, Or.inr ⟨"AlmsHouseModel", lw_n_in (i := 1090) (by decide +kernel) (by decide +kernel)⟩, Or.inl rfl⟩
theorem fl_X12_39 : FL RX12 39 13 13 := ⟨"AlmsHouseModel$Scheme", _, rfl, by decide, Or.inl (lw_g_in (i := 1091) (by decide +kernel) (by decide +kernel)), Or.inl rfl⟩
theorem fl_X14_264 : FL RX14 264 13 13 := ⟨"AlmsHouseModel$Scheme", _, rfl, by decide, Or.inr ⟨"AlmsHouseModel", lw_n_in (i := 1092) (by decide +kernel) (by decide +kernel)⟩, Or.inl rfl⟩
theorem fl_Thr_198 : FL "java/lang/Throwable" 198 14 4 := ⟨"java/lang/Throwable", _, rfl, by decide, Or.inl (lw_g_in (i := 1143) (by decide +kernel) (by decide +kernel)), Or.inl rfl⟩
theorem fl_X14_128 : FL RX14 128 14 6 := ⟨"AlmsHouseModel$Stop", _, rfl, by decide, Or.inr ⟨"AlmsHouseModel", lw_n_in (i := 1173) (by decide +kernel) (by decide +kernel)⟩, Or.inl rfl⟩
theorem fl_X14_134 : FL RX14 134 14 7 := ⟨"AlmsHouseModel$Stop", _, rfl, by decide, Or.inr ⟨"AlmsHouseModel", lw_n_in (i := 1174) (by decide +kernel) (by decide +kernel)⟩, Or.inl rfl⟩
theorem fl_Thr_31 : FL "java/lang/Throwable" 31 14 3 := ⟨"java/lang/Throwable", _, rfl, by decide, Or.inl (lw_g_in (i := 1176) (by decide +kernel) (by decide +kernel)), Or.inl rfl⟩
theorem fl_Thr_7 : FL "java/lang/Throwable" 7 14 0 := ⟨"java/lang/Throwable", _, rfl, by decide, Or.inl (lw_g_in (i := 1177) (by decide +kernel) (by decide +kernel)), Or.inl rfl⟩
theorem fl_Thr_17 : FL "java/lang/Throwable" 17 14 1 := ⟨"java/lang/Throwable", _, rfl, by decide, Or.inl (lw_g_in (i := 1178) (by decide +kernel) (by decide +kernel)), Or.inl rfl⟩
theorem fl_Thr_24 : FL "java/lang/Throwable" 24 14 2 := ⟨"java/lang/Throwable", _, rfl, by decide, Or.inl (lw_g_in (i := 1179) (by decide +kernel) (by decide +kernel)), Or.inl rfl⟩
theorem fl_X14_112 : FL RX14 112 15 0 := ⟨"AlmsHouseModel", _, rfl, by decide, Or.inl (lw_g_in (i := 1192) (by decide +kernel) (by decide +kernel)), Or.inl rfl⟩
theorem fl_X14_115 : FL RX14 115 15 1 := ⟨"AlmsHouseModel", _, rfl, by decide, Or.inl (lw_g_in (i := 1193) (by decide +kernel) (by decide +kernel)), Or.inl rfl⟩
theorem fl_X14_9 : FL RX14 9 15 2 := ⟨"AlmsHouseModel", _, rfl, by decide, Or.inl (lw_g_in (i := 1194) (by decide +kernel) (by decide +kernel)), Or.inl rfl⟩
theorem fl_X14_280 : FL RX14 280 15 3 := ⟨"AlmsHouseModel", _, rfl, by decide, Or.inl (lw_g_in (i := 1195) (by decide +kernel) (by decide +kernel)), Or.inl rfl⟩
theorem fl_X14_118 : FL RX14 118 15 4 := ⟨"AlmsHouseModel", _, rfl, by decide, Or.inl (lw_g_in (i := 1196) (by decide +kernel) (by decide +kernel)), Or.inl rfl⟩
theorem fl_X14_283 : FL RX14 283 15 5 := ⟨"AlmsHouseModel", _, rfl, by decide, Or.inl (lw_g_in (i := 1197) (by decide +kernel) (by decide +kernel)), Or.inl rfl⟩
theorem fl_X14_15 : FL RX14 15 15 6 := ⟨"AlmsHouseModel", _, rfl, by decide, Or.inl (lw_g_in (i := 1198) (by decide +kernel) (by decide +kernel)), Or.inl rfl⟩
theorem fl_X14_20 : FL RX14 20 15 7 := ⟨"AlmsHouseModel", _, rfl, by decide, Or.inl (lw_g_in (i := 1199) (by decide +kernel) (by decide +kernel)), Or.inl rfl⟩
theorem fl_X14_27 : FL RX14 27 15 8 := ⟨"AlmsHouseModel", _, rfl, by decide, Or.inl (lw_g_in (i := 1200) (by decide +kernel) (by decide +kernel)), Or.inl rfl⟩
theorem fl_X14_31 : FL RX14 31 15 9 := ⟨"AlmsHouseModel", _, rfl, by decide, Or.inl (lw_g_in (i := 1201) (by decide +kernel) (by decide +kernel)), Or.inl rfl⟩
theorem fl_X14_270 : FL RX14 270 15 10 := ⟨"AlmsHouseModel", _, rfl, by decide, Or.inl (lw_g_in (i := 1202) (by decide +kernel) (by decide +kernel)), Or.inl rfl⟩
theorem fl_X14_135 : FL RX14 135 15 11 := ⟨"AlmsHouseModel", _, rfl, by decide, Or.inl (lw_g_in (i := 1203) (by decide +kernel) (by decide +kernel)), Or.inl rfl⟩
theorem fl_X14_150 : FL RX14 150 15 12 := ⟨"AlmsHouseModel", _, rfl, by decide, Or.inl (lw_g_in (i := 1204) (by decide +kernel) (by decide +kernel)), Or.inl rfl⟩
theorem fl_X14_156 : FL RX14 156 15 13 := ⟨"AlmsHouseModel", _, rfl, by decide, Or.inl (lw_g_in (i := 1205) (by decide +kernel) (by decide +kernel)), Or.inl rfl⟩
theorem fl_X14_131 : FL RX14 131 15 14 := ⟨"AlmsHouseModel", _, rfl, by decide, Or.inl (lw_g_in (i := 1206) (by decide +kernel) (by decide +kernel)), Or.inl rfl⟩
theorem fl_X14_159 : FL RX14 159 15 15 := ⟨"AlmsHouseModel", _, rfl, by decide, Or.inl (lw_g_in (i := 1207) (by decide +kernel) (by decide +kernel)), Or.inl rfl⟩
theorem fl_X14_173 : FL RX14 173 15 16 := ⟨"AlmsHouseModel", _, rfl, by decide, Or.inl (lw_g_in (i := 1208) (by decide +kernel) (by decide +kernel)), Or.inl rfl⟩
theorem fl_X14_214 : FL RX14 214 15 17 := ⟨"AlmsHouseModel", _, rfl, by decide, Or.inl (lw_g_in (i := 1209) (by decide +kernel) (by decide +kernel)), Or.inl rfl⟩
theorem fl_X14_217 : FL RX14 217 15 18 := ⟨"AlmsHouseModel", _, rfl, by decide, Or.inl (lw_g_in (i := 1210) (by decide +kernel) (by decide +kernel)), Or.inl rfl⟩
theorem fl_X14_166 : FL RX14 166 15 19 := ⟨"AlmsHouseModel", _, rfl, by decide, Or.inl (lw_g_in (i := 1211) (by decide +kernel) (by decide +kernel)), Or.inl rfl⟩
theorem fl_X14_295 : FL RX14 295 15 20 := ⟨"AlmsHouseModel", _, rfl, by decide, Or.inl (lw_g_in (i := 1212) (by decide +kernel) (by decide +kernel)), Or.inl rfl⟩
theorem fl_X14_298 : FL RX14 298 15 21 := ⟨"AlmsHouseModel", _, rfl, by decide, Or.inl (lw_g_in (i := 1213) (by decide +kernel) (by decide +kernel)), Or.inl rfl⟩
theorem fl_X14_308 : FL RX14 308 15 22 := ⟨"AlmsHouseModel", _, rfl, by decide, Or.inl (lw_g_in (i := 1214) (by decide +kernel) (by decide +kernel)), Or.inl rfl⟩
theorem fl_X14_312 : FL RX14 312 15 23 := ⟨"AlmsHouseModel", _, rfl, by decide, Or.inl (lw_g_in (i := 1215) (by decide +kernel) (by decide +kernel)), Or.inl rfl⟩
theorem fl_X14_35 : FL RX14 35 15 24 := ⟨"AlmsHouseModel", _, rfl, by decide, Or.inl (lw_g_in (i := 1216) (by decide +kernel) (by decide +kernel)), Or.inl rfl⟩
theorem fl_X14_39 : FL RX14 39 15 25 := ⟨"AlmsHouseModel", _, rfl, by decide, Or.inl (lw_g_in (i := 1217) (by decide +kernel) (by decide +kernel)), Or.inl rfl⟩
theorem fl_X14_42 : FL RX14 42 15 26 := ⟨"AlmsHouseModel", _, rfl, by decide, Or.inl (lw_g_in (i := 1218) (by decide +kernel) (by decide +kernel)), Or.inl rfl⟩
theorem fl_X14_45 : FL RX14 45 15 27 := ⟨"AlmsHouseModel", _, rfl, by decide, Or.inl (lw_g_in (i := 1219) (by decide +kernel) (by decide +kernel)), Or.inl rfl⟩
theorem fl_X14_48 : FL RX14 48 15 28 := ⟨"AlmsHouseModel", _, rfl, by decide, Or.inl (lw_g_in (i := 1220) (by decide +kernel) (by decide +kernel)), Or.inl rfl⟩
theorem fl_X14_51 : FL RX14 51 15 29 := ⟨"AlmsHouseModel", _, rfl, by decide, Or.inl (lw_g_in (i := 1221) (by decide +kernel) (by decide +kernel)), Or.inl rfl⟩
theorem fl_X14_54 : FL RX14 54 15 30 := ⟨"AlmsHouseModel", _, rfl, by decide, Or.inl (lw_g_in (i := 1222) (by decide +kernel) (by decide +kernel)), Or.inl rfl⟩
theorem fl_X14_57 : FL RX14 57 15 31 := ⟨"AlmsHouseModel", _, rfl, by decide, Or.inl (lw_g_in (i := 1223) (by decide +kernel) (by decide +kernel)), Or.inl rfl⟩
theorem fl_X14_60 : FL RX14 60 15 32 := ⟨"AlmsHouseModel", _, rfl, by decide, Or.inl (lw_g_in (i := 1224) (by decide +kernel) (by decide +kernel)), Or.inl rfl⟩
theorem fl_X14_64 : FL RX14 64 15 33 := ⟨"AlmsHouseModel", _, rfl, by decide, Or.inl (lw_g_in (i := 1225) (by decide +kernel) (by decide +kernel)), Or.inl rfl⟩
theorem fl_X14_67 : FL RX14 67 15 34 := ⟨"AlmsHouseModel", _, rfl, by decide, Or.inl (lw_g_in (i := 1226) (by decide +kernel) (by decide +kernel)), Or.inl rfl⟩
theorem fl_X14_70 : FL RX14 70 15 35 := ⟨"AlmsHouseModel", _, rfl, by decide, Or.inl (lw_g_in (i := 1227) (by decide +kernel) (by decide +kernel)), Or.inl rfl⟩
theorem fl_X14_355 : FL RX14 355 15 36 := ⟨"AlmsHouseModel", _, rfl, by decide, Or.inl (lw_g_in (i := 1228) (by decide +kernel) (by decide +kernel)), Or.inl rfl⟩
theorem fl_X14_371 : FL RX14 371 15 37 := ⟨"AlmsHouseModel", _, rfl, by decide, Or.inl (lw_g_in (i := 1229) (by decide +kernel) (by decide +kernel)), Or.inl rfl⟩
theorem fl_X14_358 : FL RX14 358 15 38 := ⟨"AlmsHouseModel", _, rfl, by decide, Or.inl (lw_g_in (i := 1230) (by decide +kernel) (by decide +kernel)), Or.inl rfl⟩
theorem fl_X14_73 : FL RX14 73 15 39 := ⟨"AlmsHouseModel", _, rfl, by decide, Or.inl (lw_g_in (i := 1231) (by decide +kernel) (by decide +kernel)), Or.inl rfl⟩
theorem fl_X14_76 : FL RX14 76 15 40 := ⟨"AlmsHouseModel", _, rfl, by decide, Or.inl (lw_g_in (i := 1232) (by decide +kernel) (by decide +kernel)), Or.inl rfl⟩
theorem fl_X14_79 : FL RX14 79 15 41 := ⟨"AlmsHouseModel", _, rfl, by decide, Or.inl (lw_g_in (i := 1233) (by decide +kernel) (by decide +kernel)), Or.inl rfl⟩
theorem fl_X14_82 : FL RX14 82 15 42 := ⟨"AlmsHouseModel", _, rfl, by decide, Or.inl (lw_g_in (i := 1234) (by decide +kernel) (by decide +kernel)), Or.inl rfl⟩
theorem fl_X14_85 : FL RX14 85 15 43 := ⟨"AlmsHouseModel", _, rfl, by decide, Or.inl (lw_g_in (i := 1235) (by decide +kernel) (by decide +kernel)), Or.inl rfl⟩
theorem fl_X14_88 : FL RX14 88 15 44 := ⟨"AlmsHouseModel", _, rfl, by decide, Or.inl (lw_g_in (i := 1236) (by decide +kernel) (by decide +kernel)), Or.inl rfl⟩
theorem fl_X14_91 : FL RX14 91 15 45 := ⟨"AlmsHouseModel", _, rfl, by decide, Or.inl (lw_g_in (i := 1237) (by decide +kernel) (by decide +kernel)), Or.inl rfl⟩
theorem fl_X14_94 : FL RX14 94 15 46 := ⟨"AlmsHouseModel", _, rfl, by decide, Or.inl (lw_g_in (i := 1238) (by decide +kernel) (by decide +kernel)), Or.inl rfl⟩
theorem fl_X14_97 : FL RX14 97 15 47 := ⟨"AlmsHouseModel", _, rfl, by decide, Or.inl (lw_g_in (i := 1239) (by decide +kernel) (by decide +kernel)), Or.inl rfl⟩
theorem fl_X14_377 : FL RX14 377 15 48 := ⟨"AlmsHouseModel", _, rfl, by decide, Or.inl (lw_g_in (i := 1240) (by decide +kernel) (by decide +kernel)), Or.inl rfl⟩
theorem fl_X14_100 : FL RX14 100 15 49 := ⟨"AlmsHouseModel", _, rfl, by decide, Or.inl (lw_g_in (i := 1241) (by decide +kernel) (by decide +kernel)), Or.inl rfl⟩
theorem fl_X14_381 : FL RX14 381 15 50 := ⟨"AlmsHouseModel", _, rfl, by decide, Or.inl (lw_g_in (i := 1242) (by decide +kernel) (by decide +kernel)), Or.inl rfl⟩
theorem fl_X14_389 : FL RX14 389 15 51 := ⟨"AlmsHouseModel", _, rfl, by decide, Or.inl (lw_g_in (i := 1243) (by decide +kernel) (by decide +kernel)), Or.inl rfl⟩
theorem fl_X14_103 : FL RX14 103 15 52 := ⟨"AlmsHouseModel", _, rfl, by decide, Or.inl (lw_g_in (i := 1244) (by decide +kernel) (by decide +kernel)), Or.inl rfl⟩
theorem fl_X14_106 : FL RX14 106 15 53 := ⟨"AlmsHouseModel", _, rfl, by decide, Or.inl (lw_g_in (i := 1245) (by decide +kernel) (by decide +kernel)), Or.inl rfl⟩
theorem fl_X14_109 : FL RX14 109 15 54 := ⟨"AlmsHouseModel", _, rfl, by decide, Or.inl (lw_g_in (i := 1246) (by decide +kernel) (by decide +kernel)), Or.inl rfl⟩
