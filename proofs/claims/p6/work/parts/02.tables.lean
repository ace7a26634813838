/-! links of the class files (own class, constant pool number, what it names), methods; each with its row of the tables -/
theorem x_memA {α : Type} {big ws : List α} (ps : List Nat) (hp : ws = ps.filterMap (fun i => big[i]?)) : ∀ w ∈ ws, w ∈ big := by
  intro w hw
  rw [hp] at hw
  obtain ⟨i, -, hi⟩ := List.mem_filterMap.mp hw
  exact List.mem_of_getElem? hi
def xOwn : List String := [RX0, RX1, RX2, RX3, RX4, RX5, RX6, RX7, RX8, RX9, RX10, RX11, RX12, RL, "java/lang/Integer", "java/util/Arrays"]
def xo (k : Nat) : String := xOwn.getD k ""
def xCl (k : Nat) : vw_C := vwCl.getD k (RX0, TX0, 0)
def xF (c k : Nat) : String × String × String × Bool := (xCl c).2.1 k
/-- the types of the fields: 0 int, 1 long, 2 a reference, 3 boolean -/
def xFTs : List (List Nat) := [[2, 2, 2, 2, 2, 2, 0, 2, 1, 3, 0, 0, 0, 3, 3, 3, 0, 0], [2, 2, 2, 2, 2, 2, 0, 2, 2, 2], [0, 0, 0, 0, 0, 0], [2, 0, 0, 2, 2], [0, 0, 3, 0, 0, 0, 0], [2, 2, 2, 2, 2, 2, 2, 2, 2, 3, 2, 2, 0, 0, 0], [0, 2, 2], [2, 2, 2, 2, 0, 0, 0, 0, 0, 2], [2, 2, 2, 2, 0, 0, 3, 2, 2], [0, 2, 2], [2, 2, 2, 2, 0, 0, 0, 0, 0, 0, 0, 0, 0, 0, 0, 0, 0, 3, 0], [2, 0, 2, 0, 0, 2, 2, 2, 2, 2, 2, 2, 2, 2, 2, 2, 2, 2], [0, 2, 2, 2, 2, 0, 2, 0, 0, 0, 0, 0, 0, 0, 2, 3, 0, 0, 0, 0, 2, 2, 3, 2, 2, 2, 2, 2, 2, 0, 2, 2, 1, 0, 0, 0, 0, 0, 0, 2, 0, 2, 2, 0, 0, 2, 2, 2, 0, 2, 2, 2, 2]]
def xFT (c k : Nat) : Nat := (xFTs.getD c []).getD k 9
def xStr : List String := ["place", "leg", "lift", "speed", "point", "turn", "water", "ceiling", "last", "worth", "start", "ground", "home", "field", "miles", "air", "down", "wind", "hill", "chance", "up", "sign", "sink", "period", "out", "at", "wet"]
def xFl : List (Nat × Nat × Nat × Nat) := [
  (0, 11, 0, 0), (0, 15, 0, 1), (0, 18, 0, 2), (0, 21, 0, 3), (0, 24, 0, 4), (0, 28, 0, 5), (0, 31, 0, 9), (0, 35, 0, 8), (0, 43, 0, 7), (0, 57, 0, 6), (0, 63, 0, 10), (0, 69, 0, 11),
  (0, 72, 0, 12), (0, 79, 0, 14), (0, 82, 0, 15), (0, 92, 0, 13), (0, 130, 0, 17), (0, 136, 0, 16), (1, 11, 1, 0), (1, 15, 1, 1), (1, 18, 1, 2), (1, 21, 1, 3), (1, 24, 1, 4), (1, 27, 1, 5),
  (1, 30, 1, 7), (1, 33, 1, 8), (1, 36, 1, 9), (1, 39, 1, 6), (2, 7, 2, 0), (2, 13, 2, 1), (2, 16, 2, 2), (2, 19, 2, 3), (2, 22, 2, 4), (2, 25, 2, 5), (3, 12, 3, 0), (3, 18, 3, 3),
  (3, 26, 3, 4), (3, 34, 3, 1), (3, 39, 3, 2), (4, 9, 4, 0), (4, 15, 4, 1), (4, 18, 4, 2), (4, 22, 4, 3), (4, 25, 4, 4), (4, 28, 4, 5), (4, 31, 4, 6), (5, 12, 5, 0), (5, 16, 5, 1),
  (5, 19, 5, 2), (5, 22, 5, 3), (5, 25, 5, 4), (5, 28, 5, 5), (5, 31, 5, 6), (5, 34, 5, 7), (5, 37, 5, 8), (5, 40, 5, 10), (5, 44, 5, 11), (5, 48, 5, 12), (5, 57, 5, 13), (5, 60, 5, 14),
  (5, 82, 5, 9), (6, 9, 6, 1), (6, 15, 6, 2), (6, 18, 6, 0), (7, 9, 7, 1), (7, 15, 7, 2), (7, 18, 7, 3), (7, 21, 7, 0), (7, 25, 7, 9), (7, 29, 7, 5), (7, 33, 7, 6), (7, 36, 7, 7),
  (7, 39, 7, 8), (7, 52, 7, 4), (8, 11, 8, 0), (8, 15, 8, 1), (8, 18, 8, 2), (8, 21, 8, 3), (8, 35, 8, 7), (8, 45, 8, 5), (8, 85, 8, 8), (8, 93, 8, 6), (8, 141, 8, 4), (9, 9, 9, 1),
  (9, 15, 9, 2), (9, 18, 9, 0), (10, 11, 10, 0), (10, 19, 10, 1), (10, 26, 10, 2), (10, 33, 10, 3), (10, 48, 10, 4), (10, 51, 10, 5), (10, 54, 10, 6), (10, 57, 10, 7), (10, 60, 10, 8), (10, 63, 10, 9),
  (10, 66, 10, 10), (10, 69, 10, 11), (10, 72, 10, 12), (10, 75, 10, 13), (10, 78, 10, 14), (10, 81, 10, 15), (10, 84, 10, 16), (10, 87, 10, 17), (10, 91, 10, 18), (11, 9, 11, 0), (11, 18, 11, 2), (11, 22, 11, 4),
  (11, 29, 11, 5), (11, 33, 11, 6), (11, 36, 11, 7), (11, 40, 11, 8), (11, 47, 11, 9), (11, 53, 11, 10), (11, 60, 11, 11), (11, 67, 11, 12), (11, 71, 11, 13), (11, 77, 11, 14), (11, 83, 11, 15), (11, 86, 11, 16),
  (11, 90, 11, 17), (11, 103, 11, 1), (11, 117, 11, 3), (12, 13, 12, 1), (12, 17, 12, 2), (12, 20, 12, 3), (12, 24, 12, 4), (12, 28, 12, 6), (12, 31, 12, 13), (12, 34, 12, 14), (12, 37, 12, 16), (12, 40, 12, 18),
  (12, 43, 12, 20), (12, 46, 12, 21), (12, 49, 12, 23), (12, 52, 12, 24), (12, 55, 12, 25), (12, 59, 12, 26), (12, 62, 12, 27), (12, 65, 12, 28), (12, 68, 12, 29), (12, 71, 12, 30), (12, 74, 12, 31), (12, 77, 12, 39),
  (12, 80, 12, 41), (12, 83, 12, 42), (12, 86, 12, 45), (12, 89, 12, 46), (12, 92, 12, 47), (12, 95, 12, 49), (12, 98, 12, 50), (12, 101, 12, 51), (12, 105, 12, 52), (12, 121, 12, 5), (12, 124, 12, 7), (12, 127, 12, 8),
  (12, 134, 12, 9), (12, 137, 12, 10), (12, 148, 12, 11), (12, 158, 12, 12), (12, 208, 12, 15), (12, 318, 12, 19), (12, 335, 12, 17), (12, 343, 12, 22), (12, 446, 12, 32), (12, 456, 12, 33), (12, 459, 12, 34), (12, 462, 12, 35),
  (12, 465, 12, 37), (12, 471, 12, 36), (12, 474, 12, 38), (12, 498, 12, 40), (12, 506, 12, 43), (12, 509, 12, 44), (12, 521, 12, 48)]
def xFn : List (Nat × Nat × Nat × Nat) := [
  (0, 47, 10, 4), (0, 60, 10, 15), (0, 66, 10, 16), (0, 121, 5, 12), (0, 133, 10, 14), (0, 168, 10, 10), (0, 177, 10, 1), (0, 181, 2, 0), (0, 186, 2, 1), (0, 196, 2, 5), (1, 43, 10, 4), (1, 56, 10, 5),
  (1, 59, 10, 1), (1, 63, 2, 0), (1, 68, 2, 1), (1, 71, 10, 2), (1, 75, 6, 0), (1, 88, 2, 5), (1, 91, 10, 0), (1, 95, 4, 0), (1, 122, 10, 9), (3, 22, 5, 10), (3, 48, 10, 15), (3, 51, 10, 16),
  (3, 62, 10, 10), (3, 80, 10, 4), (3, 83, 10, 0), (3, 87, 4, 0), (3, 92, 10, 9), (3, 106, 5, 12), (3, 138, 10, 1), (3, 142, 2, 1), (3, 147, 2, 0), (5, 52, 10, 10), (5, 63, 10, 4), (5, 76, 1, 0),
  (5, 86, 1, 1), (5, 93, 1, 4), (5, 94, 1, 3), (5, 121, 10, 15), (5, 124, 10, 16), (5, 137, 10, 0), (5, 141, 4, 0), (5, 146, 10, 9), (5, 163, 1, 2), (5, 176, 10, 14), (5, 188, 1, 5), (7, 64, 10, 9),
  (7, 67, 10, 16), (7, 70, 10, 0), (7, 74, 10, 15), (7, 77, 4, 0), (7, 119, 10, 4), (7, 125, 10, 6), (7, 156, 10, 5), (7, 159, 10, 2), (7, 163, 6, 0), (7, 168, 10, 18), (7, 191, 10, 7), (7, 193, 10, 8),
  (7, 195, 10, 10), (7, 211, 10, 14), (7, 219, 4, 1), (7, 232, 10, 1), (7, 236, 2, 0), (7, 241, 2, 1), (7, 244, 2, 2), (7, 246, 2, 3), (7, 248, 2, 4), (7, 250, 2, 5), (7, 264, 4, 2), (7, 268, 4, 3),
  (7, 270, 4, 4), (7, 272, 4, 5), (7, 275, 4, 6), (7, 284, 10, 11), (7, 289, 10, 12), (7, 294, 10, 13), (7, 300, 10, 17), (8, 39, 10, 14), (8, 52, 10, 0), (8, 56, 4, 0), (8, 65, 10, 15), (8, 72, 10, 10),
  (8, 82, 10, 16), (8, 97, 10, 4), (8, 100, 10, 18), (8, 122, 1, 0), (8, 125, 1, 2), (8, 131, 1, 4), (8, 132, 1, 3), (8, 135, 10, 9), (8, 138, 1, 1), (10, 43, 6, 0), (10, 47, 9, 0), (10, 111, 4, 0),
  (10, 118, 4, 1), (10, 121, 4, 2), (10, 124, 6, 1), (10, 128, 2, 4), (10, 135, 2, 2), (10, 142, 6, 2), (10, 145, 2, 3), (10, 148, 4, 4), (10, 164, 4, 3), (10, 167, 9, 1), (10, 169, 9, 2), (11, 120, 7, 7),
  (11, 124, 10, 6), (11, 127, 5, 9), (11, 157, 10, 3), (11, 161, 9, 0), (11, 170, 10, 0), (11, 174, 4, 3), (11, 194, 10, 4), (11, 211, 10, 2), (11, 275, 10, 9), (11, 278, 4, 0), (11, 281, 10, 10), (11, 284, 4, 2),
  (11, 301, 3, 2), (11, 304, 3, 1), (11, 317, 4, 5), (11, 320, 4, 6), (11, 332, 10, 8), (11, 338, 0, 15), (11, 345, 0, 12), (11, 359, 0, 6), (11, 381, 0, 16), (11, 384, 0, 17), (11, 408, 8, 4), (11, 411, 8, 3),
  (11, 414, 10, 5), (11, 425, 6, 0), (11, 426, 10, 15)]
def xFlC (e : Nat × Nat × Nat × Nat) : Cond := Cond.fieldLink (xo e.1) e.2.1 (xF e.2.2.1 e.2.2.2).1 (xF e.2.2.1 e.2.2.2).2.1 (xF e.2.2.1 e.2.2.2).2.2.1
def xFnC (e : Nat × Nat × Nat × Nat) : Cond := Cond.fieldLinkNest (xo e.1) e.2.1 (xF e.2.2.1 e.2.2.2).1 (xF e.2.2.1 e.2.2.2).2.1 (xF e.2.2.1 e.2.2.2).2.2.1 "LastCloud"
theorem xFl_ok : ∀ e ∈ xFl, xFlC e ∈ tables_1 := by
  have h : ∀ w ∈ xFl.map xFlC, w ∈ tables_1 := x_mem2 [36, 0, 0, 0, 0, 0, 0, 0, 1, 0, 39, 4, 1, 14, 2, 1, 13, 7, 2, 3, 3, 2, 2, 22, 4, 4, 2, 2, 2, 24, 6, 4, 3, 1, 7, 3, 2, 1, 2, 6, 6, 1, 1, 1, 5, 7, 3, 1, 48, 2, 2, 2, 2, 2, 1, 0, 0, 0, 31, 0, 1, 1, 0, 17, 0, 0, 0, 0, 0, 0, 1, 0, 0, 0, 0, 0, 1, 0, 0, 1, 1, 44, 0, 0, 0, 1, 1, 0, 0, 0, 76, 0, 0, 0, 0, 0, 0, 0, 0, 0, 0, 0, 0, 0, 0, 0, 0, 0, 428, 0, 0, 0, 0, 0, 0, 0, 0, 0, 2, 0, 0, 2, 0, 536, 0, 0, 0, 0, 0, 0, 0, 0, 0, 0, 0, 0, 0, 0, 0, 0, 0, 0, 0, 0, 0, 0, 0, 0, 0, 0, 0, 0, 0, 0, 0, 0, 0, 0, 0, 0, 0, 0, 0, 0, 0, 0, 0, 0, 0, 0, 0, 0, 0, 0, 0] [63, 64, 65, 66, 67, 68, 72, 71, 70, 69, 73, 74, 75, 77, 78, 76, 80, 79, 48, 49, 50, 51, 52, 53, 55, 56, 57, 54, 23, 24, 25, 26, 27, 28, 58, 61, 62, 59, 60, 16, 17, 18, 19, 20, 21, 22, 108, 109, 110, 111, 112, 113, 114, 115, 116, 118, 119, 120, 121, 122, 117, 11, 12, 10, 1, 2, 3, 0, 9, 5, 6, 7, 8, 4, 81, 82, 83, 84, 88, 86, 89, 87, 85, 14, 15, 13, 29, 30, 31, 32, 33, 34, 35, 36, 37, 38, 39, 40, 41, 42, 43, 44, 45, 46, 47, 90, 92, 94, 95, 96, 97, 98, 99, 100, 101, 102, 103, 104, 105, 106, 107, 91, 93, 123, 124, 125, 126, 128, 135, 136, 138, 140, 142, 143, 145, 146, 147, 148, 149, 150, 151, 152, 153, 161, 163, 164, 167, 168, 169, 171, 172, 173, 174, 127, 129, 130, 131, 132, 133, 134, 137, 141, 139, 144, 154, 155, 156, 157, 159, 158, 160, 162, 165, 166, 170] (by decide +kernel)
  exact fun e he => h _ (List.mem_map.mpr ⟨e, he, rfl⟩)
theorem xFn_ok : ∀ e ∈ xFn, xFnC e ∈ tables_1 := by
  have h : ∀ w ∈ xFn.map xFnC, w ∈ tables_1 := x_mem2 [44, 42, 0, 0, 0, 1, 1, 14, 0, 1, 1, 13, 0, 0, 0, 0, 0, 0, 1, 0, 1, 0, 0, 1, 0, 0, 1, 0, 1, 0, 1, 0, 21, 0, 0, 0, 1, 0, 0, 0, 1, 0, 1, 0, 1, 0, 1, 0, 0, 22, 0, 0, 0, 0, 0, 1, 0, 0, 0, 1, 0, 0, 1, 1, 0, 0, 0, 0, 0, 0, 1, 0, 0, 1, 0, 1, 1, 0, 1, 0, 0, 0, 0, 0, 1, 0, 0, 0, 0, 0, 1, 1, 1, 1, 0, 0, 0, 0, 1, 0, 0, 0, 0, 0, 0, 1, 0, 0, 1, 1, 0, 47, 0, 1, 0, 1, 0, 1, 0, 1, 0, 1, 37, 1, 26, 6, 3, 1, 1, 47, 1, 536, 0, 3, 0] [65, 99, 105, 134, 94, 87, 57, 34, 38, 47, 63, 70, 55, 32, 36, 59, 2, 46, 50, 12, 80, 132, 97, 103, 84, 66, 51, 13, 79, 133, 56, 37, 33, 85, 64, 111, 113, 119, 117, 101, 107, 54, 16, 82, 116, 96, 121, 78, 104, 49, 98, 11, 68, 74, 71, 60, 3, 110, 75, 76, 88, 95, 19, 58, 35, 39, 41, 43, 45, 48, 21, 25, 27, 28, 30, 90, 91, 92, 108, 93, 52, 15, 100, 86, 106, 67, 109, 112, 115, 120, 118, 81, 114, 1, 7, 14, 18, 20, 5, 44, 40, 6, 42, 26, 24, 9, 10, 0, 73, 131, 62, 8, 53, 23, 69, 61, 83, 17, 89, 22, 123, 122, 29, 31, 77, 126, 125, 124, 127, 128, 130, 129, 72, 4, 102] (by decide +kernel)
  exact fun e he => h _ (List.mem_map.mpr ⟨e, he, rfl⟩)
abbrev xMT : Type := MethodName × ByteArray × Nat × Option FieldType × Bool × Nat
def xMt_0 : List (xMT) := [
  (⟨RX0, "<init>", "()V"⟩, prog_2_method_1_code, 1, none, false, 1),
  (⟨RX0, "begin", "(LLastCloud$Sky;I)V"⟩, prog_2_method_2_code, 3, none, false, 3),
  (⟨RX0, "beginUnderAllLifts", "(LLastCloud$Sky;)V"⟩, prog_2_method_3_code, 2, none, false, 2),
  (⟨RX0, "takeOff", "(LLastCloud$Sky;)V"⟩, prog_2_method_4_code, 3, none, false, 2),
  (⟨RX0, "meetLift", "()V"⟩, prog_2_method_5_code, 1, none, false, 1),
  (⟨RX0, "drawOfHundred", "()I"⟩, prog_2_method_6_code, 1, (some .int), false, 1),
  (⟨RX0, "follow", "(LLastCloud$Plan;LLastCloud$Sky;I)V"⟩, prog_2_method_7_code, 6, none, false, 4),
  (⟨RX0, "deedBy", "(LLastCloud$Plan;)I"⟩, prog_2_method_8_code, 2, (some .int), false, 2),
  (⟨RX0, "note", "(I)V"⟩, prog_2_method_9_code, 2, none, false, 2),
  (⟨RX0, "tryDeed", "(J)Z"⟩, prog_2_method_10_code, 4, (some .boolean), false, 2),
  (⟨RX0, "tryClimb", "()Z"⟩, prog_2_method_11_code, 2, (some .boolean), false, 1),
  (⟨RX0, "tryLeg", "(II)Z"⟩, prog_2_method_12_code, 9, (some .boolean), false, 3),
  (⟨RX0, "noted", "(II)I"⟩, prog_2_method_13_code, 3, (some .int), false, 3),
  (⟨RX0, "endOf", "(I)I"⟩, prog_2_method_14_code, 2, (some .int), false, 2),
  (⟨RX0, "spreadValue", "(I)I"⟩, prog_2_method_15_code, 2, (some .int), false, 2),
  (⟨RX1, "<init>", "()V"⟩, prog_3_method_1_code, 1, none, false, 1),
  (⟨RX1, "group", "(IZ)I"⟩, prog_3_method_2_code, 2, (some .int), true, 2),
  (⟨RX1, "build", "(LLastCloud$Sky;)V"⟩, prog_3_method_3_code, 4, none, false, 2),
  (⟨RX1, "addFrom", "(LLastCloud$Sky;IZ)V"⟩, prog_3_method_4_code, 7, none, false, 4),
  (⟨RX1, "add", "(LLastCloud$Sky;IZIZ)V"⟩, prog_3_method_5_code, 12, none, false, 6)]
set_option maxRecDepth 100000 in
theorem xMc_0 : ∀ m ∈ xMt_0, Cond.code m.1 m.2.1 m.2.2.1 m.2.2.2.1 ∈ tables_1 := x_map3 (f := fun m : xMT => Cond.code m.1 m.2.1 m.2.2.1 m.2.2.2.1) [344, 75, 105, 3, 3, 23, 742, 3, 5, 3, 8, 5, 4, 6, 20, 3, 4, 10, 7, 27] [1, 15, 6, 7, 8, 9, 14, 10, 16, 11, 12, 13, 17, 18, 19, 0, 5, 2, 3, 4] [Cond.code ⟨RX1, "<init>", "()V"⟩ prog_3_method_1_code 1 none, Cond.code ⟨RX0, "<init>", "()V"⟩ prog_2_method_1_code 1 none, Cond.code ⟨RX1, "build", "(LLastCloud$Sky;)V"⟩ prog_3_method_3_code 4 none, Cond.code ⟨RX1, "addFrom", "(LLastCloud$Sky;IZ)V"⟩ prog_3_method_4_code 7 none, Cond.code ⟨RX1, "add", "(LLastCloud$Sky;IZIZ)V"⟩ prog_3_method_5_code 12 none, Cond.code ⟨RX1, "group", "(IZ)I"⟩ prog_3_method_2_code 2 (some .int), Cond.code ⟨RX0, "beginUnderAllLifts", "(LLastCloud$Sky;)V"⟩ prog_2_method_3_code 2 none, Cond.code ⟨RX0, "takeOff", "(LLastCloud$Sky;)V"⟩ prog_2_method_4_code 3 none, Cond.code ⟨RX0, "meetLift", "()V"⟩ prog_2_method_5_code 1 none, Cond.code ⟨RX0, "drawOfHundred", "()I"⟩ prog_2_method_6_code 1 (some .int), Cond.code ⟨RX0, "deedBy", "(LLastCloud$Plan;)I"⟩ prog_2_method_8_code 2 (some .int), Cond.code ⟨RX0, "tryDeed", "(J)Z"⟩ prog_2_method_10_code 4 (some .boolean), Cond.code ⟨RX0, "tryClimb", "()Z"⟩ prog_2_method_11_code 2 (some .boolean), Cond.code ⟨RX0, "tryLeg", "(II)Z"⟩ prog_2_method_12_code 9 (some .boolean), Cond.code ⟨RX0, "follow", "(LLastCloud$Plan;LLastCloud$Sky;I)V"⟩ prog_2_method_7_code 6 none, Cond.code ⟨RX0, "begin", "(LLastCloud$Sky;I)V"⟩ prog_2_method_2_code 3 none, Cond.code ⟨RX0, "note", "(I)V"⟩ prog_2_method_9_code 2 none, Cond.code ⟨RX0, "noted", "(II)I"⟩ prog_2_method_13_code 3 (some .int), Cond.code ⟨RX0, "endOf", "(I)I"⟩ prog_2_method_14_code 2 (some .int), Cond.code ⟨RX0, "spreadValue", "(I)I"⟩ prog_2_method_15_code 2 (some .int)] rfl rfl
def xMt_1 : List (xMT) := [
  (⟨RX1, "edgeAt", "(IZ)I"⟩, prog_3_method_6_code, 4, (some .int), false, 3),
  (⟨RX1, "heightAt", "(I)I"⟩, prog_3_method_7_code, 2, (some .int), false, 2),
  (⟨RX1, "speedOf", "(I)I"⟩, prog_3_method_8_code, 2, (some .int), false, 2),
  (⟨RX1, "findEdges", "(LLastCloud$Sky;Z)V"⟩, prog_3_method_9_code, 7, none, false, 3),
  (⟨RX1, "leastByHop", "(LLastCloud$Sky;IZ)I"⟩, prog_3_method_10_code, 9, (some .int), false, 4),
  (⟨RX1, "glide", "(LLastCloud$Sky;IIZ)V"⟩, prog_3_method_11_code, 8, none, false, 5),
  (⟨RX1, "raiseFrom", "(LLastCloud$Sky;II)Z"⟩, prog_3_method_12_code, 7, (some .boolean), false, 4),
  (⟨RX1, "raiseTo", "(II)Z"⟩, prog_3_method_13_code, 3, (some .boolean), false, 3),
  (⟨RX1, "longestStreet", "(LLastCloud$Sky;)I"⟩, prog_3_method_14_code, 5, (some .int), false, 2),
  (⟨RX1, "growStreets", "(II)V"⟩, prog_3_method_15_code, 6, none, false, 3),
  (⟨RX2, "<init>", "()V"⟩, prog_4_method_1_code, 1, none, false, 1),
  (⟨RX2, "copyFrom", "(LLastCloud$Leg;)V"⟩, prog_4_method_2_code, 2, none, false, 2),
  (⟨RX3, "<init>", "()V"⟩, prog_5_method_1_code, 1, none, false, 1),
  (⟨RX3, "spreadFromStart", "(LLastCloud$Plan;)V"⟩, prog_5_method_2_code, 3, none, false, 2),
  (⟨RX3, "arrive", "(II)V"⟩, prog_5_method_3_code, 3, none, false, 3),
  (⟨RX3, "mark", "(IZ)V"⟩, prog_5_method_4_code, 3, none, false, 3),
  (⟨RX3, "marksAt", "(I)I"⟩, prog_5_method_5_code, 2, (some .int), false, 2),
  (⟨RX3, "spreadFrom", "(IZ)V"⟩, prog_5_method_6_code, 6, none, false, 3),
  (⟨RX3, "follow", "(IZIIZ)V"⟩, prog_5_method_7_code, 8, none, false, 6),
  (⟨RX3, "followLeg", "(IIZII)V"⟩, prog_5_method_8_code, 12, none, false, 6)]
set_option maxRecDepth 100000 in
theorem xMc_1 : ∀ m ∈ xMt_1, Cond.code m.1 m.2.1 m.2.2.1 m.2.2.2.1 ∈ tables_1 := x_map3 (f := fun m : xMT => Cond.code m.1 m.2.1 m.2.2.1 m.2.2.2.1) [173, 221, 159, 11, 3, 349, 4, 8, 3, 22, 8, 115, 131, 10, 4, 4, 3, 3, 9, 264] [4, 8, 11, 2, 3, 5, 6, 7, 9, 10, 0, 19, 1, 12, 13, 14, 16, 15, 17, 18] [Cond.code ⟨RX2, "<init>", "()V"⟩ prog_4_method_1_code 1 none, Cond.code ⟨RX3, "<init>", "()V"⟩ prog_5_method_1_code 1 none, Cond.code ⟨RX1, "findEdges", "(LLastCloud$Sky;Z)V"⟩ prog_3_method_9_code 7 none, Cond.code ⟨RX1, "leastByHop", "(LLastCloud$Sky;IZ)I"⟩ prog_3_method_10_code 9 (some .int), Cond.code ⟨RX1, "edgeAt", "(IZ)I"⟩ prog_3_method_6_code 4 (some .int), Cond.code ⟨RX1, "glide", "(LLastCloud$Sky;IIZ)V"⟩ prog_3_method_11_code 8 none, Cond.code ⟨RX1, "raiseFrom", "(LLastCloud$Sky;II)Z"⟩ prog_3_method_12_code 7 (some .boolean), Cond.code ⟨RX1, "raiseTo", "(II)Z"⟩ prog_3_method_13_code 3 (some .boolean), Cond.code ⟨RX1, "heightAt", "(I)I"⟩ prog_3_method_7_code 2 (some .int), Cond.code ⟨RX1, "longestStreet", "(LLastCloud$Sky;)I"⟩ prog_3_method_14_code 5 (some .int), Cond.code ⟨RX1, "growStreets", "(II)V"⟩ prog_3_method_15_code 6 none, Cond.code ⟨RX1, "speedOf", "(I)I"⟩ prog_3_method_8_code 2 (some .int), Cond.code ⟨RX3, "spreadFromStart", "(LLastCloud$Plan;)V"⟩ prog_5_method_2_code 3 none, Cond.code ⟨RX3, "arrive", "(II)V"⟩ prog_5_method_3_code 3 none, Cond.code ⟨RX3, "mark", "(IZ)V"⟩ prog_5_method_4_code 3 none, Cond.code ⟨RX3, "spreadFrom", "(IZ)V"⟩ prog_5_method_6_code 6 none, Cond.code ⟨RX3, "marksAt", "(I)I"⟩ prog_5_method_5_code 2 (some .int), Cond.code ⟨RX3, "follow", "(IZIIZ)V"⟩ prog_5_method_7_code 8 none, Cond.code ⟨RX3, "followLeg", "(IIZII)V"⟩ prog_5_method_8_code 12 none, Cond.code ⟨RX2, "copyFrom", "(LLastCloud$Leg;)V"⟩ prog_4_method_2_code 2 none] rfl rfl
def xMt_2 : List (xMT) := [
  (⟨RX4, "<init>", "()V"⟩, prog_6_method_1_code, 1, none, false, 1),
  (⟨RX4, "clear", "()V"⟩, prog_6_method_2_code, 1, none, false, 1),
  (⟨RX4, "copyFrom", "(LLastCloud$Place;)V"⟩, prog_6_method_3_code, 2, none, false, 2),
  (⟨RX4, "afterSight", "(II)I"⟩, prog_6_method_4_code, 4, (some .int), false, 3),
  (⟨RX4, "bySign", "(IZI)I"⟩, prog_6_method_5_code, 6, (some .int), false, 4),
  (⟨RX5, "<init>", "()V"⟩, prog_7_method_1_code, 1, none, false, 1),
  (⟨RX5, "spot", "(IZII)I"⟩, prog_7_method_2_code, 4, (some .int), true, 4),
  (⟨RX5, "begin", "(LLastCloud$Sky;LLastCloud$Hops;I)V"⟩, prog_7_method_3_code, 6, none, false, 4),
  (⟨RX5, "leastByRule", "(IZ)I"⟩, prog_7_method_4_code, 5, (some .int), false, 3),
  (⟨RX5, "chanceAt", "(I)I"⟩, prog_7_method_5_code, 2, (some .int), false, 2),
  (⟨RX5, "setChance", "(II)V"⟩, prog_7_method_6_code, 3, none, false, 3),
  (⟨RX5, "setDryWin", "(II)V"⟩, prog_7_method_7_code, 3, none, false, 3),
  (⟨RX5, "isSpot", "(I)Z"⟩, prog_7_method_8_code, 1, (some .boolean), true, 1),
  (⟨RX5, "worthAt", "(IZ)I"⟩, prog_7_method_9_code, 3, (some .int), false, 3),
  (⟨RX5, "mixedAt", "(I)I"⟩, prog_7_method_10_code, 2, (some .int), false, 2),
  (⟨RX5, "doneAt", "(IZ)I"⟩, prog_7_method_11_code, 3, (some .int), false, 3),
  (⟨RX5, "deedAt", "(IZ)I"⟩, prog_7_method_12_code, 3, (some .int), false, 3),
  (⟨RX5, "homeAt", "(IZ)I"⟩, prog_7_method_13_code, 3, (some .int), false, 3),
  (⟨RX5, "startWorth", "(Z)I"⟩, prog_7_method_14_code, 2, (some .int), false, 2),
  (⟨RX5, "fill", "(IZ)V"⟩, prog_7_method_15_code, 4, none, false, 3)]
set_option maxRecDepth 100000 in
theorem xMc_2 : ∀ m ∈ xMt_2, Cond.code m.1 m.2.1 m.2.2.1 m.2.2.2.1 ∈ tables_1 := x_map3 (f := fun m : xMT => Cond.code m.1 m.2.1 m.2.2.1 m.2.2.2.1) [125, 92, 669, 3, 125, 55, 5, 15, 16, 3, 2, 13, 3, 3, 3, 12, 17, 33, 63, 243] [0, 1, 19, 2, 3, 4, 8, 5, 6, 14, 18, 17, 10, 11, 9, 13, 15, 12, 16, 7] [Cond.code ⟨RX4, "<init>", "()V"⟩ prog_6_method_1_code 1 none, Cond.code ⟨RX4, "clear", "()V"⟩ prog_6_method_2_code 1 none, Cond.code ⟨RX4, "afterSight", "(II)I"⟩ prog_6_method_4_code 4 (some .int), Cond.code ⟨RX4, "bySign", "(IZI)I"⟩ prog_6_method_5_code 6 (some .int), Cond.code ⟨RX5, "<init>", "()V"⟩ prog_7_method_1_code 1 none, Cond.code ⟨RX5, "begin", "(LLastCloud$Sky;LLastCloud$Hops;I)V"⟩ prog_7_method_3_code 6 none, Cond.code ⟨RX5, "leastByRule", "(IZ)I"⟩ prog_7_method_4_code 5 (some .int), Cond.code ⟨RX5, "fill", "(IZ)V"⟩ prog_7_method_15_code 4 none, Cond.code ⟨RX5, "spot", "(IZII)I"⟩ prog_7_method_2_code 4 (some .int), Cond.code ⟨RX5, "mixedAt", "(I)I"⟩ prog_7_method_10_code 2 (some .int), Cond.code ⟨RX5, "isSpot", "(I)Z"⟩ prog_7_method_8_code 1 (some .boolean), Cond.code ⟨RX5, "worthAt", "(IZ)I"⟩ prog_7_method_9_code 3 (some .int), Cond.code ⟨RX5, "homeAt", "(IZ)I"⟩ prog_7_method_13_code 3 (some .int), Cond.code ⟨RX5, "doneAt", "(IZ)I"⟩ prog_7_method_11_code 3 (some .int), Cond.code ⟨RX5, "chanceAt", "(I)I"⟩ prog_7_method_5_code 2 (some .int), Cond.code ⟨RX5, "deedAt", "(IZ)I"⟩ prog_7_method_12_code 3 (some .int), Cond.code ⟨RX5, "startWorth", "(Z)I"⟩ prog_7_method_14_code 2 (some .int), Cond.code ⟨RX5, "setDryWin", "(II)V"⟩ prog_7_method_7_code 3 none, Cond.code ⟨RX5, "setChance", "(II)V"⟩ prog_7_method_6_code 3 none, Cond.code ⟨RX4, "copyFrom", "(LLastCloud$Place;)V"⟩ prog_6_method_3_code 2 none] rfl rfl
def xMt_3 : List (xMT) := [
  (⟨RX5, "fillPeriod", "(IZ)V"⟩, prog_7_method_16_code, 7, none, false, 3),
  (⟨RX5, "bestHop", "(IZII)I"⟩, prog_7_method_17_code, 10, (some .int), false, 5),
  (⟨RX5, "behind", "(IIZI)I"⟩, prog_7_method_18_code, 6, (some .int), false, 5),
  (⟨RX5, "settle", "(IIIIIZ)V"⟩, prog_7_method_19_code, 13, none, false, 7),
  (⟨RX6, "<init>", "()V"⟩, prog_8_method_1_code, 1, none, false, 1),
  (⟨RX6, "add", "(II)V"⟩, prog_8_method_2_code, 3, none, false, 3),
  (⟨RX6, "copyFrom", "(LLastCloud$Polar;)V"⟩, prog_8_method_3_code, 2, none, false, 2),
  (⟨RX6, "fastest", "(I)I"⟩, prog_8_method_4_code, 4, (some .int), false, 2),
  (⟨RX6, "tenHours", "(II)I"⟩, prog_8_method_5_code, 4, (some .int), false, 3),
  (⟨RX6, "flattest", "()I"⟩, prog_8_method_6_code, 3, (some .int), false, 1),
  (⟨RX7, "<init>", "([B)V"⟩, prog_9_method_1_code, 2, none, false, 2),
  (⟨RX7, "readAll", "(ILLastCloud$Sky;)I"⟩, prog_9_method_2_code, 4, (some .int), false, 3),
  (⟨RX7, "splitText", "(I)V"⟩, prog_9_method_3_code, 5, none, false, 2),
  (⟨RX7, "addToken", "(III)V"⟩, prog_9_method_4_code, 4, none, false, 4),
  (⟨RX7, "kindOf", "(I)I"⟩, prog_9_method_5_code, 1, (some .int), true, 1),
  (⟨RX7, "fail", "(I)V"⟩, prog_9_method_6_code, 2, none, false, 2),
  (⟨RX7, "goOn", "()V"⟩, prog_9_method_7_code, 1, none, false, 1),
  (⟨RX7, "isWord", "(Ljava/lang/String;)Z"⟩, prog_9_method_8_code, 3, (some .boolean), false, 2),
  (⟨RX7, "takeIf", "(Ljava/lang/String;)Z"⟩, prog_9_method_9_code, 2, (some .boolean), false, 2),
  (⟨RX7, "takeWord", "(Ljava/lang/String;)V"⟩, prog_9_method_10_code, 2, none, false, 2)]
set_option maxRecDepth 100000 in
theorem xMc_3 : ∀ m ∈ xMt_3, Cond.code m.1 m.2.1 m.2.2.1 m.2.2.2.1 ∈ tables_1 := x_map3 (f := fun m : xMT => Cond.code m.1 m.2.1 m.2.2.1 m.2.2.2.1) [34, 49, 566, 4, 2, 3, 12, 61, 13, 12, 9, 41, 164, 7, 7, 101, 3, 4, 15, 401] [15, 16, 17, 18, 1, 11, 19, 12, 13, 14, 0, 2, 3, 5, 4, 7, 8, 6, 10, 9] [Cond.code ⟨RX7, "<init>", "([B)V"⟩ prog_9_method_1_code 2 none, Cond.code ⟨RX6, "<init>", "()V"⟩ prog_8_method_1_code 1 none, Cond.code ⟨RX7, "readAll", "(ILLastCloud$Sky;)I"⟩ prog_9_method_2_code 4 (some .int), Cond.code ⟨RX7, "splitText", "(I)V"⟩ prog_9_method_3_code 5 none, Cond.code ⟨RX7, "kindOf", "(I)I"⟩ prog_9_method_5_code 1 (some .int), Cond.code ⟨RX7, "addToken", "(III)V"⟩ prog_9_method_4_code 4 none, Cond.code ⟨RX7, "isWord", "(Ljava/lang/String;)Z"⟩ prog_9_method_8_code 3 (some .boolean), Cond.code ⟨RX7, "fail", "(I)V"⟩ prog_9_method_6_code 2 none, Cond.code ⟨RX7, "goOn", "()V"⟩ prog_9_method_7_code 1 none, Cond.code ⟨RX7, "takeWord", "(Ljava/lang/String;)V"⟩ prog_9_method_10_code 2 none, Cond.code ⟨RX7, "takeIf", "(Ljava/lang/String;)Z"⟩ prog_9_method_9_code 2 (some .boolean), Cond.code ⟨RX6, "add", "(II)V"⟩ prog_8_method_2_code 3 none, Cond.code ⟨RX6, "fastest", "(I)I"⟩ prog_8_method_4_code 4 (some .int), Cond.code ⟨RX6, "tenHours", "(II)I"⟩ prog_8_method_5_code 4 (some .int), Cond.code ⟨RX6, "flattest", "()I"⟩ prog_8_method_6_code 3 (some .int), Cond.code ⟨RX5, "fillPeriod", "(IZ)V"⟩ prog_7_method_16_code 7 none, Cond.code ⟨RX5, "bestHop", "(IZII)I"⟩ prog_7_method_17_code 10 (some .int), Cond.code ⟨RX5, "behind", "(IIZI)I"⟩ prog_7_method_18_code 6 (some .int), Cond.code ⟨RX5, "settle", "(IIIIIZ)V"⟩ prog_7_method_19_code 13 none, Cond.code ⟨RX6, "copyFrom", "(LLastCloud$Polar;)V"⟩ prog_8_method_3_code 2 none] rfl rfl
def xMt_4 : List (xMT) := [
  (⟨RX7, "takeNumber", "(II)I"⟩, prog_9_method_11_code, 5, (some .int), false, 3),
  (⟨RX7, "takeSigned", "(I)I"⟩, prog_9_method_12_code, 3, (some .int), false, 2),
  (⟨RX7, "takePlace", "(I)I"⟩, prog_9_method_13_code, 4, (some .int), false, 2),
  (⟨RX7, "readLine", "()V"⟩, prog_9_method_14_code, 2, none, false, 1),
  (⟨RX7, "lineKind", "()I"⟩, prog_9_method_15_code, 1, (some .int), false, 1),
  (⟨RX7, "isFull", "(I)Z"⟩, prog_9_method_16_code, 2, (some .boolean), false, 2),
  (⟨RX7, "readRest", "(I)V"⟩, prog_9_method_17_code, 2, none, false, 2),
  (⟨RX7, "readPlace", "()V"⟩, prog_9_method_18_code, 4, none, false, 1),
  (⟨RX7, "readLeg", "()V"⟩, prog_9_method_19_code, 8, none, false, 1),
  (⟨RX7, "readLift", "()V"⟩, prog_9_method_20_code, 7, none, false, 1),
  (⟨RX7, "readSpeed", "()V"⟩, prog_9_method_21_code, 3, none, false, 1),
  (⟨RX7, "readWorth", "()V"⟩, prog_9_method_22_code, 1, none, false, 1),
  (⟨RX7, "readStart", "()V"⟩, prog_9_method_23_code, 4, none, false, 1),
  (⟨RX8, "<init>", "()V"⟩, prog_10_method_1_code, 1, none, false, 1),
  (⟨RX8, "spot", "(III)I"⟩, prog_10_method_2_code, 3, (some .int), true, 3),
  (⟨RX8, "leastAt", "(I)I"⟩, prog_10_method_3_code, 2, (some .int), false, 2),
  (⟨RX8, "pointBitAt", "(I)I"⟩, prog_10_method_4_code, 2, (some .int), false, 2),
  (⟨RX8, "winsAt", "(I)I"⟩, prog_10_method_5_code, 2, (some .int), false, 2),
  (⟨RX8, "setLeast", "(II)V"⟩, prog_10_method_6_code, 3, none, false, 3),
  (⟨RX8, "fewest", "(LLastCloud$Sky;LLastCloud$Hops;I)I"⟩, prog_10_method_7_code, 6, (some .int), false, 4)]
set_option maxRecDepth 100000 in
theorem xMc_4 : ∀ m ∈ xMt_4, Cond.code m.1 m.2.1 m.2.2.1 m.2.2.2.1 ∈ tables_1 := x_map3 (f := fun m : xMT => Cond.code m.1 m.2.1 m.2.2.1 m.2.2.2.1) [486, 180, 3, 70, 13, 3, 8, 10, 3, 5, 6, 14, 8, 5, 602, 10, 3, 3, 7, 26] [6, 9, 8, 1, 2, 3, 4, 5, 7, 10, 11, 12, 13, 0, 15, 18, 17, 19, 16, 14] [Cond.code ⟨RX8, "<init>", "()V"⟩ prog_10_method_1_code 1 none, Cond.code ⟨RX7, "readLine", "()V"⟩ prog_9_method_14_code 2 none, Cond.code ⟨RX7, "lineKind", "()I"⟩ prog_9_method_15_code 1 (some .int), Cond.code ⟨RX7, "isFull", "(I)Z"⟩ prog_9_method_16_code 2 (some .boolean), Cond.code ⟨RX7, "readRest", "(I)V"⟩ prog_9_method_17_code 2 none, Cond.code ⟨RX7, "readPlace", "()V"⟩ prog_9_method_18_code 4 none, Cond.code ⟨RX7, "takeNumber", "(II)I"⟩ prog_9_method_11_code 5 (some .int), Cond.code ⟨RX7, "readLeg", "()V"⟩ prog_9_method_19_code 8 none, Cond.code ⟨RX7, "takePlace", "(I)I"⟩ prog_9_method_13_code 4 (some .int), Cond.code ⟨RX7, "takeSigned", "(I)I"⟩ prog_9_method_12_code 3 (some .int), Cond.code ⟨RX7, "readLift", "()V"⟩ prog_9_method_20_code 7 none, Cond.code ⟨RX7, "readSpeed", "()V"⟩ prog_9_method_21_code 3 none, Cond.code ⟨RX7, "readWorth", "()V"⟩ prog_9_method_22_code 1 none, Cond.code ⟨RX7, "readStart", "()V"⟩ prog_9_method_23_code 4 none, Cond.code ⟨RX8, "fewest", "(LLastCloud$Sky;LLastCloud$Hops;I)I"⟩ prog_10_method_7_code 6 (some .int), Cond.code ⟨RX8, "spot", "(III)I"⟩ prog_10_method_2_code 3 (some .int), Cond.code ⟨RX8, "setLeast", "(II)V"⟩ prog_10_method_6_code 3 none, Cond.code ⟨RX8, "pointBitAt", "(I)I"⟩ prog_10_method_4_code 2 (some .int), Cond.code ⟨RX8, "leastAt", "(I)I"⟩ prog_10_method_3_code 2 (some .int), Cond.code ⟨RX8, "winsAt", "(I)I"⟩ prog_10_method_5_code 2 (some .int)] rfl rfl
def xMt_5 : List (xMT) := [
  (⟨RX8, "begin", "(LLastCloud$Sky;LLastCloud$Hops;I)V"⟩, prog_10_method_8_code, 7, none, false, 4),
  (⟨RX8, "fillPeriods", "(I)V"⟩, prog_10_method_9_code, 6, none, false, 2),
  (⟨RX8, "leastByHops", "(III)I"⟩, prog_10_method_10_code, 9, (some .int), false, 4),
  (⟨RX8, "behind", "(III)I"⟩, prog_10_method_11_code, 5, (some .int), false, 4),
  (⟨RX8, "walk", "(I)V"⟩, prog_10_method_12_code, 9, none, false, 2),
  (⟨RX8, "firstHop", "(IIII)I"⟩, prog_10_method_13_code, 7, (some .int), false, 5),
  (⟨RX8, "addToWay", "(I)V"⟩, prog_10_method_14_code, 2, none, false, 2),
  (⟨RX9, "<init>", "()V"⟩, prog_11_method_1_code, 1, none, false, 1),
  (⟨RX9, "add", "(II)V"⟩, prog_11_method_2_code, 3, none, false, 3),
  (⟨RX9, "copyFrom", "(LLastCloud$Sights;)V"⟩, prog_11_method_3_code, 2, none, false, 2),
  (⟨RX10, "<init>", "()V"⟩, prog_12_method_1_code, 2, none, false, 1),
  (⟨RX10, "clear", "()V"⟩, prog_12_method_2_code, 2, none, false, 1),
  (⟨RX10, "copyFrom", "(LLastCloud$Sky;)V"⟩, prog_12_method_3_code, 3, none, false, 2),
  (⟨RX10, "hasPlace", "(I)Z"⟩, prog_12_method_4_code, 2, (some .boolean), false, 2),
  (⟨RX10, "hasLeg", "(I)Z"⟩, prog_12_method_5_code, 2, (some .boolean), false, 2),
  (⟨RX10, "hasSpeed", "(I)Z"⟩, prog_12_method_6_code, 2, (some .boolean), false, 2),
  (⟨RX10, "hasSpot", "(II)Z"⟩, prog_12_method_7_code, 3, (some .boolean), false, 3),
  (⟨RX10, "hasState", "(IIIZ)Z"⟩, prog_12_method_8_code, 5, (some .boolean), false, 5),
  (⟨RX10, "hasStart", "()Z"⟩, prog_12_method_9_code, 1, (some .boolean), false, 1),
  (⟨RX10, "startsWet", "()Z"⟩, prog_12_method_10_code, 1, (some .boolean), false, 1)]
set_option maxRecDepth 100000 in
theorem xMc_5 : ∀ m ∈ xMt_5, Cond.code m.1 m.2.1 m.2.2.1 m.2.2.2.1 ∈ tables_1 := x_map3 (f := fun m : xMT => Cond.code m.1 m.2.1 m.2.2.1 m.2.2.2.1) [74, 31, 107, 593, 24, 17, 3, 44, 16, 91, 163, 260, 18, 7, 4, 9, 3, 8, 25, 18] [11, 12, 13, 14, 15, 17, 16, 1, 7, 19, 0, 2, 18, 3, 5, 6, 8, 9, 4, 10] [Cond.code ⟨RX10, "<init>", "()V"⟩ prog_12_method_1_code 2 none, Cond.code ⟨RX9, "<init>", "()V"⟩ prog_11_method_1_code 1 none, Cond.code ⟨RX10, "clear", "()V"⟩ prog_12_method_2_code 2 none, Cond.code ⟨RX10, "hasPlace", "(I)Z"⟩ prog_12_method_4_code 2 (some .boolean), Cond.code ⟨RX10, "hasStart", "()Z"⟩ prog_12_method_9_code 1 (some .boolean), Cond.code ⟨RX10, "hasLeg", "(I)Z"⟩ prog_12_method_5_code 2 (some .boolean), Cond.code ⟨RX10, "hasSpeed", "(I)Z"⟩ prog_12_method_6_code 2 (some .boolean), Cond.code ⟨RX9, "add", "(II)V"⟩ prog_11_method_2_code 3 none, Cond.code ⟨RX10, "hasSpot", "(II)Z"⟩ prog_12_method_7_code 3 (some .boolean), Cond.code ⟨RX10, "hasState", "(IIIZ)Z"⟩ prog_12_method_8_code 5 (some .boolean), Cond.code ⟨RX10, "startsWet", "()Z"⟩ prog_12_method_10_code 1 (some .boolean), Cond.code ⟨RX8, "begin", "(LLastCloud$Sky;LLastCloud$Hops;I)V"⟩ prog_10_method_8_code 7 none, Cond.code ⟨RX8, "fillPeriods", "(I)V"⟩ prog_10_method_9_code 6 none, Cond.code ⟨RX8, "leastByHops", "(III)I"⟩ prog_10_method_10_code 9 (some .int), Cond.code ⟨RX8, "behind", "(III)I"⟩ prog_10_method_11_code 5 (some .int), Cond.code ⟨RX8, "walk", "(I)V"⟩ prog_10_method_12_code 9 none, Cond.code ⟨RX8, "addToWay", "(I)V"⟩ prog_10_method_14_code 2 none, Cond.code ⟨RX8, "firstHop", "(IIII)I"⟩ prog_10_method_13_code 7 (some .int), Cond.code ⟨RX10, "copyFrom", "(LLastCloud$Sky;)V"⟩ prog_12_method_3_code 3 none, Cond.code ⟨RX9, "copyFrom", "(LLastCloud$Sights;)V"⟩ prog_11_method_3_code 2 none] rfl rfl
def xMt_6 : List (xMT) := [
  (⟨RX10, "isToLandAt", "(I)Z"⟩, prog_12_method_11_code, 2, (some .boolean), false, 2),
  (⟨RX10, "allPlaces", "()I"⟩, prog_12_method_12_code, 1, (some .int), false, 1),
  (⟨RX10, "liftBits", "()I"⟩, prog_12_method_13_code, 3, (some .int), false, 1),
  (⟨RX10, "overGround", "(IZIZ)I"⟩, prog_12_method_14_code, 6, (some .int), false, 5),
  (⟨RX10, "takes", "(IZIZ)I"⟩, prog_12_method_15_code, 6, (some .int), false, 5),
  (⟨RX10, "loses", "(IZIZ)I"⟩, prog_12_method_16_code, 6, (some .int), false, 5),
  (⟨RX10, "wins", "(IZ)I"⟩, prog_12_method_17_code, 3, (some .int), false, 3),
  (⟨RX10, "winsBy", "(IZ)I"⟩, prog_12_method_18_code, 4, (some .int), false, 3),
  (⟨RX10, "capped", "(I)I"⟩, prog_12_method_19_code, 2, (some .int), false, 2),
  (⟨RX10, "chanceNow", "(I)I"⟩, prog_12_method_20_code, 4, (some .int), false, 2),
  (⟨RX10, "fastSpeedTo", "(I)I"⟩, prog_12_method_21_code, 3, (some .int), false, 2),
  (⟨RX10, "landingWorth", "(III)I"⟩, prog_12_method_22_code, 5, (some .int), false, 4),
  (⟨RX11, "<init>", "()V"⟩, prog_1_method_1_code, 2, none, false, 1),
  (⟨RX11, "feed", "(IIIII)I"⟩, prog_1_method_2_code, 6, (some .int), false, 6),
  (⟨RX11, "putNumber", "(I)V"⟩, prog_1_method_3_code, 3, none, false, 2),
  (⟨RX11, "end", "(I)I"⟩, prog_1_method_4_code, 2, (some .int), false, 2),
  (⟨RX11, "sky", "()I"⟩, prog_1_method_5_code, 2, (some .int), false, 1),
  (⟨RX11, "fault", "(I)I"⟩, prog_1_method_6_code, 2, (some .int), false, 2),
  (⟨RX11, "forgetPlans", "()V"⟩, prog_1_method_7_code, 2, none, false, 1),
  (⟨RX11, "periods", "(IZIZ)I"⟩, prog_1_method_8_code, 5, (some .int), false, 5)]
set_option maxRecDepth 100000 in
theorem xMc_6 : ∀ m ∈ xMt_6, Cond.code m.1 m.2.1 m.2.2.1 m.2.2.2.1 ∈ tables_1 := x_map3 (f := fun m : xMT => Cond.code m.1 m.2.1 m.2.2.1 m.2.2.2.1) [26, 511, 3, 3, 15, 71, 3, 3, 3, 154, 37, 3, 3, 23, 3, 8, 45, 35, 124, 37] [4, 17, 9, 2, 1, 3, 13, 14, 16, 15, 18, 19, 0, 5, 6, 7, 8, 11, 10, 12] [Cond.code ⟨RX11, "<init>", "()V"⟩ prog_1_method_1_code 2 none, Cond.code ⟨RX10, "takes", "(IZIZ)I"⟩ prog_12_method_15_code 6 (some .int), Cond.code ⟨RX10, "overGround", "(IZIZ)I"⟩ prog_12_method_14_code 6 (some .int), Cond.code ⟨RX10, "loses", "(IZIZ)I"⟩ prog_12_method_16_code 6 (some .int), Cond.code ⟨RX10, "isToLandAt", "(I)Z"⟩ prog_12_method_11_code 2 (some .boolean), Cond.code ⟨RX11, "feed", "(IIIII)I"⟩ prog_1_method_2_code 6 (some .int), Cond.code ⟨RX11, "putNumber", "(I)V"⟩ prog_1_method_3_code 3 none, Cond.code ⟨RX11, "end", "(I)I"⟩ prog_1_method_4_code 2 (some .int), Cond.code ⟨RX11, "sky", "()I"⟩ prog_1_method_5_code 2 (some .int), Cond.code ⟨RX10, "liftBits", "()I"⟩ prog_12_method_13_code 3 (some .int), Cond.code ⟨RX11, "forgetPlans", "()V"⟩ prog_1_method_7_code 2 none, Cond.code ⟨RX11, "fault", "(I)I"⟩ prog_1_method_6_code 2 (some .int), Cond.code ⟨RX11, "periods", "(IZIZ)I"⟩ prog_1_method_8_code 5 (some .int), Cond.code ⟨RX10, "wins", "(IZ)I"⟩ prog_12_method_17_code 3 (some .int), Cond.code ⟨RX10, "winsBy", "(IZ)I"⟩ prog_12_method_18_code 4 (some .int), Cond.code ⟨RX10, "chanceNow", "(I)I"⟩ prog_12_method_20_code 4 (some .int), Cond.code ⟨RX10, "capped", "(I)I"⟩ prog_12_method_19_code 2 (some .int), Cond.code ⟨RX10, "allPlaces", "()I"⟩ prog_12_method_12_code 1 (some .int), Cond.code ⟨RX10, "fastSpeedTo", "(I)I"⟩ prog_12_method_21_code 3 (some .int), Cond.code ⟨RX10, "landingWorth", "(III)I"⟩ prog_12_method_22_code 5 (some .int)] rfl rfl
def xMt_7 : List (xMT) := [
  (⟨RX11, "loss", "(IZIZ)I"⟩, prog_1_method_9_code, 5, (some .int), false, 5),
  (⟨RX11, "climb", "(IZ)I"⟩, prog_1_method_10_code, 3, (some .int), false, 3),
  (⟨RX11, "chance", "(I)I"⟩, prog_1_method_11_code, 2, (some .int), false, 2),
  (⟨RX11, "sight", "(II)I"⟩, prog_1_method_12_code, 3, (some .int), false, 3),
  (⟨RX11, "unsee", "(I)I"⟩, prog_1_method_13_code, 2, (some .int), false, 2),
  (⟨RX11, "sign", "(IZ)I"⟩, prog_1_method_14_code, 4, (some .int), false, 3),
  (⟨RX11, "reach", "(IIIZ)I"⟩, prog_1_method_15_code, 5, (some .int), false, 5),
  (⟨RX11, "fields", "(IIZ)I"⟩, prog_1_method_16_code, 6, (some .int), false, 4),
  (⟨RX11, "edge", "(IZ)I"⟩, prog_1_method_17_code, 4, (some .int), false, 3),
  (⟨RX11, "tour", "(IIZ)I"⟩, prog_1_method_18_code, 7, (some .int), false, 4),
  (⟨RX11, "street", "()I"⟩, prog_1_method_19_code, 1, (some .int), false, 1),
  (⟨RX11, "fast", "(I)I"⟩, prog_1_method_20_code, 2, (some .int), false, 2),
  (⟨RX11, "average", "(I)I"⟩, prog_1_method_21_code, 3, (some .int), false, 2),
  (⟨RX11, "isClimb", "(I)Z"⟩, prog_1_method_22_code, 1, (some .boolean), true, 1),
  (⟨RX11, "farthest", "()I"⟩, prog_1_method_23_code, 1, (some .int), false, 1),
  (⟨RX11, "worth", "(IIIIZZ)I"⟩, prog_1_method_24_code, 8, (some .int), false, 7),
  (⟨RX11, "deed", "(IIIIZZ)I"⟩, prog_1_method_25_code, 8, (some .int), false, 7),
  (⟨RX11, "home", "(IIIIZZ)I"⟩, prog_1_method_26_code, 8, (some .int), false, 7),
  (⟨RX11, "isRule", "(I)Z"⟩, prog_1_method_27_code, 1, (some .boolean), true, 1),
  (⟨RX11, "planOf", "(I)LLastCloud$Plan;"⟩, prog_1_method_28_code, 3, (some (.object "LastCloud$Plan")), false, 2)]
set_option maxRecDepth 100000 in
theorem xMc_7 : ∀ m ∈ xMt_7, Cond.code m.1 m.2.1 m.2.2.1 m.2.2.2.1 ∈ tables_1 := x_map3 (f := fun m : xMT => Cond.code m.1 m.2.1 m.2.2.1 m.2.2.2.1) [860, 5, 13, 15, 7, 3, 4, 29, 4, 5, 3, 16, 2, 7, 7, 7, 2, 8, 140, 7] [0, 1, 2, 3, 4, 5, 6, 7, 8, 9, 10, 11, 13, 12, 14, 15, 18, 19, 16, 17] [Cond.code ⟨RX11, "loss", "(IZIZ)I"⟩ prog_1_method_9_code 5 (some .int), Cond.code ⟨RX11, "climb", "(IZ)I"⟩ prog_1_method_10_code 3 (some .int), Cond.code ⟨RX11, "chance", "(I)I"⟩ prog_1_method_11_code 2 (some .int), Cond.code ⟨RX11, "sight", "(II)I"⟩ prog_1_method_12_code 3 (some .int), Cond.code ⟨RX11, "unsee", "(I)I"⟩ prog_1_method_13_code 2 (some .int), Cond.code ⟨RX11, "sign", "(IZ)I"⟩ prog_1_method_14_code 4 (some .int), Cond.code ⟨RX11, "reach", "(IIIZ)I"⟩ prog_1_method_15_code 5 (some .int), Cond.code ⟨RX11, "fields", "(IIZ)I"⟩ prog_1_method_16_code 6 (some .int), Cond.code ⟨RX11, "edge", "(IZ)I"⟩ prog_1_method_17_code 4 (some .int), Cond.code ⟨RX11, "tour", "(IIZ)I"⟩ prog_1_method_18_code 7 (some .int), Cond.code ⟨RX11, "street", "()I"⟩ prog_1_method_19_code 1 (some .int), Cond.code ⟨RX11, "fast", "(I)I"⟩ prog_1_method_20_code 2 (some .int), Cond.code ⟨RX11, "isClimb", "(I)Z"⟩ prog_1_method_22_code 1 (some .boolean), Cond.code ⟨RX11, "average", "(I)I"⟩ prog_1_method_21_code 3 (some .int), Cond.code ⟨RX11, "farthest", "()I"⟩ prog_1_method_23_code 1 (some .int), Cond.code ⟨RX11, "worth", "(IIIIZZ)I"⟩ prog_1_method_24_code 8 (some .int), Cond.code ⟨RX11, "isRule", "(I)Z"⟩ prog_1_method_27_code 1 (some .boolean), Cond.code ⟨RX11, "planOf", "(I)LLastCloud$Plan;"⟩ prog_1_method_28_code 3 (some (.object "LastCloud$Plan")), Cond.code ⟨RX11, "deed", "(IIIIZZ)I"⟩ prog_1_method_25_code 8 (some .int), Cond.code ⟨RX11, "home", "(IIIIZZ)I"⟩ prog_1_method_26_code 8 (some .int)] rfl rfl
def xMt_8 : List (xMT) := [
  (⟨RX11, "trialPlan", "()LLastCloud$Plan;"⟩, prog_1_method_29_code, 1, (some (.object "LastCloud$Plan")), false, 1),
  (⟨RX11, "start", "(I)I"⟩, prog_1_method_30_code, 2, (some .int), false, 2),
  (⟨RX11, "cost", "(I)I"⟩, prog_1_method_31_code, 3, (some .int), false, 2),
  (⟨RX11, "leave", "(IIZ)I"⟩, prog_1_method_32_code, 4, (some .int), false, 4),
  (⟨RX11, "on", "(IIZ)I"⟩, prog_1_method_33_code, 4, (some .int), false, 4),
  (⟨RX11, "leastToLeave", "(IIZZ)I"⟩, prog_1_method_34_code, 7, (some .int), false, 5),
  (⟨RX11, "last", "(II)I"⟩, prog_1_method_35_code, 5, (some .int), false, 3),
  (⟨RX11, "weak", "(III)I"⟩, prog_1_method_36_code, 7, (some .int), false, 4),
  (⟨RX11, "ends", "(IZ)I"⟩, prog_1_method_37_code, 4, (some .int), false, 3),
  (⟨RX11, "share", "(I)I"⟩, prog_1_method_38_code, 2, (some .int), false, 2),
  (⟨RX11, "known", "(I)I"⟩, prog_1_method_39_code, 5, (some .int), false, 2),
  (⟨RX11, "hawk", "(I)I"⟩, prog_1_method_40_code, 7, (some .int), false, 2),
  (⟨RX11, "startWorthWith", "(II)I"⟩, prog_1_method_41_code, 4, (some .int), false, 3),
  (⟨RX11, "bestStartWorth", "()I"⟩, prog_1_method_42_code, 1, (some .int), false, 1),
  (⟨RX11, "mixed", "(III)I"⟩, prog_1_method_43_code, 3, (some .int), true, 3),
  (⟨RX11, "water", "()I"⟩, prog_1_method_44_code, 2, (some .int), false, 1),
  (⟨RX11, "drop", "()I"⟩, prog_1_method_45_code, 4, (some .int), false, 1),
  (⟨RX11, "fly", "(II)I"⟩, prog_1_method_46_code, 3, (some .int), false, 3),
  (⟨RX11, "isSeed", "(I)Z"⟩, prog_1_method_47_code, 1, (some .boolean), true, 1),
  (⟨RX11, "flyOnce", "(LLastCloud$Flight;II)V"⟩, prog_1_method_48_code, 5, none, false, 4)]
set_option maxRecDepth 100000 in
theorem xMc_8 : ∀ m ∈ xMt_8, Cond.code m.1 m.2.1 m.2.2.1 m.2.2.2.1 ∈ tables_1 := x_map3 (f := fun m : xMT => Cond.code m.1 m.2.1 m.2.2.1 m.2.2.2.1) [1149, 18, 13, 3, 3, 3, 3, 3, 3, 8, 50, 3, 8, 3, 4, 4, 3, 53, 2, 4] [8, 1, 2, 3, 5, 4, 6, 7, 9, 10, 13, 14, 11, 12, 0, 15, 16, 17, 18, 19] [Cond.code ⟨RX11, "mixed", "(III)I"⟩ prog_1_method_43_code 3 (some .int), Cond.code ⟨RX11, "start", "(I)I"⟩ prog_1_method_30_code 2 (some .int), Cond.code ⟨RX11, "cost", "(I)I"⟩ prog_1_method_31_code 3 (some .int), Cond.code ⟨RX11, "leave", "(IIZ)I"⟩ prog_1_method_32_code 4 (some .int), Cond.code ⟨RX11, "leastToLeave", "(IIZZ)I"⟩ prog_1_method_34_code 7 (some .int), Cond.code ⟨RX11, "on", "(IIZ)I"⟩ prog_1_method_33_code 4 (some .int), Cond.code ⟨RX11, "last", "(II)I"⟩ prog_1_method_35_code 5 (some .int), Cond.code ⟨RX11, "weak", "(III)I"⟩ prog_1_method_36_code 7 (some .int), Cond.code ⟨RX11, "trialPlan", "()LLastCloud$Plan;"⟩ prog_1_method_29_code 1 (some (.object "LastCloud$Plan")), Cond.code ⟨RX11, "ends", "(IZ)I"⟩ prog_1_method_37_code 4 (some .int), Cond.code ⟨RX11, "share", "(I)I"⟩ prog_1_method_38_code 2 (some .int), Cond.code ⟨RX11, "startWorthWith", "(II)I"⟩ prog_1_method_41_code 4 (some .int), Cond.code ⟨RX11, "bestStartWorth", "()I"⟩ prog_1_method_42_code 1 (some .int), Cond.code ⟨RX11, "known", "(I)I"⟩ prog_1_method_39_code 5 (some .int), Cond.code ⟨RX11, "hawk", "(I)I"⟩ prog_1_method_40_code 7 (some .int), Cond.code ⟨RX11, "water", "()I"⟩ prog_1_method_44_code 2 (some .int), Cond.code ⟨RX11, "drop", "()I"⟩ prog_1_method_45_code 4 (some .int), Cond.code ⟨RX11, "fly", "(II)I"⟩ prog_1_method_46_code 3 (some .int), Cond.code ⟨RX11, "isSeed", "(I)Z"⟩ prog_1_method_47_code 1 (some .boolean), Cond.code ⟨RX11, "flyOnce", "(LLastCloud$Flight;II)V"⟩ prog_1_method_48_code 5 none] rfl rfl
def xMt_9 : List (xMT) := [
  (⟨RX11, "flown", "(II)I"⟩, prog_1_method_49_code, 3, (some .int), false, 3),
  (⟨RX11, "landed", "(I)I"⟩, prog_1_method_50_code, 2, (some .int), false, 2),
  (⟨RX11, "judge", "(II)I"⟩, prog_1_method_51_code, 5, (some .int), false, 3),
  (⟨RX11, "flights", "(III)I"⟩, prog_1_method_52_code, 6, (some .int), false, 4),
  (⟨RX11, "areFlights", "(III)Z"⟩, prog_1_method_53_code, 4, (some .boolean), false, 4),
  (⟨RX11, "sum", "(III)I"⟩, prog_1_method_54_code, 6, (some .int), false, 4),
  (⟨RX11, "spread", "(IIII)I"⟩, prog_1_method_55_code, 8, (some .int), false, 5),
  (⟨RX11, "soon", "()I"⟩, prog_1_method_56_code, 1, (some .int), false, 1),
  (⟨RX11, "way", "(I)I"⟩, prog_1_method_57_code, 3, (some .int), false, 2),
  (⟨RX11, "soonest", "(I)I"⟩, prog_1_method_58_code, 2, (some .int), false, 2),
  (⟨RX11, "key", "()I"⟩, prog_1_method_59_code, 7, (some .int), false, 1),
  (⟨RX11, "count", "(I)I"⟩, prog_1_method_60_code, 2, (some .int), false, 2),
  (⟨RX11, "slotsWithRow", "()I"⟩, prog_1_method_61_code, 3, (some .int), false, 1),
  (⟨RX11, "keep", "(I)I"⟩, prog_1_method_62_code, 2, (some .int), false, 2),
  (⟨RX11, "back", "(I)I"⟩, prog_1_method_63_code, 2, (some .int), false, 2),
  (⟨RX11, "isSlot", "(I)Z"⟩, prog_1_method_64_code, 1, (some .boolean), true, 1),
  (⟨RX11, "row", "(III)I"⟩, prog_1_method_65_code, 4, (some .int), false, 4),
  (⟨RX11, "write", "(IIJ)I"⟩, prog_1_method_66_code, 5, (some .int), false, 4),
  (⟨RX11, "cutTo", "(IJ)J"⟩, prog_1_method_67_code, 3, (some .long), true, 2),
  (⟨RX11, "paste", "(IIIII)I"⟩, prog_1_method_68_code, 6, (some .int), false, 6)]
set_option maxRecDepth 100000 in
theorem xMc_9 : ∀ m ∈ xMt_9, Cond.code m.1 m.2.1 m.2.2.1 m.2.2.2.1 ∈ tables_1 := x_map3 (f := fun m : xMT => Cond.code m.1 m.2.1 m.2.2.1 m.2.2.2.1) [1379, 7, 7, 2, 4, 3, 3, 3, 9, 46, 20, 3, 3, 5, 3, 27, 3, 6, 2, 3] [0, 1, 2, 4, 5, 6, 7, 8, 9, 10, 11, 12, 13, 14, 15, 3, 16, 17, 18, 19] [Cond.code ⟨RX11, "flown", "(II)I"⟩ prog_1_method_49_code 3 (some .int), Cond.code ⟨RX11, "landed", "(I)I"⟩ prog_1_method_50_code 2 (some .int), Cond.code ⟨RX11, "judge", "(II)I"⟩ prog_1_method_51_code 5 (some .int), Cond.code ⟨RX11, "isSlot", "(I)Z"⟩ prog_1_method_64_code 1 (some .boolean), Cond.code ⟨RX11, "flights", "(III)I"⟩ prog_1_method_52_code 6 (some .int), Cond.code ⟨RX11, "areFlights", "(III)Z"⟩ prog_1_method_53_code 4 (some .boolean), Cond.code ⟨RX11, "sum", "(III)I"⟩ prog_1_method_54_code 6 (some .int), Cond.code ⟨RX11, "spread", "(IIII)I"⟩ prog_1_method_55_code 8 (some .int), Cond.code ⟨RX11, "soon", "()I"⟩ prog_1_method_56_code 1 (some .int), Cond.code ⟨RX11, "way", "(I)I"⟩ prog_1_method_57_code 3 (some .int), Cond.code ⟨RX11, "soonest", "(I)I"⟩ prog_1_method_58_code 2 (some .int), Cond.code ⟨RX11, "key", "()I"⟩ prog_1_method_59_code 7 (some .int), Cond.code ⟨RX11, "count", "(I)I"⟩ prog_1_method_60_code 2 (some .int), Cond.code ⟨RX11, "slotsWithRow", "()I"⟩ prog_1_method_61_code 3 (some .int), Cond.code ⟨RX11, "keep", "(I)I"⟩ prog_1_method_62_code 2 (some .int), Cond.code ⟨RX11, "back", "(I)I"⟩ prog_1_method_63_code 2 (some .int), Cond.code ⟨RX11, "row", "(III)I"⟩ prog_1_method_65_code 4 (some .int), Cond.code ⟨RX11, "write", "(IIJ)I"⟩ prog_1_method_66_code 5 (some .int), Cond.code ⟨RX11, "cutTo", "(IJ)J"⟩ prog_1_method_67_code 3 (some .long), Cond.code ⟨RX11, "paste", "(IIIII)I"⟩ prog_1_method_68_code 6 (some .int)] rfl rfl
def xMt_10 : List (xMT) := [
  (⟨RX11, "isPart", "(III)Z"⟩, prog_1_method_69_code, 3, (some .boolean), true, 3),
  (⟨RX12, "in", "(JJJ)Z"⟩, prog_14_method_2_code, 6, (some .boolean), true, 3),
  (⟨RX12, "holds", "(II)Z"⟩, prog_14_method_3_code, 2, (some .boolean), true, 2),
  (⟨RX12, "<init>", "()V"⟩, prog_14_method_4_code, 1, none, false, 1),
  (⟨RX12, "empties", "([I)V"⟩, prog_14_method_5_code, 2, none, true, 1),
  (⟨RX12, "keep", "(I)I"⟩, prog_14_method_6_code, 3, (some .int), false, 2),
  (⟨RX12, "back", "(I)I"⟩, prog_14_method_7_code, 3, (some .int), false, 2),
  (⟨RX12, "isPlace", "(I)Z"⟩, prog_14_method_8_code, 2, (some .boolean), false, 2),
  (⟨RX12, "ofPlace", "(II)I"⟩, prog_14_method_9_code, 3, (some .int), false, 3),
  (⟨RX12, "ofLeg", "(II)I"⟩, prog_14_method_10_code, 3, (some .int), false, 3),
  (⟨RX12, "feed", "(IIIII)I"⟩, prog_14_method_11_code, 7, (some .int), false, 6),
  (⟨RX12, "end", "(I)I"⟩, prog_14_method_12_code, 2, (some .int), false, 2),
  (⟨RX12, "see", "(I)I"⟩, prog_14_method_13_code, 2, (some .int), false, 2),
  (⟨RX12, "advance", "()V"⟩, prog_14_method_14_code, 2, none, false, 1),
  (⟨RX12, "good", "()Z"⟩, prog_14_method_15_code, 1, (some .boolean), false, 1),
  (⟨RX12, "errs", "(I)V"⟩, prog_14_method_16_code, 2, none, false, 2),
  (⟨RX12, "is", "(Ljava/lang/String;)Z"⟩, prog_14_method_17_code, 4, (some .boolean), false, 2),
  (⟨RX12, "takes", "(Ljava/lang/String;)Z"⟩, prog_14_method_18_code, 3, (some .boolean), false, 2),
  (⟨RX12, "needs", "(Ljava/lang/String;)V"⟩, prog_14_method_19_code, 2, none, false, 2),
  (⟨RX12, "number", "(II)I"⟩, prog_14_method_20_code, 4, (some .int), false, 3)]
set_option maxRecDepth 100000 in
theorem xMc_10 : ∀ m ∈ xMt_10, Cond.code m.1 m.2.1 m.2.2.1 m.2.2.2.1 ∈ tables_1 := x_map3 (f := fun m : xMT => Cond.code m.1 m.2.1 m.2.2.1 m.2.2.2.1) [1560, 5, 4, 166, 3, 3, 3, 3, 11, 3, 9, 12, 15, 2, 10, 8, 3, 46, 20, 16] [0, 4, 13, 1, 2, 3, 5, 19, 17, 18, 6, 7, 9, 8, 10, 12, 11, 16, 15, 14] [Cond.code ⟨RX11, "isPart", "(III)Z"⟩ prog_1_method_69_code 3 (some .boolean), Cond.code ⟨RX12, "<init>", "()V"⟩ prog_14_method_4_code 1 none, Cond.code ⟨RX12, "empties", "([I)V"⟩ prog_14_method_5_code 2 none, Cond.code ⟨RX12, "keep", "(I)I"⟩ prog_14_method_6_code 3 (some .int), Cond.code ⟨RX12, "in", "(JJJ)Z"⟩ prog_14_method_2_code 6 (some .boolean), Cond.code ⟨RX12, "back", "(I)I"⟩ prog_14_method_7_code 3 (some .int), Cond.code ⟨RX12, "feed", "(IIIII)I"⟩ prog_14_method_11_code 7 (some .int), Cond.code ⟨RX12, "end", "(I)I"⟩ prog_14_method_12_code 2 (some .int), Cond.code ⟨RX12, "advance", "()V"⟩ prog_14_method_14_code 2 none, Cond.code ⟨RX12, "see", "(I)I"⟩ prog_14_method_13_code 2 (some .int), Cond.code ⟨RX12, "good", "()Z"⟩ prog_14_method_15_code 1 (some .boolean), Cond.code ⟨RX12, "is", "(Ljava/lang/String;)Z"⟩ prog_14_method_17_code 4 (some .boolean), Cond.code ⟨RX12, "errs", "(I)V"⟩ prog_14_method_16_code 2 none, Cond.code ⟨RX12, "holds", "(II)Z"⟩ prog_14_method_3_code 2 (some .boolean), Cond.code ⟨RX12, "number", "(II)I"⟩ prog_14_method_20_code 4 (some .int), Cond.code ⟨RX12, "needs", "(Ljava/lang/String;)V"⟩ prog_14_method_19_code 2 none, Cond.code ⟨RX12, "takes", "(Ljava/lang/String;)Z"⟩ prog_14_method_18_code 3 (some .boolean), Cond.code ⟨RX12, "ofPlace", "(II)I"⟩ prog_14_method_9_code 3 (some .int), Cond.code ⟨RX12, "ofLeg", "(II)I"⟩ prog_14_method_10_code 3 (some .int), Cond.code ⟨RX12, "isPlace", "(I)Z"⟩ prog_14_method_8_code 2 (some .boolean)] rfl rfl
def xMt_11 : List (xMT) := [
  (⟨RX12, "told", "(Ljava/lang/String;II)I"⟩, prog_14_method_21_code, 4, (some .int), false, 4),
  (⟨RX12, "fault", "(I)I"⟩, prog_14_method_22_code, 2, (some .int), false, 2),
  (⟨RX12, "place", "()I"⟩, prog_14_method_23_code, 1, (some .int), false, 1),
  (⟨RX12, "signed", "(I)I"⟩, prog_14_method_24_code, 3, (some .int), false, 2),
  (⟨RX12, "readPlace", "()V"⟩, prog_14_method_25_code, 2, none, false, 1),
  (⟨RX12, "readLeg", "()V"⟩, prog_14_method_26_code, 2, none, false, 1),
  (⟨RX12, "readLift", "()V"⟩, prog_14_method_27_code, 4, none, false, 1),
  (⟨RX12, "readPoint", "()V"⟩, prog_14_method_28_code, 2, none, false, 1),
  (⟨RX12, "readStart", "()V"⟩, prog_14_method_29_code, 3, none, false, 1),
  (⟨RX12, "ones", "(I)I"⟩, prog_14_method_30_code, 3, (some .int), true, 1),
  (⟨RX12, "onceHere", "()I"⟩, prog_14_method_31_code, 1, (some .int), false, 1),
  (⟨RX12, "readOnce", "(I)V"⟩, prog_14_method_32_code, 2, none, false, 2),
  (⟨RX12, "readLine", "()V"⟩, prog_14_method_33_code, 3, none, false, 1),
  (⟨RX12, "sky", "()I"⟩, prog_14_method_34_code, 2, (some .int), false, 1),
  (⟨RX12, "isLeg", "(I)Z"⟩, prog_14_method_35_code, 2, (some .boolean), false, 2),
  (⟨RX12, "isSpeed", "(I)Z"⟩, prog_14_method_36_code, 2, (some .boolean), false, 2),
  (⟨RX12, "periodsOf", "(IZIZ)I"⟩, prog_14_method_37_code, 7, (some .int), false, 5),
  (⟨RX12, "lossOf", "(III)I"⟩, prog_14_method_38_code, 4, (some .int), false, 4),
  (⟨RX12, "periods", "(IZIZ)I"⟩, prog_14_method_39_code, 5, (some .int), false, 5),
  (⟨RX12, "loss", "(IZIZ)I"⟩, prog_14_method_40_code, 6, (some .int), false, 5)]
set_option maxRecDepth 100000 in
theorem xMc_11 : ∀ m ∈ xMt_11, Cond.code m.1 m.2.1 m.2.2.1 m.2.2.2.1 ∈ tables_1 := x_map3 (f := fun m : xMT => Cond.code m.1 m.2.1 m.2.2.1 m.2.2.2.1) [1758, 3, 21, 3, 26, 3, 8, 13, 3, 5, 5, 5, 6, 7, 8, 3, 3, 3, 7, 4] [6, 0, 8, 11, 9, 10, 12, 13, 7, 4, 3, 5, 2, 1, 15, 16, 17, 19, 14, 18] [Cond.code ⟨RX12, "fault", "(I)I"⟩ prog_14_method_22_code 2 (some .int), Cond.code ⟨RX12, "sky", "()I"⟩ prog_14_method_34_code 2 (some .int), Cond.code ⟨RX12, "readLine", "()V"⟩ prog_14_method_33_code 3 none, Cond.code ⟨RX12, "onceHere", "()I"⟩ prog_14_method_31_code 1 (some .int), Cond.code ⟨RX12, "ones", "(I)I"⟩ prog_14_method_30_code 3 (some .int), Cond.code ⟨RX12, "readOnce", "(I)V"⟩ prog_14_method_32_code 2 none, Cond.code ⟨RX12, "told", "(Ljava/lang/String;II)I"⟩ prog_14_method_21_code 4 (some .int), Cond.code ⟨RX12, "readStart", "()V"⟩ prog_14_method_29_code 3 none, Cond.code ⟨RX12, "place", "()I"⟩ prog_14_method_23_code 1 (some .int), Cond.code ⟨RX12, "readPlace", "()V"⟩ prog_14_method_25_code 2 none, Cond.code ⟨RX12, "readLeg", "()V"⟩ prog_14_method_26_code 2 none, Cond.code ⟨RX12, "signed", "(I)I"⟩ prog_14_method_24_code 3 (some .int), Cond.code ⟨RX12, "readLift", "()V"⟩ prog_14_method_27_code 4 none, Cond.code ⟨RX12, "readPoint", "()V"⟩ prog_14_method_28_code 2 none, Cond.code ⟨RX12, "periods", "(IZIZ)I"⟩ prog_14_method_39_code 5 (some .int), Cond.code ⟨RX12, "isLeg", "(I)Z"⟩ prog_14_method_35_code 2 (some .boolean), Cond.code ⟨RX12, "isSpeed", "(I)Z"⟩ prog_14_method_36_code 2 (some .boolean), Cond.code ⟨RX12, "periodsOf", "(IZIZ)I"⟩ prog_14_method_37_code 7 (some .int), Cond.code ⟨RX12, "loss", "(IZIZ)I"⟩ prog_14_method_40_code 6 (some .int), Cond.code ⟨RX12, "lossOf", "(III)I"⟩ prog_14_method_38_code 4 (some .int)] rfl rfl
def xMt_12 : List (xMT) := [
  (⟨RX12, "upOf", "(I)I"⟩, prog_14_method_41_code, 2, (some .int), false, 2),
  (⟨RX12, "climbOf", "(IZ)I"⟩, prog_14_method_42_code, 4, (some .int), false, 3),
  (⟨RX12, "climb", "(IZ)I"⟩, prog_14_method_43_code, 3, (some .int), false, 3),
  (⟨RX12, "bySign", "(IIZI)I"⟩, prog_14_method_44_code, 8, (some .int), false, 5),
  (⟨RX12, "chanceNow", "(I)I"⟩, prog_14_method_45_code, 6, (some .int), false, 2),
  (⟨RX12, "chanceOf", "(I)I"⟩, prog_14_method_46_code, 2, (some .int), false, 2),
  (⟨RX12, "chance", "(I)I"⟩, prog_14_method_47_code, 2, (some .int), false, 2),
  (⟨RX12, "sight", "(II)I"⟩, prog_14_method_48_code, 3, (some .int), false, 3),
  (⟨RX12, "unsee", "(I)I"⟩, prog_14_method_49_code, 2, (some .int), false, 2),
  (⟨RX12, "sign", "(IZ)I"⟩, prog_14_method_50_code, 3, (some .int), false, 3),
  (⟨RX12, "laysWays", "()V"⟩, prog_14_method_51_code, 3, none, false, 1),
  (⟨RX12, "laysFrom", "(II)V"⟩, prog_14_method_52_code, 9, none, false, 3),
  (⟨RX12, "comesAt", "(II)I"⟩, prog_14_method_53_code, 5, (some .int), false, 3),
  (⟨RX12, "glides", "(IIZ)V"⟩, prog_14_method_54_code, 10, none, false, 4),
  (⟨RX12, "isHeight", "(II)Z"⟩, prog_14_method_55_code, 3, (some .boolean), false, 3),
  (⟨RX12, "reach", "(IIIZ)I"⟩, prog_14_method_56_code, 5, (some .int), false, 5),
  (⟨RX12, "fieldsOf", "(IIZ)I"⟩, prog_14_method_57_code, 7, (some .int), false, 4),
  (⟨RX12, "fields", "(IIZ)I"⟩, prog_14_method_58_code, 4, (some .int), false, 4),
  (⟨RX12, "edge", "(IZ)I"⟩, prog_14_method_59_code, 4, (some .int), false, 3),
  (⟨RX12, "tour", "(IIZ)I"⟩, prog_14_method_60_code, 7, (some .int), false, 4)]
set_option maxRecDepth 100000 in
theorem xMc_12 : ∀ m ∈ xMt_12, Cond.code m.1 m.2.1 m.2.2.1 m.2.2.2.1 ∈ tables_1 := x_map3 (f := fun m : xMT => Cond.code m.1 m.2.1 m.2.2.1 m.2.2.2.1) [1917, 7, 3, 3, 3, 3, 3, 4, 3, 3, 3, 3, 3, 3, 3, 3, 3, 3, 3, 69] [2, 1, 0, 5, 4, 19, 3, 6, 7, 8, 12, 13, 14, 11, 10, 9, 16, 15, 17, 18] [Cond.code ⟨RX12, "climb", "(IZ)I"⟩ prog_14_method_43_code 3 (some .int), Cond.code ⟨RX12, "climbOf", "(IZ)I"⟩ prog_14_method_42_code 4 (some .int), Cond.code ⟨RX12, "upOf", "(I)I"⟩ prog_14_method_41_code 2 (some .int), Cond.code ⟨RX12, "chance", "(I)I"⟩ prog_14_method_47_code 2 (some .int), Cond.code ⟨RX12, "chanceNow", "(I)I"⟩ prog_14_method_45_code 6 (some .int), Cond.code ⟨RX12, "bySign", "(IIZI)I"⟩ prog_14_method_44_code 8 (some .int), Cond.code ⟨RX12, "sight", "(II)I"⟩ prog_14_method_48_code 3 (some .int), Cond.code ⟨RX12, "unsee", "(I)I"⟩ prog_14_method_49_code 2 (some .int), Cond.code ⟨RX12, "sign", "(IZ)I"⟩ prog_14_method_50_code 3 (some .int), Cond.code ⟨RX12, "reach", "(IIIZ)I"⟩ prog_14_method_56_code 5 (some .int), Cond.code ⟨RX12, "isHeight", "(II)Z"⟩ prog_14_method_55_code 3 (some .boolean), Cond.code ⟨RX12, "glides", "(IIZ)V"⟩ prog_14_method_54_code 10 none, Cond.code ⟨RX12, "laysWays", "()V"⟩ prog_14_method_51_code 3 none, Cond.code ⟨RX12, "laysFrom", "(II)V"⟩ prog_14_method_52_code 9 none, Cond.code ⟨RX12, "comesAt", "(II)I"⟩ prog_14_method_53_code 5 (some .int), Cond.code ⟨RX12, "fields", "(IIZ)I"⟩ prog_14_method_58_code 4 (some .int), Cond.code ⟨RX12, "fieldsOf", "(IIZ)I"⟩ prog_14_method_57_code 7 (some .int), Cond.code ⟨RX12, "edge", "(IZ)I"⟩ prog_14_method_59_code 4 (some .int), Cond.code ⟨RX12, "tour", "(IIZ)I"⟩ prog_14_method_60_code 7 (some .int), Cond.code ⟨RX12, "chanceOf", "(I)I"⟩ prog_14_method_46_code 2 (some .int)] rfl rfl
def xMt_13 : List (xMT) := [
  (⟨RX12, "street", "()I"⟩, prog_14_method_61_code, 6, (some .int), false, 1),
  (⟨RX12, "fastOf", "(I)I"⟩, prog_14_method_62_code, 6, (some .int), false, 2),
  (⟨RX12, "isClimb", "(I)Z"⟩, prog_14_method_63_code, 1, (some .boolean), true, 1),
  (⟨RX12, "fast", "(I)I"⟩, prog_14_method_64_code, 2, (some .int), false, 2),
  (⟨RX12, "average", "(I)I"⟩, prog_14_method_65_code, 3, (some .int), false, 2),
  (⟨RX12, "farthest", "()I"⟩, prog_14_method_66_code, 5, (some .int), false, 1),
  (⟨RX12, "forgets", "()V"⟩, prog_14_method_67_code, 2, none, false, 1),
  (⟨RX12, "state", "(IIIII)I"⟩, prog_14_method_68_code, 5, (some .int), true, 5),
  (⟨RX12, "landingOf", "(II)I"⟩, prog_14_method_69_code, 5, (some .int), false, 3),
  (⟨RX12, "higher", "(III)I"⟩, prog_14_method_70_code, 4, (some .int), false, 4),
  (⟨RX12, "mixed", "([IIIII)I"⟩, prog_14_method_71_code, 7, (some .int), false, 6),
  (⟨RX12, "isRuled", "(IIII)Z"⟩, prog_14_method_72_code, 5, (some .boolean), false, 5),
  (⟨RX12, "looks", "(IIIIII)V"⟩, prog_14_method_73_code, 16, none, false, 7),
  (⟨RX12, "takesOver", "(III)V"⟩, prog_14_method_74_code, 4, none, false, 4),
  (⟨RX12, "solves", "(I)V"⟩, prog_14_method_75_code, 7, none, false, 2),
  (⟨RX12, "isRule", "(I)Z"⟩, prog_14_method_76_code, 1, (some .boolean), true, 1),
  (⟨RX12, "isState", "(IIIZ)Z"⟩, prog_14_method_77_code, 5, (some .boolean), false, 5),
  (⟨RX12, "bit", "(Z)I"⟩, prog_14_method_78_code, 1, (some .int), true, 1),
  (⟨RX12, "worth", "(IIIIZZ)I"⟩, prog_14_method_79_code, 7, (some .int), false, 7),
  (⟨RX12, "deed", "(IIIIZZ)I"⟩, prog_14_method_80_code, 7, (some .int), false, 7)]
set_option maxRecDepth 100000 in
theorem xMc_13 : ∀ m ∈ xMt_13, Cond.code m.1 m.2.1 m.2.2.1 m.2.2.2.1 ∈ tables_1 := x_map3 (f := fun m : xMT => Cond.code m.1 m.2.1 m.2.2.1 m.2.2.2.1) [1575, 422, 3, 2, 4, 3, 3, 3, 2, 3, 3, 3, 2, 3, 3, 3, 3, 3, 6, 3] [1, 4, 3, 2, 5, 6, 0, 12, 13, 14, 17, 16, 11, 15, 10, 8, 9, 18, 7, 19] [Cond.code ⟨RX12, "forgets", "()V"⟩ prog_14_method_67_code 2 none, Cond.code ⟨RX12, "street", "()I"⟩ prog_14_method_61_code 6 (some .int), Cond.code ⟨RX12, "fast", "(I)I"⟩ prog_14_method_64_code 2 (some .int), Cond.code ⟨RX12, "isClimb", "(I)Z"⟩ prog_14_method_63_code 1 (some .boolean), Cond.code ⟨RX12, "fastOf", "(I)I"⟩ prog_14_method_62_code 6 (some .int), Cond.code ⟨RX12, "average", "(I)I"⟩ prog_14_method_65_code 3 (some .int), Cond.code ⟨RX12, "farthest", "()I"⟩ prog_14_method_66_code 5 (some .int), Cond.code ⟨RX12, "worth", "(IIIIZZ)I"⟩ prog_14_method_79_code 7 (some .int), Cond.code ⟨RX12, "isRule", "(I)Z"⟩ prog_14_method_76_code 1 (some .boolean), Cond.code ⟨RX12, "isState", "(IIIZ)Z"⟩ prog_14_method_77_code 5 (some .boolean), Cond.code ⟨RX12, "solves", "(I)V"⟩ prog_14_method_75_code 7 none, Cond.code ⟨RX12, "looks", "(IIIIII)V"⟩ prog_14_method_73_code 16 none, Cond.code ⟨RX12, "state", "(IIIII)I"⟩ prog_14_method_68_code 5 (some .int), Cond.code ⟨RX12, "landingOf", "(II)I"⟩ prog_14_method_69_code 5 (some .int), Cond.code ⟨RX12, "higher", "(III)I"⟩ prog_14_method_70_code 4 (some .int), Cond.code ⟨RX12, "takesOver", "(III)V"⟩ prog_14_method_74_code 4 none, Cond.code ⟨RX12, "isRuled", "(IIII)Z"⟩ prog_14_method_72_code 5 (some .boolean), Cond.code ⟨RX12, "mixed", "([IIIII)I"⟩ prog_14_method_71_code 7 (some .int), Cond.code ⟨RX12, "bit", "(Z)I"⟩ prog_14_method_78_code 1 (some .int), Cond.code ⟨RX12, "deed", "(IIIIZZ)I"⟩ prog_14_method_80_code 7 (some .int)] rfl rfl
def xMt_14 : List (xMT) := [
  (⟨RX12, "home", "(IIIIZZ)I"⟩, prog_14_method_81_code, 7, (some .int), false, 7),
  (⟨RX12, "hasStart", "()Z"⟩, prog_14_method_82_code, 1, (some .boolean), false, 1),
  (⟨RX12, "startWet", "()I"⟩, prog_14_method_83_code, 1, (some .int), false, 1),
  (⟨RX12, "startOf", "(II)I"⟩, prog_14_method_84_code, 3, (some .int), false, 3),
  (⟨RX12, "start", "(I)I"⟩, prog_14_method_85_code, 2, (some .int), false, 2),
  (⟨RX12, "cost", "(I)I"⟩, prog_14_method_86_code, 3, (some .int), false, 2),
  (⟨RX12, "leaves", "(IIZI)I"⟩, prog_14_method_87_code, 6, (some .int), false, 5),
  (⟨RX12, "leave", "(IIZ)I"⟩, prog_14_method_88_code, 4, (some .int), false, 4),
  (⟨RX12, "on", "(IIZ)I"⟩, prog_14_method_89_code, 4, (some .int), false, 4),
  (⟨RX12, "last", "(II)I"⟩, prog_14_method_90_code, 4, (some .int), false, 3),
  (⟨RX12, "weak", "(III)I"⟩, prog_14_method_91_code, 5, (some .int), false, 4),
  (⟨RX12, "endsBehind", "(IIIIZ)I"⟩, prog_14_method_92_code, 9, (some .int), false, 6),
  (⟨RX12, "endOf", "(IIIIIZ)I"⟩, prog_14_method_93_code, 9, (some .int), false, 7),
  (⟨RX12, "wayOf", "(III)I"⟩, prog_14_method_94_code, 7, (some .int), false, 4),
  (⟨RX12, "ends", "(IZ)I"⟩, prog_14_method_95_code, 8, (some .int), false, 3),
  (⟨RX12, "startWith", "(II)I"⟩, prog_14_method_96_code, 4, (some .int), false, 3),
  (⟨RX12, "share", "(I)I"⟩, prog_14_method_97_code, 2, (some .int), false, 2),
  (⟨RX12, "known", "(I)I"⟩, prog_14_method_98_code, 5, (some .int), false, 2),
  (⟨RX12, "hawk", "(I)I"⟩, prog_14_method_99_code, 8, (some .int), false, 2),
  (⟨RX12, "water", "()I"⟩, prog_14_method_100_code, 1, (some .int), false, 1)]
set_option maxRecDepth 100000 in
theorem xMc_14 : ∀ m ∈ xMt_14, Cond.code m.1 m.2.1 m.2.2.1 m.2.2.2.1 ∈ tables_1 := x_map3 (f := fun m : xMT => Cond.code m.1 m.2.1 m.2.2.1 m.2.2.2.1) [2075, 3, 3, 3, 3, 3, 3, 3, 3, 3, 3, 3, 3, 3, 3, 3, 3, 3, 3, 3] [0, 2, 3, 4, 1, 5, 7, 6, 8, 9, 10, 14, 12, 13, 11, 16, 15, 17, 18, 19] [Cond.code ⟨RX12, "home", "(IIIIZZ)I"⟩ prog_14_method_81_code 7 (some .int), Cond.code ⟨RX12, "start", "(I)I"⟩ prog_14_method_85_code 2 (some .int), Cond.code ⟨RX12, "hasStart", "()Z"⟩ prog_14_method_82_code 1 (some .boolean), Cond.code ⟨RX12, "startWet", "()I"⟩ prog_14_method_83_code 1 (some .int), Cond.code ⟨RX12, "startOf", "(II)I"⟩ prog_14_method_84_code 3 (some .int), Cond.code ⟨RX12, "cost", "(I)I"⟩ prog_14_method_86_code 3 (some .int), Cond.code ⟨RX12, "leave", "(IIZ)I"⟩ prog_14_method_88_code 4 (some .int), Cond.code ⟨RX12, "leaves", "(IIZI)I"⟩ prog_14_method_87_code 6 (some .int), Cond.code ⟨RX12, "on", "(IIZ)I"⟩ prog_14_method_89_code 4 (some .int), Cond.code ⟨RX12, "last", "(II)I"⟩ prog_14_method_90_code 4 (some .int), Cond.code ⟨RX12, "weak", "(III)I"⟩ prog_14_method_91_code 5 (some .int), Cond.code ⟨RX12, "ends", "(IZ)I"⟩ prog_14_method_95_code 8 (some .int), Cond.code ⟨RX12, "endOf", "(IIIIIZ)I"⟩ prog_14_method_93_code 9 (some .int), Cond.code ⟨RX12, "wayOf", "(III)I"⟩ prog_14_method_94_code 7 (some .int), Cond.code ⟨RX12, "endsBehind", "(IIIIZ)I"⟩ prog_14_method_92_code 9 (some .int), Cond.code ⟨RX12, "share", "(I)I"⟩ prog_14_method_97_code 2 (some .int), Cond.code ⟨RX12, "startWith", "(II)I"⟩ prog_14_method_96_code 4 (some .int), Cond.code ⟨RX12, "known", "(I)I"⟩ prog_14_method_98_code 5 (some .int), Cond.code ⟨RX12, "hawk", "(I)I"⟩ prog_14_method_99_code 8 (some .int), Cond.code ⟨RX12, "water", "()I"⟩ prog_14_method_100_code 1 (some .int)] rfl rfl
def xMt_15 : List (xMT) := [
  (⟨RX12, "drop", "()I"⟩, prog_14_method_101_code, 6, (some .int), false, 1),
  (⟨RX12, "draw", "(I)I"⟩, prog_14_method_102_code, 2, (some .int), false, 2),
  (⟨RX12, "sets", "(I)V"⟩, prog_14_method_103_code, 2, none, false, 2),
  (⟨RX12, "does", "(J)Z"⟩, prog_14_method_104_code, 4, (some .boolean), false, 2),
  (⟨RX12, "flies", "(II)V"⟩, prog_14_method_105_code, 5, none, false, 3),
  (⟨RX12, "canFly", "(II)Z"⟩, prog_14_method_106_code, 3, (some .boolean), false, 3),
  (⟨RX12, "fly", "(II)I"⟩, prog_14_method_107_code, 4, (some .int), false, 3),
  (⟨RX12, "flown", "(II)I"⟩, prog_14_method_108_code, 3, (some .int), false, 3),
  (⟨RX12, "landed", "(I)I"⟩, prog_14_method_109_code, 2, (some .int), false, 2),
  (⟨RX12, "judge", "(II)I"⟩, prog_14_method_110_code, 6, (some .int), false, 3),
  (⟨RX12, "fliesAll", "(III)V"⟩, prog_14_method_111_code, 6, none, false, 4),
  (⟨RX12, "canFlyAll", "(III)Z"⟩, prog_14_method_112_code, 4, (some .boolean), false, 4),
  (⟨RX12, "flights", "(III)I"⟩, prog_14_method_113_code, 4, (some .int), false, 4),
  (⟨RX12, "sum", "(III)I"⟩, prog_14_method_114_code, 4, (some .int), false, 4),
  (⟨RX12, "spread", "(IIII)I"⟩, prog_14_method_115_code, 5, (some .int), false, 5),
  (⟨RX12, "spot", "(III)I"⟩, prog_14_method_116_code, 3, (some .int), true, 3),
  (⟨RX12, "reckons", "(I)V"⟩, prog_14_method_117_code, 8, none, false, 2),
  (⟨RX12, "isIn", "(IIIII)Z"⟩, prog_14_method_118_code, 8, (some .boolean), false, 6),
  (⟨RX12, "climbsIn", "(IIIII)Z"⟩, prog_14_method_119_code, 7, (some .boolean), false, 6),
  (⟨RX12, "goesIn", "(IIII)Z"⟩, prog_14_method_120_code, 6, (some .boolean), false, 5)]
set_option maxRecDepth 100000 in
theorem xMc_15 : ∀ m ∈ xMt_15, Cond.code m.1 m.2.1 m.2.2.1 m.2.2.2.1 ∈ tables_1 := x_map3 (f := fun m : xMT => Cond.code m.1 m.2.1 m.2.2.1 m.2.2.2.1) [2155, 3, 3, 4, 3, 3, 7, 6, 4, 3, 6, 3, 4, 3, 3, 15, 2, 3, 3, 3] [0, 5, 4, 6, 3, 2, 1, 7, 8, 9, 12, 11, 10, 13, 14, 16, 15, 17, 18, 19] [Cond.code ⟨RX12, "drop", "()I"⟩ prog_14_method_101_code 6 (some .int), Cond.code ⟨RX12, "fly", "(II)I"⟩ prog_14_method_107_code 4 (some .int), Cond.code ⟨RX12, "canFly", "(II)Z"⟩ prog_14_method_106_code 3 (some .boolean), Cond.code ⟨RX12, "flies", "(II)V"⟩ prog_14_method_105_code 5 none, Cond.code ⟨RX12, "sets", "(I)V"⟩ prog_14_method_103_code 2 none, Cond.code ⟨RX12, "draw", "(I)I"⟩ prog_14_method_102_code 2 (some .int), Cond.code ⟨RX12, "does", "(J)Z"⟩ prog_14_method_104_code 4 (some .boolean), Cond.code ⟨RX12, "flown", "(II)I"⟩ prog_14_method_108_code 3 (some .int), Cond.code ⟨RX12, "landed", "(I)I"⟩ prog_14_method_109_code 2 (some .int), Cond.code ⟨RX12, "judge", "(II)I"⟩ prog_14_method_110_code 6 (some .int), Cond.code ⟨RX12, "flights", "(III)I"⟩ prog_14_method_113_code 4 (some .int), Cond.code ⟨RX12, "canFlyAll", "(III)Z"⟩ prog_14_method_112_code 4 (some .boolean), Cond.code ⟨RX12, "fliesAll", "(III)V"⟩ prog_14_method_111_code 6 none, Cond.code ⟨RX12, "sum", "(III)I"⟩ prog_14_method_114_code 4 (some .int), Cond.code ⟨RX12, "spread", "(IIII)I"⟩ prog_14_method_115_code 5 (some .int), Cond.code ⟨RX12, "reckons", "(I)V"⟩ prog_14_method_117_code 8 none, Cond.code ⟨RX12, "spot", "(III)I"⟩ prog_14_method_116_code 3 (some .int), Cond.code ⟨RX12, "isIn", "(IIIII)Z"⟩ prog_14_method_118_code 8 (some .boolean), Cond.code ⟨RX12, "climbsIn", "(IIIII)Z"⟩ prog_14_method_119_code 7 (some .boolean), Cond.code ⟨RX12, "goesIn", "(IIII)Z"⟩ prog_14_method_120_code 6 (some .boolean)] rfl rfl
def xMt_16 : List (xMT) := [
  (⟨RX12, "liftSet", "()I"⟩, prog_14_method_121_code, 3, (some .int), false, 1),
  (⟨RX12, "soonBy", "(I)I"⟩, prog_14_method_122_code, 3, (some .int), false, 2),
  (⟨RX12, "soon", "()I"⟩, prog_14_method_123_code, 1, (some .int), false, 1),
  (⟨RX12, "way", "(I)I"⟩, prog_14_method_124_code, 8, (some .int), false, 2),
  (⟨RX12, "soonest", "(I)I"⟩, prog_14_method_125_code, 2, (some .int), false, 2),
  (⟨RX12, "key", "()I"⟩, prog_14_method_126_code, 6, (some .int), false, 1),
  (⟨RX12, "count", "(I)I"⟩, prog_14_method_127_code, 4, (some .int), false, 2),
  (⟨RX12, "isSlot", "(I)Z"⟩, prog_14_method_128_code, 1, (some .boolean), true, 1),
  (⟨RX12, "cut", "(JI)J"⟩, prog_14_method_129_code, 4, (some .long), true, 2),
  (⟨RX12, "row", "(III)I"⟩, prog_14_method_130_code, 5, (some .int), false, 4),
  (⟨RX12, "write", "(IIJ)I"⟩, prog_14_method_131_code, 5, (some .int), false, 4),
  (⟨RX12, "paste", "(IIIII)I"⟩, prog_14_method_132_code, 7, (some .int), false, 6),
  (⟨"java/lang/Integer", "bitCount", "(I)I"⟩, prog_15_method_49_code, 1, (some .int), true, 1),
  (⟨"java/util/Arrays", "fill", "([JJ)V"⟩, prog_21_method_101_code, 5, none, true, 2),
  (⟨"java/util/Arrays", "fill", "([II)V"⟩, prog_21_method_103_code, 4, none, true, 2),
  (⟨"java/util/Arrays", "fill", "([BB)V"⟩, prog_21_method_109_code, 4, none, true, 2)]
set_option maxRecDepth 100000 in
theorem xMc_16 : ∀ m ∈ xMt_16, Cond.code m.1 m.2.1 m.2.2.1 m.2.2.2.1 ∈ tables_1 := x_map3 (f := fun m : xMT => Cond.code m.1 m.2.1 m.2.2.1 m.2.2.2.1) [522, 222, 476, 323, 656, 24, 3, 3, 22, 3, 3, 3, 3, 3, 2, 3] [6, 7, 5, 8, 9, 10, 11, 4, 14, 12, 13, 15, 1, 3, 0, 2] [Cond.code ⟨"java/util/Arrays", "fill", "([II)V"⟩ prog_21_method_103_code 4 none, Cond.code ⟨"java/lang/Integer", "bitCount", "(I)I"⟩ prog_15_method_49_code 1 (some .int), Cond.code ⟨"java/util/Arrays", "fill", "([BB)V"⟩ prog_21_method_109_code 4 none, Cond.code ⟨"java/util/Arrays", "fill", "([JJ)V"⟩ prog_21_method_101_code 5 none, Cond.code ⟨RX12, "isSlot", "(I)Z"⟩ prog_14_method_128_code 1 (some .boolean), Cond.code ⟨RX12, "soon", "()I"⟩ prog_14_method_123_code 1 (some .int), Cond.code ⟨RX12, "liftSet", "()I"⟩ prog_14_method_121_code 3 (some .int), Cond.code ⟨RX12, "soonBy", "(I)I"⟩ prog_14_method_122_code 3 (some .int), Cond.code ⟨RX12, "way", "(I)I"⟩ prog_14_method_124_code 8 (some .int), Cond.code ⟨RX12, "soonest", "(I)I"⟩ prog_14_method_125_code 2 (some .int), Cond.code ⟨RX12, "key", "()I"⟩ prog_14_method_126_code 6 (some .int), Cond.code ⟨RX12, "count", "(I)I"⟩ prog_14_method_127_code 4 (some .int), Cond.code ⟨RX12, "row", "(III)I"⟩ prog_14_method_130_code 5 (some .int), Cond.code ⟨RX12, "write", "(IIJ)I"⟩ prog_14_method_131_code 5 (some .int), Cond.code ⟨RX12, "cut", "(JI)J"⟩ prog_14_method_129_code 4 (some .long), Cond.code ⟨RX12, "paste", "(IIIII)I"⟩ prog_14_method_132_code 7 (some .int)] rfl rfl
def xMt : List xMT := xMt_0 ++ (xMt_1 ++ (xMt_2 ++ (xMt_3 ++ (xMt_4 ++ (xMt_5 ++ (xMt_6 ++ (xMt_7 ++ (xMt_8 ++ (xMt_9 ++ (xMt_10 ++ (xMt_11 ++ (xMt_12 ++ (xMt_13 ++ (xMt_14 ++ (xMt_15 ++ (xMt_16))))))))))))))))
theorem xM_code : ∀ m ∈ xMt, Cond.code m.1 m.2.1 m.2.2.1 m.2.2.2.1 ∈ tables_1 := List.forall_mem_append.mpr ⟨xMc_0, List.forall_mem_append.mpr ⟨xMc_1, List.forall_mem_append.mpr ⟨xMc_2, List.forall_mem_append.mpr ⟨xMc_3, List.forall_mem_append.mpr ⟨xMc_4, List.forall_mem_append.mpr ⟨xMc_5, List.forall_mem_append.mpr ⟨xMc_6, List.forall_mem_append.mpr ⟨xMc_7, List.forall_mem_append.mpr ⟨xMc_8, List.forall_mem_append.mpr ⟨xMc_9, List.forall_mem_append.mpr ⟨xMc_10, List.forall_mem_append.mpr ⟨xMc_11, List.forall_mem_append.mpr ⟨xMc_12, List.forall_mem_append.mpr ⟨xMc_13, List.forall_mem_append.mpr ⟨xMc_14, List.forall_mem_append.mpr ⟨xMc_15, xMc_16⟩⟩⟩⟩⟩⟩⟩⟩⟩⟩⟩⟩⟩⟩⟩⟩
def xMd : xMT := (⟨"", "", ""⟩, ⟨#[]⟩, 0, none, false, 0)
def xM (j : Nat) : xMT := xMt.getD j xMd
theorem xM_init : ∀ m ∈ xMt.filter (fun _ => true), (fun m => Cond.initialized m.1.cls) m ∈ tables_1 := by
  have h : ∀ w ∈ (xMt.filter (fun _ => true)).map (fun m => Cond.initialized m.1.cls), w ∈ tables_1 := x_mem2 [1, 0, 0, 0, 0, 0, 0, 0, 0, 0, 0, 0, 1, 4, 0] [9, 9, 9, 9, 9, 9, 9, 9, 9, 9, 9, 9, 9, 9, 9, 7, 7, 7, 7, 7, 7, 7, 7, 7, 7, 7, 7, 7, 7, 7, 6, 6, 8, 8, 8, 8, 8, 8, 8, 8, 5, 5, 5, 5, 5, 14, 14, 14, 14, 14, 14, 14, 14, 14, 14, 14, 14, 14, 14, 14, 14, 14, 14, 14, 3, 3, 3, 3, 3, 3, 1, 1, 1, 1, 1, 1, 1, 1, 1, 1, 1, 1, 1, 1, 1, 1, 1, 1, 1, 1, 1, 1, 1, 10, 10, 10, 10, 10, 10, 10, 10, 10, 10, 10, 10, 10, 10, 4, 4, 4, 2, 2, 2, 2, 2, 2, 2, 2, 2, 2, 2, 2, 2, 2, 2, 2, 2, 2, 2, 2, 2, 2, 0, 0, 0, 0, 0, 0, 0, 0, 0, 0, 0, 0, 0, 0, 0, 0, 0, 0, 0, 0, 0, 0, 0, 0, 0, 0, 0, 0, 0, 0, 0, 0, 0, 0, 0, 0, 0, 0, 0, 0, 0, 0, 0, 0, 0, 0, 0, 0, 0, 0, 0, 0, 0, 0, 0, 0, 0, 0, 0, 0, 0, 0, 0, 0, 0, 0, 0, 0, 0, 12, 12, 12, 12, 12, 12, 12, 12, 12, 12, 12, 12, 12, 12, 12, 12, 12, 12, 12, 12, 12, 12, 12, 12, 12, 12, 12, 12, 12, 12, 12, 12, 12, 12, 12, 12, 12, 12, 12, 12, 12, 12, 12, 12, 12, 12, 12, 12, 12, 12, 12, 12, 12, 12, 12, 12, 12, 12, 12, 12, 12, 12, 12, 12, 12, 12, 12, 12, 12, 12, 12, 12, 12, 12, 12, 12, 12, 12, 12, 12, 12, 12, 12, 12, 12, 12, 12, 12, 12, 12, 12, 12, 12, 12, 12, 12, 12, 12, 12, 12, 12, 12, 12, 12, 12, 12, 12, 12, 12, 12, 12, 12, 12, 12, 12, 12, 12, 12, 12, 12, 12, 12, 12, 12, 12, 12, 12, 12, 12, 12, 12, 13, 11, 11, 11] (by decide +kernel)
  exact fun e he => h _ (List.mem_map.mpr ⟨e, he, rfl⟩)
theorem xM_stat : ∀ m ∈ xMt.filter (fun m => m.2.2.2.2.1), (fun m => Cond.static m.1) m ∈ tables_1 := by
  have h : ∀ w ∈ (xMt.filter (fun m => m.2.2.2.2.1)).map (fun m => Cond.static m.1), w ∈ tables_1 := x_mem2 [521, 35, 100, 85, 232, 26, 107, 6, 28, 72, 131, 43, 42, 104, 6, 6, 10, 170, 69, 2, 189, 19, 14, 26, 135, 39, 38] [1, 6, 7, 2, 12, 4, 5, 8, 10, 11, 14, 15, 17, 18, 16, 19, 20, 22, 21, 23, 25, 24, 26, 3, 13, 0, 9] (by decide +kernel)
  exact fun e he => h _ (List.mem_map.mpr ⟨e, he, rfl⟩)
theorem xM_inst : ∀ m ∈ xMt.filter (fun m => !m.2.2.2.2.1), (fun m => Cond.instanceMethod m.1) m ∈ tables_1 := by
  have h : ∀ w ∈ (xMt.filter (fun m => !m.2.2.2.2.1)).map (fun m => Cond.instanceMethod m.1), w ∈ tables_1 := x_mem2 [25, 7, 39, 9, 21, 18, 47, 40, 3, 125, 50, 24, 65, 39, 3, 3, 3, 3, 3, 8, 6, 4, 3, 61, 4, 2, 3, 5, 4, 6, 3, 3, 4, 61, 3, 9, 3, 3, 4, 3, 5, 4, 3, 5, 6, 3, 6, 3, 4, 3, 5, 5, 5, 2, 3, 4, 3, 3, 5, 5, 3, 3, 4, 3, 3, 2, 4, 2, 3, 4, 4, 3, 4, 3, 4, 3, 2, 4, 5, 3, 4, 3, 4, 2, 7, 2, 4, 2, 4, 2, 7, 4, 3, 55, 5, 6, 3, 4, 3, 3, 4, 7, 7, 3, 4, 3, 3, 3, 7, 4, 2, 4, 5, 3, 3, 3, 4, 2, 3, 3, 4, 4, 2, 4, 10, 4, 4, 3, 3, 9, 6, 4, 4, 3, 2, 4, 4, 3, 4, 3, 5, 3, 8, 5, 4, 6, 7, 8, 3, 3, 4, 5, 4, 2, 4, 2, 7, 4, 2, 3, 4, 4, 5, 3, 10, 3, 3, 3, 3, 4, 4, 4, 3, 3, 4, 2, 3, 3, 6, 2, 4, 3, 3, 3, 6, 3, 3, 6, 6, 9, 8, 161, 7, 3, 3, 3, 3, 4, 3, 9, 3, 3, 4, 15, 9, 3, 4, 3, 3, 5, 3, 5, 5, 5, 6, 7, 3, 3, 4, 3, 3, 3, 2, 5, 2, 4, 3, 3, 2, 4, 3, 2, 4, 3, 3, 4, 3, 3, 3, 3, 2, 4, 2, 3, 3, 3, 8, 2, 3, 3, 7, 3, 3, 6, 3, 3, 3, 3, 3, 5, 3, 3, 4, 3, 3, 2, 3, 4, 2, 3, 3, 3, 4, 3, 3, 2, 4, 2, 3, 3, 3, 3, 4, 4, 3, 3, 7, 5, 4, 3, 6, 4, 4, 2, 3, 3, 4, 3, 3, 6, 3, 3, 2, 3, 3, 3, 3, 3, 6] [11, 149, 138, 139, 140, 141, 148, 142, 150, 143, 144, 145, 152, 154, 160, 9, 13, 14, 15, 22, 75, 95, 19, 21, 71, 72, 74, 80, 82, 6, 182, 10, 123, 124, 125, 127, 126, 128, 129, 5, 8, 181, 63, 64, 92, 93, 94, 107, 132, 121, 104, 101, 106, 109, 105, 113, 97, 98, 99, 100, 102, 3, 48, 183, 84, 86, 88, 1, 27, 28, 29, 33, 35, 32, 40, 38, 39, 43, 42, 30, 31, 34, 36, 37, 41, 44, 47, 49, 50, 12, 167, 165, 173, 164, 162, 163, 166, 168, 169, 171, 174, 172, 4, 66, 184, 2, 7, 180, 46, 55, 56, 70, 90, 51, 112, 20, 81, 45, 17, 16, 18, 59, 60, 73, 62, 96, 103, 0, 23, 24, 25, 26, 53, 52, 54, 57, 58, 61, 65, 67, 68, 69, 76, 77, 78, 79, 83, 85, 87, 89, 108, 110, 91, 120, 111, 114, 115, 117, 116, 118, 119, 122, 130, 134, 135, 131, 133, 136, 137, 146, 147, 151, 153, 155, 156, 157, 158, 159, 161, 170, 175, 176, 177, 178, 179, 185, 186, 187, 188, 189, 191, 192, 225, 216, 221, 193, 194, 198, 197, 199, 203, 202, 208, 207, 205, 206, 195, 210, 213, 211, 212, 214, 215, 209, 201, 204, 200, 196, 218, 219, 220, 223, 217, 222, 227, 226, 224, 230, 229, 258, 228, 231, 232, 233, 237, 238, 239, 236, 235, 234, 241, 240, 242, 243, 244, 246, 245, 247, 248, 190, 253, 254, 257, 256, 252, 255, 251, 250, 249, 259, 260, 262, 263, 264, 261, 265, 267, 266, 268, 269, 270, 274, 272, 273, 271, 276, 275, 277, 278, 279, 280, 285, 284, 286, 283, 282, 281, 287, 288, 289, 292, 291, 290, 293, 294, 298, 299, 300, 301, 296, 297, 295, 302, 303, 304, 305, 306, 307, 308] (by decide +kernel)
  exact fun e he => h _ (List.mem_map.mpr ⟨e, he, rfl⟩)
def xSel (m : MethodName) : Cond := Cond.selects m.cls m m
def xVpub : List Nat := [133, 135, 136, 137, 139, 140, 141, 142, 143, 144, 145, 146, 147, 148, 149, 150, 151, 152, 154, 155, 156, 157, 161, 162, 163, 164, 166, 167, 168, 169, 170, 171, 175, 176, 177, 180, 181, 182, 183, 185, 186, 187, 188, 189, 190, 191, 193, 194, 196, 197, 199, 205, 206, 210, 211, 221, 233, 238, 239, 242, 246, 247, 248, 249, 255, 257, 258, 259, 260, 263, 264, 265, 278, 279, 280, 284, 285, 287, 288, 289, 290, 294, 296, 297, 298, 299, 300, 306, 307, 308, 309, 312, 313, 314, 322, 323, 324, 325, 326, 329, 330, 331]
def xVpri : List Nat := [1, 2, 3, 4, 5, 6, 7, 8, 9, 10, 11, 12, 13, 14, 17, 18, 19, 20, 21, 22, 23, 24, 25, 26, 27, 28, 29, 31, 33, 34, 35, 36, 37, 38, 39, 41, 42, 43, 44, 47, 48, 49, 50, 51, 53, 54, 55, 56, 57, 58, 59, 60, 61, 62, 63, 65, 66, 67, 68, 69, 71, 72, 73, 75, 76, 77, 78, 79, 80, 81, 82, 83, 84, 85, 86, 87, 88, 89, 90, 91, 92, 95, 96, 97, 98, 99, 100, 101, 102, 103, 104, 105, 106, 108, 109, 111, 112, 113, 114, 115, 116, 117, 118, 119, 120, 121, 122, 123, 124, 125, 126, 127, 128, 129, 130, 131, 134, 138, 159, 160, 165, 172, 173, 179, 184, 192, 207, 208, 209, 212, 213, 214, 215, 216, 217, 218, 219, 220, 222, 223, 224, 225, 226, 227, 228, 230, 231, 232, 234, 235, 236, 237, 240, 241, 243, 244, 245, 250, 251, 252, 253, 254, 256, 261, 266, 268, 269, 270, 271, 272, 273, 274, 276, 281, 282, 283, 286, 291, 292, 293, 295, 301, 302, 303, 304, 305, 310, 311, 316, 317, 318, 319, 320, 321]
theorem xV_pub : ∀ j ∈ xVpub, xSel (xM j).1 ∈ lw_tbl := by
  have h : ∀ w ∈ xVpub.map (fun j => xSel (xM j).1), w ∈ tables_1 := x_mem2 [633, 7, 3, 196, 3, 12, 5, 13, 15, 7, 3, 4, 29, 4, 5, 3, 16, 10, 7, 7, 152, 7, 4, 13, 3, 7, 3, 3, 12, 50, 16, 4, 4, 3, 53, 27, 7, 7, 7, 7, 3, 9, 46, 20, 3, 3, 9, 27, 3, 6, 6, 180, 7, 3, 3, 3, 3, 125, 19, 8, 15, 11, 4, 3, 3, 23, 7, 3, 3, 3, 11, 3, 3, 48, 3, 3, 15, 3, 7, 3, 3, 3, 15, 7, 3, 3, 3, 3, 31, 4, 3, 6, 12, 3, 3, 30, 3, 3, 3, 3, 3, 6] [0, 1, 2, 3, 4, 5, 6, 7, 8, 9, 10, 11, 12, 13, 14, 15, 16, 17, 18, 19, 20, 21, 22, 23, 24, 25, 26, 27, 28, 29, 30, 31, 32, 33, 34, 35, 36, 37, 38, 39, 40, 41, 42, 43, 44, 45, 46, 47, 48, 49, 50, 51, 52, 53, 54, 55, 56, 57, 58, 59, 60, 61, 62, 63, 64, 65, 66, 67, 68, 69, 70, 71, 72, 73, 74, 75, 76, 77, 78, 79, 80, 81, 82, 83, 84, 85, 86, 87, 88, 89, 90, 91, 92, 93, 94, 95, 96, 97, 98, 99, 100, 101] (by decide +kernel)
  exact fun j hj => x_in (h _ (List.mem_map.mpr ⟨j, hj, rfl⟩))
theorem xV_pri : ∀ j ∈ xVpri, xSel (xM j).1 ∈ lw_tbl := by
  have h : ∀ w ∈ xVpri.map (fun j => (xM j).1), w ∈ lw_privs.map (fun q => q.1) := x_mem2 [0, 0, 0, 0, 0, 0, 0, 0, 0, 0, 0, 0, 0, 0, 0, 0, 0, 0, 0, 0, 0, 0, 0, 0, 0, 0, 0, 0, 0, 0, 0, 0, 0, 0, 0, 0, 0, 0, 0, 0, 0, 0, 0, 0, 0, 0, 0, 0, 0, 0, 0, 0, 0, 0, 0, 0, 0, 0, 0, 0, 0, 0, 0, 0, 0, 0, 0, 0, 0, 0, 0, 0, 0, 0, 0, 0, 0, 0, 0, 0, 0, 0, 0, 0, 0, 0, 0, 0, 0, 0, 0, 0, 0, 0, 0, 0, 0, 0, 0, 0, 0, 0, 0, 0, 0, 0, 0, 0, 0, 0, 0, 0, 0, 0, 0, 0, 0, 0, 0, 0, 0, 0, 0, 0, 0, 0, 0, 0, 0, 0, 0, 0, 0, 0, 0, 0, 0, 0, 0, 0, 0, 0, 0, 0, 0, 0, 0, 0, 0, 0, 0, 0, 0, 0, 0, 0, 0, 0, 0, 0, 0, 0, 0, 0, 0, 0, 0, 0, 0, 0, 0, 0, 0, 0, 0, 0, 0, 0, 0, 0, 0, 0, 0, 0, 0, 0, 0, 0, 0, 0, 0, 0, 0, 0] [102, 92, 93, 94, 95, 101, 96, 103, 97, 98, 99, 104, 105, 107, 2, 3, 4, 11, 52, 63, 8, 10, 48, 49, 51, 53, 55, 123, 82, 83, 84, 86, 85, 87, 88, 1, 122, 44, 45, 61, 62, 75, 90, 81, 72, 69, 74, 76, 73, 78, 65, 66, 67, 68, 70, 34, 124, 56, 57, 58, 13, 14, 15, 19, 21, 18, 26, 24, 25, 29, 28, 16, 17, 20, 22, 23, 27, 30, 33, 35, 36, 113, 111, 118, 110, 108, 109, 112, 114, 115, 116, 119, 117, 46, 125, 0, 121, 32, 39, 40, 47, 59, 37, 77, 9, 54, 31, 6, 5, 7, 41, 42, 50, 43, 64, 71, 12, 38, 60, 80, 79, 89, 91, 100, 106, 120, 152, 146, 150, 128, 127, 129, 133, 132, 138, 137, 135, 136, 140, 143, 141, 142, 144, 145, 139, 131, 134, 130, 147, 148, 149, 151, 154, 153, 156, 155, 172, 159, 160, 161, 158, 157, 162, 163, 126, 167, 168, 171, 170, 166, 169, 165, 164, 173, 174, 175, 176, 179, 177, 178, 180, 184, 183, 185, 182, 181, 187, 186, 190, 191, 192, 193, 188, 189] (by decide +kernel)
  intro j hj
  obtain ⟨q, hq, he⟩ := List.mem_map.mp (h _ (List.mem_map.mpr ⟨j, hj, rfl⟩))
  refine List.mem_append_left _ (List.mem_map.mpr ⟨q, hq, ?_⟩)
  rw [← he]
  rfl
def xMplain (m : xMT) : Bool := plainName m.1.cls && m.1.cls != "java/lang/invoke/MethodHandle" && m.1.cls != "java/lang/invoke/VarHandle" && (parseMethodDescriptor m.1.desc).map (fun d => d.parameters.length) == some (if m.2.2.2.2.1 then m.2.2.2.2.2 else m.2.2.2.2.2 - 1) && Nat.ble m.2.2.1 22
theorem xM_plain : xMt.all xMplain = true := by decide +kernel
def xMl : List (Nat × Nat × Nat) := [
  (0, 39, 3), (0, 85, 4), (0, 88, 5), (0, 105, 1), (0, 109, 7), (0, 113, 8), (0, 117, 9), (0, 153, 10), (0, 158, 11), (1, 48, 18), (1, 52, 23), (1, 78, 19),
  (1, 106, 16), (1, 115, 24), (1, 119, 20), (1, 128, 334), (1, 134, 26), (1, 142, 27), (1, 150, 332), (1, 155, 29), (3, 27, 335), (3, 58, 34), (3, 65, 37), (3, 73, 35),
  (3, 95, 36), (3, 98, 38), (3, 128, 39), (4, 34, 44), (5, 79, 48), (5, 109, 52), (5, 114, 55), (5, 117, 59), (5, 127, 46), (5, 131, 54), (5, 134, 60), (5, 149, 61),
  (5, 152, 63), (5, 166, 62), (5, 182, 53), (5, 185, 57), (5, 191, 49), (7, 48, 72), (7, 55, 83), (7, 85, 74), (7, 89, 73), (7, 103, 77), (7, 107, 76), (7, 110, 75),
  (7, 114, 80), (7, 122, 84), (7, 128, 85), (7, 132, 86), (7, 171, 332), (7, 176, 87), (7, 179, 88), (7, 182, 89), (7, 185, 90), (7, 188, 82), (7, 198, 91), (7, 201, 92),
  (7, 205, 79), (7, 214, 78), (7, 225, 81), (8, 25, 100), (8, 29, 334), (8, 48, 94), (8, 61, 98), (8, 68, 96), (8, 75, 101), (8, 79, 95), (8, 105, 102), (8, 128, 103),
  (8, 144, 106), (8, 147, 97), (8, 153, 105), (10, 39, 111), (10, 107, 113), (10, 114, 116), (10, 131, 123), (10, 138, 124), (10, 151, 127), (11, 93, 334), (11, 106, 134), (11, 121, 138),
  (11, 208, 153), (11, 228, 158), (11, 235, 159), (11, 271, 165), (11, 287, 160), (11, 307, 172), (11, 310, 173), (11, 313, 174), (11, 352, 178), (11, 355, 179), (11, 371, 195), (11, 377, 184),
  (11, 420, 332), (11, 429, 192), (11, 435, 333), (11, 438, 198), (11, 442, 200), (12, 108, 204), (12, 112, 266), (12, 117, 201), (12, 130, 212), (12, 161, 214), (12, 175, 216), (12, 179, 213),
  (12, 182, 217), (12, 185, 215), (12, 189, 218), (12, 193, 219), (12, 200, 220), (12, 212, 222), (12, 219, 223), (12, 232, 202), (12, 255, 228), (12, 258, 230), (12, 270, 229), (12, 273, 231),
  (12, 276, 224), (12, 279, 225), (12, 282, 226), (12, 287, 227), (12, 290, 232), (12, 293, 208), (12, 299, 209), (12, 302, 234), (12, 306, 235), (12, 309, 236), (12, 314, 237), (12, 321, 240),
  (12, 324, 207), (12, 327, 241), (12, 331, 243), (12, 338, 244), (12, 346, 251), (12, 350, 250), (12, 353, 252), (12, 356, 254), (12, 359, 253), (12, 363, 256), (12, 369, 262), (12, 372, 261),
  (12, 375, 245), (12, 378, 267), (12, 382, 268), (12, 385, 269), (12, 388, 273), (12, 392, 271), (12, 396, 270), (12, 400, 272), (12, 404, 275), (12, 407, 276), (12, 411, 274), (12, 414, 277),
  (12, 418, 281), (12, 421, 282), (12, 424, 283), (12, 427, 286), (12, 430, 293), (12, 433, 291), (12, 437, 292), (12, 441, 295), (12, 468, 301), (12, 483, 302), (12, 486, 303), (12, 492, 305),
  (12, 495, 304), (12, 503, 327), (12, 514, 311), (12, 518, 310), (12, 524, 315), (12, 527, 317), (12, 531, 318), (12, 534, 319), (12, 537, 316), (12, 540, 320), (12, 543, 321), (12, 546, 328),
  (13, 9, 132), (13, 12, 203), (13, 13, 133), (13, 17, 210), (13, 18, 135), (13, 22, 211), (13, 23, 136), (13, 27, 233), (13, 28, 137), (13, 31, 221), (13, 32, 139), (13, 36, 238),
  (13, 37, 140), (13, 40, 239), (13, 41, 141), (13, 45, 242), (13, 46, 142), (13, 49, 246), (13, 50, 143), (13, 54, 247), (13, 55, 144), (13, 58, 248), (13, 59, 145), (13, 62, 249),
  (13, 63, 146), (13, 67, 255), (13, 68, 147), (13, 72, 257), (13, 73, 148), (13, 76, 258), (13, 77, 151), (13, 80, 263), (13, 81, 152), (13, 84, 264), (13, 85, 154), (13, 88, 265),
  (13, 89, 155), (13, 93, 278), (13, 94, 156), (13, 97, 279), (13, 98, 157), (13, 101, 280), (13, 102, 161), (13, 105, 284), (13, 106, 162), (13, 109, 285), (13, 110, 163), (13, 113, 287),
  (13, 114, 164), (13, 117, 288), (13, 118, 166), (13, 121, 289), (13, 122, 167), (13, 126, 290), (13, 127, 168), (13, 130, 294), (13, 131, 149), (13, 134, 259), (13, 135, 150), (13, 138, 260),
  (13, 139, 169), (13, 142, 296), (13, 143, 170), (13, 146, 297), (13, 147, 171), (13, 150, 298), (13, 151, 175), (13, 154, 299), (13, 155, 176), (13, 158, 300), (13, 159, 177), (13, 162, 306),
  (13, 163, 180), (13, 166, 307), (13, 167, 181), (13, 170, 308), (13, 171, 182), (13, 174, 309), (13, 175, 183), (13, 178, 312), (13, 179, 185), (13, 182, 313), (13, 183, 186), (13, 187, 314),
  (13, 188, 187), (13, 191, 322), (13, 192, 188), (13, 195, 323), (13, 196, 189), (13, 199, 324), (13, 200, 190), (13, 203, 325), (13, 204, 191), (13, 207, 326), (13, 208, 193), (13, 211, 205),
  (13, 212, 194), (13, 215, 206), (13, 216, 196), (13, 219, 329), (13, 222, 197), (13, 226, 330), (13, 227, 199), (13, 230, 331)]
def xMn : List (Nat × Nat × Nat) := [
  (0, 53, 129), (0, 75, 119), (0, 126, 131), (0, 139, 120), (0, 143, 46), (0, 147, 56), (0, 162, 126), (0, 165, 128), (0, 171, 114), (0, 174, 115), (0, 189, 124), (0, 193, 125),
  (0, 199, 116), (1, 82, 124), (1, 85, 125), (1, 111, 120), (1, 138, 128), (1, 146, 121), (3, 42, 119), (3, 54, 46), (3, 69, 49), (3, 76, 52), (3, 102, 56), (3, 109, 131),
  (3, 122, 126), (3, 125, 128), (3, 132, 114), (3, 135, 115), (3, 150, 125), (3, 154, 124), (5, 66, 129), (5, 70, 126), (5, 89, 20), (5, 103, 22), (5, 106, 130), (5, 156, 174),
  (5, 160, 16), (5, 173, 131), (5, 179, 128), (7, 58, 118), (7, 252, 122), (7, 261, 113), (7, 280, 65), (8, 89, 119), (8, 102, 126), (8, 117, 16), (8, 150, 128), (10, 25, 64),
  (10, 32, 107), (10, 37, 40), (10, 38, 30), (10, 42, 41), (10, 94, 42), (10, 98, 31), (10, 101, 66), (10, 104, 109), (10, 172, 43), (10, 175, 67), (11, 15, 70), (11, 28, 110),
  (11, 46, 15), (11, 59, 32), (11, 66, 0), (11, 76, 93), (11, 99, 17), (11, 110, 111), (11, 113, 71), (11, 131, 114), (11, 135, 115), (11, 138, 124), (11, 143, 125), (11, 146, 113),
  (11, 149, 126), (11, 153, 129), (11, 166, 108), (11, 179, 44), (11, 183, 116), (11, 187, 25), (11, 191, 21), (11, 197, 120), (11, 200, 20), (11, 204, 28), (11, 215, 67), (11, 220, 68),
  (11, 224, 69), (11, 231, 117), (11, 239, 59), (11, 242, 46), (11, 246, 53), (11, 249, 56), (11, 252, 57), (11, 255, 45), (11, 256, 47), (11, 260, 118), (11, 264, 119), (11, 267, 58),
  (11, 291, 127), (11, 294, 51), (11, 297, 33), (11, 323, 43), (11, 326, 49), (11, 329, 50), (11, 335, 2), (11, 341, 7), (11, 348, 9), (11, 361, 6), (11, 365, 12), (11, 368, 13),
  (11, 374, 1), (11, 387, 14), (11, 398, 121), (11, 401, 99), (11, 405, 104), (11, 417, 122), (11, 432, 112)]
def xMlC (e : Nat × Nat × Nat) : Cond := Cond.methodLink (xo e.1) e.2.1 (xM e.2.2).1
def xMnC (e : Nat × Nat × Nat) : Cond := Cond.methodLinkNest (xo e.1) e.2.1 (xM e.2.2).1 "LastCloud"
theorem xMl_ok : ∀ e ∈ xMl, xMlC e ∈ tables_1 := by
  have h : ∀ w ∈ xMl.map xMlC, w ∈ tables_1 := x_mem2 [24, 186, 308, 6, 3, 7, 7, 4, 3, 7, 3, 62, 3, 3, 3, 9, 3, 2, 3, 3, 4, 61, 3, 3, 5, 3, 3, 4, 3, 5, 4, 3, 5, 6, 14, 8, 5, 9, 1, 3, 3, 12, 5, 8, 4, 11, 3, 7, 3, 4, 11, 0, 8, 7, 4, 5, 3, 11, 0, 3, 3, 6, 7, 7, 3, 6, 0, 65, 19, 3, 4, 4, 2, 3, 3, 8, 3, 3, 3, 8, 7, 4, 12, 0, 3, 3, 3, 3, 3, 3, 8, 7, 6, 4, 4, 3, 3, 9, 7, 3, 8, 3, 3, 0, 4, 3, 7, 5, 3, 19, 6, 8, 3, 3, 7, 3, 0, 3, 2, 7, 7, 3, 3, 3, 3, 3, 9, 8, 6, 0, 2, 3, 3, 3, 3, 4, 5, 7, 3, 4, 3, 3, 3, 4, 0, 3, 27, 3, 3, 2, 3, 2, 3, 5, 4, 2, 162, 4, 2, 3, 3, 3, 3, 3, 3, 9, 3, 3, 4, 15, 3, 2, 2, 3, 4, 3, 3, 5, 3, 5, 5, 5, 6, 7, 3, 4, 3, 3, 3, 3, 3, 4, 3, 3, 3, 3, 3, 3, 3, 3, 4, 3, 3, 3, 3, 3, 3, 3, 3, 3, 3, 3, 3, 3, 3, 3, 3, 3, 3, 3, 2, 3, 3, 3, 2, 3, 3, 3, 3, 3, 3, 2, 3, 3, 3, 3, 3, 3, 3, 3, 3, 3, 3, 3, 3, 3, 3, 3, 3, 3, 3, 3, 3, 3, 3, 4, 3, 3, 7, 6, 4, 3, 3, 2, 3, 4, 3, 3, 3, 3, 3, 3, 3, 2, 3, 3, 3, 3, 3, 3, 3, 3, 3, 2] [106, 107, 108, 114, 115, 116, 117, 109, 110, 3, 7, 4, 8, 9, 10, 50, 51, 52, 57, 58, 91, 92, 94, 93, 95, 96, 97, 45, 67, 73, 77, 82, 71, 72, 68, 69, 74, 70, 75, 76, 78, 15, 18, 16, 17, 20, 24, 21, 28, 19, 22, 25, 23, 26, 30, 33, 34, 31, 35, 36, 27, 29, 32, 127, 128, 129, 130, 131, 132, 133, 134, 135, 137, 138, 139, 1, 37, 65, 5, 6, 43, 2, 12, 38, 60, 64, 66, 85, 89, 99, 100, 102, 112, 113, 121, 123, 143, 144, 148, 150, 152, 154, 155, 157, 164, 165, 168, 163, 176, 169, 175, 173, 174, 178, 181, 170, 177, 167, 171, 172, 179, 180, 182, 183, 166, 184, 189, 186, 187, 188, 191, 195, 193, 194, 198, 197, 206, 205, 207, 203, 204, 209, 214, 215, 229, 223, 224, 225, 226, 227, 228, 222, 219, 220, 221, 230, 234, 235, 236, 239, 245, 246, 244, 248, 257, 256, 258, 254, 255, 262, 264, 265, 272, 273, 274, 275, 271, 269, 270, 282, 0, 153, 11, 159, 13, 160, 14, 162, 39, 161, 40, 185, 41, 190, 42, 192, 44, 196, 46, 199, 47, 200, 48, 201, 49, 202, 53, 208, 54, 210, 59, 213, 61, 216, 62, 217, 63, 218, 79, 231, 80, 232, 81, 233, 83, 237, 84, 238, 86, 240, 87, 241, 88, 242, 90, 243, 55, 211, 56, 212, 98, 247, 101, 249, 103, 250, 104, 251, 105, 252, 111, 253, 118, 259, 119, 260, 120, 261, 122, 263, 124, 266, 125, 267, 126, 268, 136, 276, 140, 277, 141, 278, 142, 279, 145, 156, 146, 158, 147, 280, 149, 281, 151, 283] (by decide +kernel)
  exact fun e he => h _ (List.mem_map.mpr ⟨e, he, rfl⟩)
theorem xMn_ok : ∀ e ∈ xMn, xMnC e ∈ tables_1 := by
  have h : ∀ w ∈ xMn.map xMnC, w ∈ tables_1 := x_mem2 [32, 39, 9, 21, 18, 47, 43, 126, 50, 24, 65, 38, 11, 7, 15, 87, 0, 149, 6, 8, 15, 17, 3, 3, 5, 4, 0, 12, 3, 11, 11, 4, 3, 8, 8, 7, 4, 9, 3, 15, 7, 7, 10, 9, 54, 3, 0, 4, 2, 3, 3, 0, 11, 20, 3, 16, 2, 0, 4, 7, 4, 0, 3, 32, 0, 7, 8, 0, 4, 4, 12, 0, 2, 0, 4, 0, 0, 0, 8, 0, 16, 8, 7, 0, 13, 3, 0, 0, 8, 0, 5, 0, 0, 0, 0, 12, 13, 0, 4, 7, 10, 16, 9, 0, 7, 0, 25, 10, 11, 16, 9, 3, 3, 3, 6] [82, 83, 96, 97, 85, 86, 88, 89, 90, 91, 92, 93, 94, 12, 13, 14, 33, 38, 66, 67, 68, 69, 70, 71, 72, 73, 74, 75, 76, 77, 45, 46, 47, 48, 49, 55, 52, 53, 54, 20, 17, 18, 19, 104, 105, 106, 108, 2, 3, 4, 5, 6, 111, 112, 113, 114, 28, 50, 0, 1, 7, 8, 9, 10, 11, 15, 16, 21, 22, 23, 24, 25, 26, 27, 29, 30, 31, 32, 34, 35, 36, 37, 39, 40, 41, 42, 51, 56, 57, 58, 59, 43, 44, 60, 61, 62, 63, 64, 65, 80, 78, 79, 81, 84, 87, 95, 98, 99, 100, 101, 102, 103, 107, 109, 110] (by decide +kernel)
  exact fun e he => h _ (List.mem_map.mpr ⟨e, he, rfl⟩)
def xBn : List MethodName := [⟨"java/lang/Object", "<init>", "()V"⟩, ⟨"java/lang/Math", "max", "(II)I"⟩, ⟨"java/lang/Math", "min", "(II)I"⟩, ⟨"java/lang/System", "arraycopy", "(Ljava/lang/Object;ILjava/lang/Object;II)V"⟩, ⟨"java/lang/String", "length", "()I"⟩, ⟨"java/lang/String", "charAt", "(I)C"⟩]
def xBl : List (Nat × Nat × Nat) := [
  (0, 3, 0), (1, 3, 0), (1, 100, 1), (1, 125, 2), (2, 1, 0), (3, 3, 0), (3, 113, 2), (3, 119, 1), (4, 3, 0), (5, 3, 0), (5, 97, 1), (5, 170, 2),
  (6, 3, 0), (6, 22, 3), (7, 3, 0), (7, 42, 2), (7, 82, 1), (7, 93, 4), (7, 99, 5), (8, 3, 0), (8, 108, 2), (8, 114, 1), (9, 3, 0), (9, 22, 3),
  (10, 3, 0), (10, 155, 1), (10, 161, 2), (11, 3, 0), (11, 390, 2), (11, 395, 1), (11, 445, 3), (12, 7, 0), (12, 152, 2), (12, 165, 4), (12, 171, 5), (12, 296, 1)]
def xBlC (e : Nat × Nat × Nat) : Cond := Cond.methodLink (xo e.1) e.2.1 (xBn.getD e.2.2 ⟨"", "", ""⟩)
theorem xBl_ok : ∀ e ∈ xBl, xBlC e ∈ tables_1 := by
  have h : ∀ w ∈ xBl.map xBlC, w ∈ tables_1 := x_mem2 [27, 7, 39, 9, 21, 18, 47, 170, 50, 24, 65, 61, 22, 79, 24, 9, 147, 40, 54, 87, 63, 26, 140, 0, 167, 0, 45, 0, 59, 6, 25, 5, 208, 17, 0, 88] [9, 7, 11, 12, 6, 8, 22, 23, 5, 19, 20, 21, 3, 28, 1, 13, 16, 14, 15, 10, 27, 26, 4, 29, 2, 17, 18, 0, 24, 25, 30, 31, 32, 33, 34, 35] (by decide +kernel)
  exact fun e he => h _ (List.mem_map.mpr ⟨e, he, rfl⟩)
def xKi : List (Nat × Nat × Int) := [
  (1, 110, 1000000), (3, 11, 46848), (3, 33, 2000000000), (3, 38, -2000000000), (5, 11, 46848), (5, 92, 1000000), (5, 113, -2000000000), (7, 113, 1000000), (8, 24, 1000000), (10, 141, -2000000000), (11, 142, -2000000000), (11, 203, 1000000),
  (11, 360, 2000000000), (12, 58, 93696), (12, 151, 99999), (12, 313, -2000000000), (14, 265, 1431655765), (14, 266, 858993459), (14, 267, 252645135)]
def xKiC (e : Nat × Nat × Int) : Cond := Cond.constant (xo e.1) e.2.1 (Int32.ofInt e.2.2)
theorem xKi_ok : ∀ e ∈ xKi, xKiC e ∈ tables_1 := by
  have h : ∀ w ∈ xKi.map xKiC, w ∈ tables_1 := x_mem2 [397, 150, 14, 182, 0, 0, 21, 90, 88, 69, 61, 38, 101, 0, 130, 81, 130, 206, 133] [2, 0, 12, 13, 9, 10, 11, 6, 15, 1, 7, 8, 14, 16, 17, 18, 3, 4, 5] (by decide +kernel)
  exact fun e he => h _ (List.mem_map.mpr ⟨e, he, rfl⟩)
def xKl : List (Nat × Nat × Int) := [
  (0, 95, 1103515245), (0, 97, 12345), (0, 99, 2147483648), (0, 101, 65536), (0, 103, 100), (0, 151, -1), (0, 156, 200), (12, 115, 2), (12, 140, 97), (12, 142, 122), (12, 144, 48), (12, 146, 57),
  (12, 341, 3), (12, 367, 2000), (12, 444, 1103515245), (12, 450, 12345), (12, 452, 2147483648), (12, 454, 65536), (12, 477, -1), (12, 479, 100), (12, 481, 199), (12, 490, 2000000000), (12, 501, 4), (12, 512, 40),
  (13, 220, 4294967295)]
def xKlC (e : Nat × Nat × Int) : Cond := Cond.constantLong (xo e.1) e.2.1 (Int64.ofInt e.2.2)
theorem xKl_ok : ∀ e ∈ xKl, xKlC e ∈ tables_1 := by
  have h : ∀ w ∈ xKl.map xKlC, w ∈ tables_1 := x_mem2 [1316, 0, 0, 0, 0, 10, 6, 400, 31, 0, 0, 0, 171, 59, 157, 12, 0, 0, 0, 4, 0, 0, 4, 19, 74] [0, 1, 2, 3, 4, 5, 6, 7, 8, 9, 10, 11, 12, 13, 15, 16, 17, 18, 19, 20, 21, 14, 22, 23, 24] (by decide +kernel)
  exact fun e he => h _ (List.mem_map.mpr ⟨e, he, rfl⟩)
def xKs : List (Nat × Nat × Nat) := [
  (7, 117, 16), (7, 135, 0), (7, 137, 1), (7, 139, 2), (7, 141, 3), (7, 143, 4), (7, 145, 5), (7, 147, 6), (7, 149, 7), (7, 150, 8), (7, 152, 9), (7, 154, 10),
  (7, 204, 11), (7, 209, 12), (7, 217, 13), (7, 221, 14), (7, 223, 15), (7, 228, 17), (7, 230, 18), (7, 255, 19), (7, 257, 20), (7, 259, 21), (7, 278, 22), (7, 287, 23),
  (7, 292, 24), (7, 297, 25), (7, 298, 26), (12, 196, 16), (12, 198, 11), (12, 204, 13), (12, 206, 12), (12, 215, 14), (12, 217, 15), (12, 222, 17), (12, 224, 18), (12, 226, 19),
  (12, 228, 20), (12, 230, 21), (12, 236, 25), (12, 237, 26), (12, 239, 5), (12, 241, 6), (12, 243, 7), (12, 245, 8), (12, 247, 9), (12, 249, 10), (12, 251, 23), (12, 253, 24),
  (12, 261, 0), (12, 262, 1), (12, 264, 2), (12, 266, 3), (12, 268, 4), (12, 285, 22)]
def xKsC (e : Nat × Nat × Nat) : Cond := Cond.stringRef (xo e.1) e.2.1 (xStr.getD e.2.2 "")
theorem xKs_ok : ∀ e ∈ xKs, xKsC e ∈ tables_1 := by
  have h : ∀ w ∈ xKs.map xKsC, w ∈ tables_1 := x_mem2 [672, 52, 0, 0, 0, 0, 0, 0, 0, 0, 0, 26, 9, 4, 8, 0, 4, 0, 0, 8, 0, 0, 8, 8, 0, 4, 0, 959, 6, 0, 0, 0, 0, 0, 0, 0, 0, 0, 18, 12, 0, 8, 0, 4, 0, 4, 0, 4, 0, 0, 4, 0, 0, 0] [16, 0, 1, 2, 3, 4, 5, 6, 7, 8, 9, 10, 11, 12, 13, 14, 15, 17, 18, 19, 20, 21, 22, 23, 24, 25, 26, 47, 43, 44, 38, 45, 46, 48, 49, 50, 51, 52, 41, 42, 27, 28, 29, 30, 31, 32, 39, 40, 33, 34, 35, 36, 37, 53] (by decide +kernel)
  exact fun e he => h _ (List.mem_map.mpr ⟨e, he, rfl⟩)
def xKc : List (Nat × Nat × Nat) := [
  (10, 9, 4), (10, 17, 2), (10, 23, 6), (10, 30, 9), (11, 13, 7), (11, 26, 10), (11, 44, 1), (11, 51, 5), (11, 57, 3), (11, 64, 0), (11, 74, 8), (13, 7, 11),
  (13, 10, 12)]
def xKcC (e : Nat × Nat × Nat) : Cond := Cond.classLink (xo e.1) e.2.1 (xCl e.2.2).1
theorem xKc_ok : ∀ e ∈ xKc, xKcC e ∈ tables_1 := by
  have h : ∀ w ∈ xKc.map xKcC, w ∈ tables_1 := x_mem2 [22, 7, 39, 5, 1, 1, 21, 237, 48, 1, 24, 65, 1079] [3, 4, 5, 6, 1, 2, 7, 8, 9, 10, 11, 0, 12] (by decide +kernel)
  exact fun e he => h _ (List.mem_map.mpr ⟨e, he, rfl⟩)
theorem xKm_81 : Cond.classLink (xo 11) 81 "[[J" ∈ tables_1 := List.mem_of_getElem? (i := 518) (by decide +kernel)
theorem xIn_all : ∀ w ∈ ([Cond.instantiable RX0 18, Cond.initialized RX0, Cond.instantiable RX1 10, Cond.initialized RX1, Cond.instantiable RX2 6, Cond.initialized RX2, Cond.instantiable RX3 5, Cond.initialized RX3, Cond.instantiable RX4 7, Cond.initialized RX4, Cond.instantiable RX5 15, Cond.initialized RX5, Cond.instantiable RX6 3, Cond.initialized RX6, Cond.instantiable RX7 10, Cond.initialized RX7, Cond.instantiable RX8 9, Cond.initialized RX8, Cond.instantiable RX9 3, Cond.initialized RX9, Cond.instantiable RX10 19, Cond.initialized RX10, Cond.instantiable RX11 18, Cond.initialized RX11, Cond.instantiable RX12 53, Cond.initialized RX12] : List Cond), w ∈ tables_1 := x_mem2 [1, 0, 0, 0, 0, 0, 0, 0, 0, 0, 0, 2, 5, 2, 7, 39, 9, 21, 18, 47, 170, 50, 24, 65, 531, 547] [22, 9, 20, 7, 19, 6, 21, 8, 18, 5, 24, 12, 16, 3, 14, 1, 23, 10, 17, 4, 15, 2, 13, 0, 25, 11] (by decide +kernel)
theorem xIns_0 : Cond.instantiable RX0 18 ∈ tables_1 := xIn_all _ (List.mem_of_getElem? (i := 0) rfl)
theorem xIni_0 : Cond.initialized RX0 ∈ tables_1 := xIn_all _ (List.mem_of_getElem? (i := 1) rfl)
theorem xIns_1 : Cond.instantiable RX1 10 ∈ tables_1 := xIn_all _ (List.mem_of_getElem? (i := 2) rfl)
theorem xIni_1 : Cond.initialized RX1 ∈ tables_1 := xIn_all _ (List.mem_of_getElem? (i := 3) rfl)
theorem xIns_2 : Cond.instantiable RX2 6 ∈ tables_1 := xIn_all _ (List.mem_of_getElem? (i := 4) rfl)
theorem xIni_2 : Cond.initialized RX2 ∈ tables_1 := xIn_all _ (List.mem_of_getElem? (i := 5) rfl)
theorem xIns_3 : Cond.instantiable RX3 5 ∈ tables_1 := xIn_all _ (List.mem_of_getElem? (i := 6) rfl)
theorem xIni_3 : Cond.initialized RX3 ∈ tables_1 := xIn_all _ (List.mem_of_getElem? (i := 7) rfl)
theorem xIns_4 : Cond.instantiable RX4 7 ∈ tables_1 := xIn_all _ (List.mem_of_getElem? (i := 8) rfl)
theorem xIni_4 : Cond.initialized RX4 ∈ tables_1 := xIn_all _ (List.mem_of_getElem? (i := 9) rfl)
theorem xIns_5 : Cond.instantiable RX5 15 ∈ tables_1 := xIn_all _ (List.mem_of_getElem? (i := 10) rfl)
theorem xIni_5 : Cond.initialized RX5 ∈ tables_1 := xIn_all _ (List.mem_of_getElem? (i := 11) rfl)
theorem xIns_6 : Cond.instantiable RX6 3 ∈ tables_1 := xIn_all _ (List.mem_of_getElem? (i := 12) rfl)
theorem xIni_6 : Cond.initialized RX6 ∈ tables_1 := xIn_all _ (List.mem_of_getElem? (i := 13) rfl)
theorem xIns_7 : Cond.instantiable RX7 10 ∈ tables_1 := xIn_all _ (List.mem_of_getElem? (i := 14) rfl)
theorem xIni_7 : Cond.initialized RX7 ∈ tables_1 := xIn_all _ (List.mem_of_getElem? (i := 15) rfl)
theorem xIns_8 : Cond.instantiable RX8 9 ∈ tables_1 := xIn_all _ (List.mem_of_getElem? (i := 16) rfl)
theorem xIni_8 : Cond.initialized RX8 ∈ tables_1 := xIn_all _ (List.mem_of_getElem? (i := 17) rfl)
theorem xIns_9 : Cond.instantiable RX9 3 ∈ tables_1 := xIn_all _ (List.mem_of_getElem? (i := 18) rfl)
theorem xIni_9 : Cond.initialized RX9 ∈ tables_1 := xIn_all _ (List.mem_of_getElem? (i := 19) rfl)
theorem xIns_10 : Cond.instantiable RX10 19 ∈ tables_1 := xIn_all _ (List.mem_of_getElem? (i := 20) rfl)
theorem xIni_10 : Cond.initialized RX10 ∈ tables_1 := xIn_all _ (List.mem_of_getElem? (i := 21) rfl)
theorem xIns_11 : Cond.instantiable RX11 18 ∈ tables_1 := xIn_all _ (List.mem_of_getElem? (i := 22) rfl)
theorem xIni_11 : Cond.initialized RX11 ∈ tables_1 := xIn_all _ (List.mem_of_getElem? (i := 23) rfl)
theorem xIns_12 : Cond.instantiable RX12 53 ∈ tables_1 := xIn_all _ (List.mem_of_getElem? (i := 24) rfl)
theorem xIni_12 : Cond.initialized RX12 ∈ tables_1 := xIn_all _ (List.mem_of_getElem? (i := 25) rfl)
