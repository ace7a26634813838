/-! links of the class files (own class, constant pool number, what it names), methods; each with its row of the tables -/
theorem x_memA {α : Type} {big ws : List α} (ps : List Nat) (hp : ws = ps.filterMap (fun i => big[i]?)) : ∀ w ∈ ws, w ∈ big := by
  intro w hw
  rw [hp] at hw
  obtain ⟨i, -, hi⟩ := List.mem_filterMap.mp hw
  exact List.mem_of_getElem? hi
def xOwn : List String := [RX0, RX1, RX2, RX3, RX4, RX5, RX6, RX7, RX8, RX9, RX10, RX11, RX12, RL, "java/lang/Integer", "java/util/Arrays"]
def xo (k : Nat) : String := xOwn.getD k ""
def xCl (k : Nat) : vw_C := vwCl.getD k (RX0, TX0, 0)
def xF (c k : Nat) : String × String × String × Bool := (xCl c).2.1 k
/-- the types of the fields: 0 int, 1 long, 2 a reference, 3 boolean -/
def xFTs : List (List Nat) := [[2, 2, 2, 2, 2, 2, 0, 2, 1, 3, 0, 0, 0, 3, 3, 3, 0, 0], [2, 2, 2, 2, 2, 2, 0, 2, 2, 2], [0, 0, 0, 0, 0, 0], [2, 0, 0, 2, 2], [0, 0, 3, 0, 0, 0, 0], [2, 2, 2, 2, 2, 2, 2, 2, 2, 3, 2, 2, 0, 0, 0], [0, 2, 2], [2, 2, 2, 2, 0, 0, 0, 0, 0, 2], [2, 2, 2, 2, 0, 0, 3, 2, 2], [0, 2, 2], [2, 2, 2, 2, 0, 0, 0, 0, 0, 0, 0, 0, 0, 0, 0, 0, 0, 3, 0], [2, 0, 2, 0, 0, 2, 2, 2, 2, 2, 2, 2, 2, 2, 2, 2, 2, 2], [0, 2, 2, 2, 2, 0, 2, 0, 0, 0, 0, 0, 0, 0, 2, 3, 0, 0, 0, 0, 2, 2, 3, 2, 2, 2, 2, 2, 2, 0, 2, 2, 1, 0, 0, 0, 0, 0, 0, 2, 0, 2, 2, 0, 0, 2, 2, 2, 0, 2, 2, 2, 2]]
def xFT (c k : Nat) : Nat := (xFTs.getD c []).getD k 9
def xStr : List String := ["place", "leg", "lift", "speed", "point", "turn", "water", "ceiling", "last", "worth", "start", "ground", "home", "field", "miles", "air", "down", "wind", "hill", "chance", "up", "sign", "sink", "period", "out", "at", "wet"]
def xFl : List (Nat × Nat × Nat × Nat) := [
  (0, 11, 0, 0), (0, 15, 0, 1), (0, 18, 0, 2), (0, 21, 0, 3), (0, 24, 0, 4), (0, 28, 0, 5), (0, 31, 0, 9), (0, 35, 0, 8), (0, 43, 0, 7), (0, 57, 0, 6), (0, 63, 0, 10), (0, 69, 0, 11),
  (0, 72, 0, 12), (0, 79, 0, 14), (0, 82, 0, 15), (0, 91, 0, 13), (0, 127, 0, 17), (0, 133, 0, 16), (1, 11, 1, 0), (1, 15, 1, 1), (1, 18, 1, 2), (1, 21, 1, 3), (1, 24, 1, 4), (1, 27, 1, 5),
  (1, 30, 1, 7), (1, 33, 1, 8), (1, 36, 1, 9), (1, 39, 1, 6), (2, 7, 2, 0), (2, 13, 2, 1), (2, 16, 2, 2), (2, 19, 2, 3), (2, 22, 2, 4), (2, 25, 2, 5), (3, 12, 3, 0), (3, 18, 3, 3),
  (3, 26, 3, 4), (3, 36, 3, 1), (3, 41, 3, 2), (4, 9, 4, 0), (4, 15, 4, 1), (4, 18, 4, 2), (4, 22, 4, 3), (4, 25, 4, 4), (4, 28, 4, 5), (4, 31, 4, 6), (5, 12, 5, 0), (5, 16, 5, 1),
  (5, 19, 5, 2), (5, 22, 5, 3), (5, 25, 5, 4), (5, 28, 5, 5), (5, 31, 5, 6), (5, 34, 5, 7), (5, 37, 5, 8), (5, 40, 5, 10), (5, 44, 5, 11), (5, 48, 5, 12), (5, 57, 5, 13), (5, 60, 5, 14),
  (5, 82, 5, 9), (6, 9, 6, 1), (6, 15, 6, 2), (6, 18, 6, 0), (7, 9, 7, 1), (7, 15, 7, 2), (7, 18, 7, 3), (7, 21, 7, 0), (7, 25, 7, 9), (7, 29, 7, 5), (7, 33, 7, 6), (7, 36, 7, 7),
  (7, 39, 7, 8), (7, 52, 7, 4), (8, 11, 8, 0), (8, 15, 8, 1), (8, 18, 8, 2), (8, 21, 8, 3), (8, 35, 8, 7), (8, 45, 8, 5), (8, 74, 8, 8), (8, 82, 8, 6), (8, 130, 8, 4), (9, 9, 9, 1),
  (9, 15, 9, 2), (9, 18, 9, 0), (10, 11, 10, 0), (10, 19, 10, 1), (10, 26, 10, 2), (10, 33, 10, 3), (10, 48, 10, 4), (10, 51, 10, 5), (10, 54, 10, 6), (10, 57, 10, 7), (10, 60, 10, 8), (10, 63, 10, 9),
  (10, 66, 10, 10), (10, 69, 10, 11), (10, 72, 10, 12), (10, 75, 10, 13), (10, 78, 10, 14), (10, 81, 10, 15), (10, 84, 10, 16), (10, 87, 10, 17), (10, 91, 10, 18), (11, 9, 11, 0), (11, 18, 11, 2), (11, 22, 11, 4),
  (11, 29, 11, 5), (11, 33, 11, 6), (11, 36, 11, 7), (11, 40, 11, 8), (11, 47, 11, 9), (11, 53, 11, 10), (11, 60, 11, 11), (11, 67, 11, 12), (11, 71, 11, 13), (11, 77, 11, 14), (11, 83, 11, 15), (11, 86, 11, 16),
  (11, 90, 11, 17), (11, 103, 11, 1), (11, 117, 11, 3), (12, 13, 12, 1), (12, 17, 12, 2), (12, 20, 12, 3), (12, 24, 12, 4), (12, 28, 12, 6), (12, 31, 12, 13), (12, 34, 12, 14), (12, 37, 12, 16), (12, 40, 12, 18),
  (12, 43, 12, 20), (12, 46, 12, 21), (12, 49, 12, 23), (12, 52, 12, 24), (12, 55, 12, 25), (12, 59, 12, 26), (12, 62, 12, 27), (12, 65, 12, 28), (12, 68, 12, 29), (12, 71, 12, 30), (12, 74, 12, 31), (12, 77, 12, 39),
  (12, 80, 12, 41), (12, 83, 12, 42), (12, 86, 12, 45), (12, 89, 12, 46), (12, 92, 12, 47), (12, 95, 12, 49), (12, 98, 12, 50), (12, 101, 12, 51), (12, 105, 12, 52), (12, 121, 12, 5), (12, 124, 12, 7), (12, 127, 12, 8),
  (12, 134, 12, 9), (12, 137, 12, 10), (12, 148, 12, 11), (12, 158, 12, 12), (12, 208, 12, 15), (12, 318, 12, 19), (12, 335, 12, 17), (12, 343, 12, 22), (12, 446, 12, 32), (12, 456, 12, 33), (12, 459, 12, 34), (12, 462, 12, 35),
  (12, 465, 12, 37), (12, 471, 12, 36), (12, 474, 12, 38), (12, 498, 12, 40), (12, 506, 12, 43), (12, 509, 12, 44), (12, 521, 12, 48)]
def xFn : List (Nat × Nat × Nat × Nat) := [
  (0, 47, 10, 4), (0, 60, 10, 15), (0, 66, 10, 16), (0, 118, 5, 12), (0, 130, 10, 14), (0, 167, 10, 10), (0, 176, 10, 1), (0, 180, 2, 0), (0, 185, 2, 1), (0, 195, 2, 5), (0, 198, 10, 0), (0, 201, 4, 0),
  (1, 43, 10, 4), (1, 56, 10, 5), (1, 59, 10, 1), (1, 63, 2, 0), (1, 68, 2, 1), (1, 71, 10, 2), (1, 75, 6, 0), (1, 88, 2, 5), (1, 91, 10, 0), (1, 95, 4, 0), (1, 119, 10, 9), (3, 22, 5, 10),
  (3, 50, 10, 15), (3, 53, 10, 16), (3, 64, 10, 10), (3, 71, 5, 6), (3, 75, 10, 4), (3, 78, 10, 0), (3, 82, 4, 0), (3, 87, 10, 9), (3, 98, 5, 12), (3, 125, 10, 1), (3, 129, 2, 1), (3, 134, 2, 0),
  (5, 52, 10, 10), (5, 63, 10, 4), (5, 76, 1, 0), (5, 86, 1, 1), (5, 89, 1, 7), (5, 96, 1, 4), (5, 97, 1, 3), (5, 116, 10, 15), (5, 119, 10, 16), (5, 129, 10, 0), (5, 133, 4, 0), (5, 138, 10, 9),
  (5, 152, 1, 2), (5, 165, 10, 14), (5, 177, 1, 5), (7, 64, 10, 9), (7, 67, 10, 16), (7, 70, 10, 0), (7, 74, 10, 15), (7, 77, 4, 0), (7, 119, 10, 4), (7, 125, 10, 6), (7, 156, 10, 5), (7, 159, 10, 2),
  (7, 163, 6, 0), (7, 168, 10, 18), (7, 191, 10, 7), (7, 193, 10, 8), (7, 195, 10, 10), (7, 211, 10, 14), (7, 219, 4, 1), (7, 232, 10, 1), (7, 236, 2, 0), (7, 241, 2, 1), (7, 244, 2, 2), (7, 246, 2, 3),
  (7, 248, 2, 4), (7, 250, 2, 5), (7, 264, 4, 2), (7, 268, 4, 3), (7, 270, 4, 4), (7, 272, 4, 5), (7, 275, 4, 6), (7, 284, 10, 11), (7, 289, 10, 12), (7, 294, 10, 13), (7, 300, 10, 17), (8, 39, 10, 14),
  (8, 52, 10, 0), (8, 56, 4, 0), (8, 61, 10, 15), (8, 64, 10, 10), (8, 71, 10, 16), (8, 86, 10, 4), (8, 89, 10, 18), (8, 111, 1, 0), (8, 114, 1, 2), (8, 120, 1, 4), (8, 121, 1, 3), (8, 124, 10, 9),
  (8, 127, 1, 1), (10, 43, 6, 0), (10, 47, 9, 0), (10, 111, 4, 0), (10, 114, 4, 1), (10, 117, 4, 2), (10, 120, 6, 1), (10, 124, 2, 4), (10, 131, 2, 2), (10, 138, 6, 2), (10, 141, 2, 3), (10, 144, 4, 4),
  (10, 160, 4, 3), (10, 163, 9, 1), (10, 165, 9, 2), (11, 120, 7, 7), (11, 124, 10, 6), (11, 127, 5, 9), (11, 157, 10, 3), (11, 161, 9, 0), (11, 170, 10, 0), (11, 174, 4, 3), (11, 190, 1, 8), (11, 193, 10, 4),
  (11, 199, 1, 7), (11, 213, 10, 2), (11, 277, 10, 9), (11, 280, 4, 0), (11, 283, 10, 10), (11, 286, 4, 2), (11, 303, 3, 2), (11, 306, 3, 1), (11, 319, 4, 5), (11, 322, 4, 6), (11, 328, 5, 6), (11, 334, 10, 8),
  (11, 340, 0, 15), (11, 347, 0, 12), (11, 361, 0, 6), (11, 383, 0, 16), (11, 386, 0, 17), (11, 410, 8, 4), (11, 413, 8, 3), (11, 416, 10, 5), (11, 427, 6, 0), (11, 428, 10, 15)]
def xFlC (e : Nat × Nat × Nat × Nat) : Cond := Cond.fieldLink (xo e.1) e.2.1 (xF e.2.2.1 e.2.2.2).1 (xF e.2.2.1 e.2.2.2).2.1 (xF e.2.2.1 e.2.2.2).2.2.1
def xFnC (e : Nat × Nat × Nat × Nat) : Cond := Cond.fieldLinkNest (xo e.1) e.2.1 (xF e.2.2.1 e.2.2.2).1 (xF e.2.2.1 e.2.2.2).2.1 (xF e.2.2.1 e.2.2.2).2.2.1 "LastCloud"
theorem xFl_ok : ∀ e ∈ xFl, xFlC e ∈ tables_1 := by
  have h : ∀ w ∈ xFl.map xFlC, w ∈ tables_1 := x_mem [427, 428, 429, 430, 431, 432, 437, 436, 435, 433, 438, 439, 440, 443, 444, 442, 448, 446, 348, 351, 354, 357, 360, 363, 366, 369, 371, 365, 176, 181, 186, 189, 192, 195, 403, 408, 409, 404, 406, 127, 136, 139, 143, 147, 150, 153, 1013, 1014, 1015, 1016, 1017, 1018, 1019, 1022, 1023, 1027, 1028, 1029, 1032, 1033, 1024, 91, 93, 86, 37, 38, 39, 36, 46, 41, 42, 43, 45, 40, 493, 494, 495, 496, 502, 500, 503, 501, 498, 111, 113, 108, 220, 228, 233, 237, 239, 247, 251, 254, 256, 259, 266, 273, 275, 277, 279, 285, 293, 297, 299, 576, 578, 580, 581, 582, 583, 584, 585, 586, 587, 588, 589, 590, 591, 592, 593, 577, 579, 1523, 1524, 1525, 1526, 1528, 1535, 1536, 1538, 1540, 1542, 1543, 1545, 1546, 1547, 1548, 1549, 1550, 1551, 1552, 1553, 1561, 1563, 1564, 1567, 1568, 1569, 1571, 1572, 1573, 1574, 1527, 1529, 1530, 1531, 1532, 1533, 1534, 1537, 1541, 1539, 1544, 1554, 1555, 1556, 1557, 1559, 1558, 1560, 1562, 1565, 1566, 1570] (by decide +kernel)
  exact fun e he => h _ (List.mem_map.mpr ⟨e, he, rfl⟩)
theorem xFn_ok : ∀ e ∈ xFn, xFnC e ∈ tables_1 := by
  have h : ∀ w ∈ xFn.map xFnC, w ∈ tables_1 := x_mem [243, 288, 295, 1031, 281, 270, 231, 179, 184, 197, 226, 134, 240, 248, 229, 177, 182, 234, 88, 196, 224, 131, 263, 1026, 284, 291, 267, 1020, 242, 223, 130, 261, 1030, 230, 183, 178, 268, 241, 349, 352, 367, 361, 358, 289, 296, 225, 133, 264, 356, 282, 364, 260, 292, 221, 286, 128, 245, 253, 249, 235, 89, 301, 255, 257, 271, 283, 138, 232, 180, 185, 188, 191, 194, 198, 141, 146, 149, 151, 154, 274, 276, 278, 298, 280, 222, 129, 287, 269, 294, 244, 300, 350, 355, 362, 359, 262, 353, 87, 109, 132, 137, 140, 92, 193, 187, 94, 190, 148, 145, 112, 114, 44, 252, 1025, 238, 110, 227, 144, 370, 246, 368, 236, 265, 135, 272, 142, 407, 405, 152, 155, 1021, 258, 445, 441, 434, 447, 449, 499, 497, 250, 90, 290] (by decide +kernel)
  exact fun e he => h _ (List.mem_map.mpr ⟨e, he, rfl⟩)
abbrev xMT : Type := MethodName × ByteArray × Nat × Option FieldType × Bool × Nat
def xMt_0 : List (xMT) := [
  (⟨RX0, "<init>", "()V"⟩, prog_2_method_1_code, 1, none, false, 1),
  (⟨RX0, "begin", "(LLastCloud$Sky;I)V"⟩, prog_2_method_2_code, 3, none, false, 3),
  (⟨RX0, "beginUnderAllLifts", "(LLastCloud$Sky;)V"⟩, prog_2_method_3_code, 2, none, false, 2),
  (⟨RX0, "takeOff", "(LLastCloud$Sky;)V"⟩, prog_2_method_4_code, 3, none, false, 2),
  (⟨RX0, "meetLift", "()V"⟩, prog_2_method_5_code, 1, none, false, 1),
  (⟨RX0, "draw", "(I)I"⟩, prog_2_method_6_code, 2, (some .int), false, 2),
  (⟨RX0, "follow", "(LLastCloud$Plan;LLastCloud$Sky;I)V"⟩, prog_2_method_7_code, 6, none, false, 4),
  (⟨RX0, "deedBy", "(LLastCloud$Plan;)I"⟩, prog_2_method_8_code, 2, (some .int), false, 2),
  (⟨RX0, "note", "(I)V"⟩, prog_2_method_9_code, 2, none, false, 2),
  (⟨RX0, "tryDeed", "(J)Z"⟩, prog_2_method_10_code, 4, (some .boolean), false, 2),
  (⟨RX0, "tryClimb", "()Z"⟩, prog_2_method_11_code, 2, (some .boolean), false, 1),
  (⟨RX0, "tryLeg", "(II)Z"⟩, prog_2_method_12_code, 9, (some .boolean), false, 3),
  (⟨RX0, "noted", "(II)I"⟩, prog_2_method_13_code, 3, (some .int), false, 3),
  (⟨RX0, "endOf", "(I)I"⟩, prog_2_method_14_code, 2, (some .int), false, 2),
  (⟨RX0, "spreadValue", "(I)I"⟩, prog_2_method_15_code, 2, (some .int), false, 2),
  (⟨RX1, "<init>", "()V"⟩, prog_3_method_1_code, 1, none, false, 1),
  (⟨RX1, "group", "(IZ)I"⟩, prog_3_method_2_code, 2, (some .int), true, 2),
  (⟨RX1, "build", "(LLastCloud$Sky;)V"⟩, prog_3_method_3_code, 4, none, false, 2),
  (⟨RX1, "addFrom", "(LLastCloud$Sky;IZ)V"⟩, prog_3_method_4_code, 7, none, false, 4),
  (⟨RX1, "add", "(LLastCloud$Sky;IZIZ)V"⟩, prog_3_method_5_code, 12, none, false, 6)]
set_option maxRecDepth 100000 in
theorem xMc_0 : ∀ m ∈ xMt_0, Cond.code m.1 m.2.1 m.2.2.1 m.2.2.2.1 ∈ tables_1 := List.forall_mem_cons.mpr ⟨List.mem_of_getElem? (i := 425) rfl, List.forall_mem_cons.mpr ⟨List.mem_of_getElem? (i := 1330) rfl, List.forall_mem_cons.mpr ⟨List.mem_of_getElem? (i := 1265) rfl, List.forall_mem_cons.mpr ⟨List.mem_of_getElem? (i := 1269) rfl, List.forall_mem_cons.mpr ⟨List.mem_of_getElem? (i := 1275) rfl, List.forall_mem_cons.mpr ⟨List.mem_of_getElem? (i := 1279) rfl, List.forall_mem_cons.mpr ⟨List.mem_of_getElem? (i := 1326) rfl, List.forall_mem_cons.mpr ⟨List.mem_of_getElem? (i := 1287) rfl, List.forall_mem_cons.mpr ⟨List.mem_of_getElem? (i := 1335) rfl, List.forall_mem_cons.mpr ⟨List.mem_of_getElem? (i := 1293) rfl, List.forall_mem_cons.mpr ⟨List.mem_of_getElem? (i := 1298) rfl, List.forall_mem_cons.mpr ⟨List.mem_of_getElem? (i := 1306) rfl, List.forall_mem_cons.mpr ⟨List.mem_of_getElem? (i := 1346) rfl, List.forall_mem_cons.mpr ⟨List.mem_of_getElem? (i := 1354) rfl, List.forall_mem_cons.mpr ⟨List.mem_of_getElem? (i := 1382) rfl, List.forall_mem_cons.mpr ⟨List.mem_of_getElem? (i := 346) rfl, List.forall_mem_cons.mpr ⟨List.mem_of_getElem? (i := 563) rfl, List.forall_mem_cons.mpr ⟨List.mem_of_getElem? (i := 531) rfl, List.forall_mem_cons.mpr ⟨List.mem_of_getElem? (i := 535) rfl, List.forall_mem_cons.mpr ⟨List.mem_of_getElem? (i := 539) rfl, fun _ h => absurd h List.not_mem_nil⟩⟩⟩⟩⟩⟩⟩⟩⟩⟩⟩⟩⟩⟩⟩⟩⟩⟩⟩⟩
def xMt_1 : List (xMT) := [
  (⟨RX1, "speedOf", "(I)I"⟩, prog_3_method_6_code, 2, (some .int), false, 2),
  (⟨RX1, "findEdges", "(LLastCloud$Sky;Z)V"⟩, prog_3_method_7_code, 8, none, false, 3),
  (⟨RX1, "leastByHop", "(LLastCloud$Sky;I)I"⟩, prog_3_method_8_code, 8, (some .int), false, 3),
  (⟨RX1, "glide", "(LLastCloud$Sky;IIZ)V"⟩, prog_3_method_9_code, 8, none, false, 5),
  (⟨RX1, "raiseFrom", "(LLastCloud$Sky;II)Z"⟩, prog_3_method_10_code, 7, (some .boolean), false, 4),
  (⟨RX1, "longestStreet", "(LLastCloud$Sky;)I"⟩, prog_3_method_11_code, 5, (some .int), false, 2),
  (⟨RX1, "growStreets", "(II)V"⟩, prog_3_method_12_code, 5, none, false, 3),
  (⟨RX2, "<init>", "()V"⟩, prog_4_method_1_code, 1, none, false, 1),
  (⟨RX2, "copyFrom", "(LLastCloud$Leg;)V"⟩, prog_4_method_2_code, 2, none, false, 2),
  (⟨RX3, "<init>", "()V"⟩, prog_5_method_1_code, 1, none, false, 1),
  (⟨RX3, "spreadFromStart", "(LLastCloud$Plan;)V"⟩, prog_5_method_2_code, 3, none, false, 2),
  (⟨RX3, "arrive", "(II)V"⟩, prog_5_method_3_code, 3, none, false, 3),
  (⟨RX3, "spreadFrom", "(IZ)V"⟩, prog_5_method_4_code, 6, none, false, 3),
  (⟨RX3, "follow", "(IZIIZ)V"⟩, prog_5_method_5_code, 8, none, false, 6),
  (⟨RX3, "followLeg", "(IIZII)V"⟩, prog_5_method_6_code, 12, none, false, 6),
  (⟨RX4, "<init>", "()V"⟩, prog_6_method_1_code, 1, none, false, 1),
  (⟨RX4, "clear", "()V"⟩, prog_6_method_2_code, 1, none, false, 1),
  (⟨RX4, "copyFrom", "(LLastCloud$Place;)V"⟩, prog_6_method_3_code, 2, none, false, 2),
  (⟨RX4, "afterSight", "(II)I"⟩, prog_6_method_4_code, 4, (some .int), false, 3),
  (⟨RX4, "bySign", "(IZI)I"⟩, prog_6_method_5_code, 6, (some .int), false, 4)]
set_option maxRecDepth 100000 in
theorem xMc_1 : ∀ m ∈ xMt_1, Cond.code m.1 m.2.1 m.2.2.1 m.2.2.2.1 ∈ tables_1 := List.forall_mem_cons.mpr ⟨List.mem_of_getElem? (i := 1081) rfl, List.forall_mem_cons.mpr ⟨List.mem_of_getElem? (i := 560) rfl, List.forall_mem_cons.mpr ⟨List.mem_of_getElem? (i := 572) rfl, List.forall_mem_cons.mpr ⟨List.mem_of_getElem? (i := 922) rfl, List.forall_mem_cons.mpr ⟨List.mem_of_getElem? (i := 927) rfl, List.forall_mem_cons.mpr ⟨List.mem_of_getElem? (i := 955) rfl, List.forall_mem_cons.mpr ⟨List.mem_of_getElem? (i := 964) rfl, List.forall_mem_cons.mpr ⟨List.mem_of_getElem? (i := 174) rfl, List.forall_mem_cons.mpr ⟨List.mem_of_getElem? (i := 1470) rfl, List.forall_mem_cons.mpr ⟨List.mem_of_getElem? (i := 400) rfl, List.forall_mem_cons.mpr ⟨List.mem_of_getElem? (i := 1196) rfl, List.forall_mem_cons.mpr ⟨List.mem_of_getElem? (i := 1207) rfl, List.forall_mem_cons.mpr ⟨List.mem_of_getElem? (i := 1211) rfl, List.forall_mem_cons.mpr ⟨List.mem_of_getElem? (i := 1215) rfl, List.forall_mem_cons.mpr ⟨List.mem_of_getElem? (i := 1225) rfl, List.forall_mem_cons.mpr ⟨List.mem_of_getElem? (i := 125) rfl, List.forall_mem_cons.mpr ⟨List.mem_of_getElem? (i := 219) rfl, List.forall_mem_cons.mpr ⟨List.mem_of_getElem? (i := 1466) rfl, List.forall_mem_cons.mpr ⟨List.mem_of_getElem? (i := 889) rfl, List.forall_mem_cons.mpr ⟨List.mem_of_getElem? (i := 893) rfl, fun _ h => absurd h List.not_mem_nil⟩⟩⟩⟩⟩⟩⟩⟩⟩⟩⟩⟩⟩⟩⟩⟩⟩⟩⟩⟩
def xMt_2 : List (xMT) := [
  (⟨RX5, "<init>", "()V"⟩, prog_7_method_1_code, 1, none, false, 1),
  (⟨RX5, "spot", "(IZII)I"⟩, prog_7_method_2_code, 4, (some .int), true, 4),
  (⟨RX5, "begin", "(LLastCloud$Sky;LLastCloud$Hops;I)V"⟩, prog_7_method_3_code, 6, none, false, 4),
  (⟨RX5, "leastByRule", "(IZ)I"⟩, prog_7_method_4_code, 5, (some .int), false, 3),
  (⟨RX5, "setChance", "(II)V"⟩, prog_7_method_5_code, 3, none, false, 3),
  (⟨RX5, "setDryWin", "(II)V"⟩, prog_7_method_6_code, 3, none, false, 3),
  (⟨RX5, "worthAt", "(IZ)I"⟩, prog_7_method_7_code, 3, (some .int), false, 3),
  (⟨RX5, "deedAt", "(IZ)I"⟩, prog_7_method_8_code, 3, (some .int), false, 3),
  (⟨RX5, "homeAt", "(IZ)I"⟩, prog_7_method_9_code, 3, (some .int), false, 3),
  (⟨RX5, "startWorth", "(Z)I"⟩, prog_7_method_10_code, 2, (some .int), false, 2),
  (⟨RX5, "fill", "(IZ)V"⟩, prog_7_method_11_code, 4, none, false, 3),
  (⟨RX5, "fillPeriod", "(IZ)V"⟩, prog_7_method_12_code, 7, none, false, 3),
  (⟨RX5, "bestHop", "(IZII)I"⟩, prog_7_method_13_code, 10, (some .int), false, 5),
  (⟨RX5, "behind", "(IIZI)I"⟩, prog_7_method_14_code, 6, (some .int), false, 5),
  (⟨RX5, "settle", "(IIIIIZ)V"⟩, prog_7_method_15_code, 13, none, false, 7),
  (⟨RX6, "<init>", "()V"⟩, prog_8_method_1_code, 1, none, false, 1),
  (⟨RX6, "add", "(II)V"⟩, prog_8_method_2_code, 3, none, false, 3),
  (⟨RX6, "copyFrom", "(LLastCloud$Polar;)V"⟩, prog_8_method_3_code, 2, none, false, 2),
  (⟨RX6, "fastest", "(I)I"⟩, prog_8_method_4_code, 4, (some .int), false, 2),
  (⟨RX6, "tenHours", "(II)I"⟩, prog_8_method_5_code, 3, (some .int), false, 3)]
set_option maxRecDepth 100000 in
theorem xMc_2 : ∀ m ∈ xMt_2, Cond.code m.1 m.2.1 m.2.2.1 m.2.2.2.1 ∈ tables_1 := List.forall_mem_cons.mpr ⟨List.mem_of_getElem? (i := 1010) rfl, List.forall_mem_cons.mpr ⟨List.mem_of_getElem? (i := 1106) rfl, List.forall_mem_cons.mpr ⟨List.mem_of_getElem? (i := 1068) rfl, List.forall_mem_cons.mpr ⟨List.mem_of_getElem? (i := 1074) rfl, List.forall_mem_cons.mpr ⟨List.mem_of_getElem? (i := 1239) rfl, List.forall_mem_cons.mpr ⟨List.mem_of_getElem? (i := 1188) rfl, List.forall_mem_cons.mpr ⟨List.mem_of_getElem? (i := 1123) rfl, List.forall_mem_cons.mpr ⟨List.mem_of_getElem? (i := 1136) rfl, List.forall_mem_cons.mpr ⟨List.mem_of_getElem? (i := 1119) rfl, List.forall_mem_cons.mpr ⟨List.mem_of_getElem? (i := 1154) rfl, List.forall_mem_cons.mpr ⟨List.mem_of_getElem? (i := 1090) rfl, List.forall_mem_cons.mpr ⟨List.mem_of_getElem? (i := 1094) rfl, List.forall_mem_cons.mpr ⟨List.mem_of_getElem? (i := 1098) rfl, List.forall_mem_cons.mpr ⟨List.mem_of_getElem? (i := 1102) rfl, List.forall_mem_cons.mpr ⟨List.mem_of_getElem? (i := 1110) rfl, List.forall_mem_cons.mpr ⟨List.mem_of_getElem? (i := 84) rfl, List.forall_mem_cons.mpr ⟨List.mem_of_getElem? (i := 818) rfl, List.forall_mem_cons.mpr ⟨List.mem_of_getElem? (i := 1474) rfl, List.forall_mem_cons.mpr ⟨List.mem_of_getElem? (i := 975) rfl, List.forall_mem_cons.mpr ⟨List.mem_of_getElem? (i := 983) rfl, fun _ h => absurd h List.not_mem_nil⟩⟩⟩⟩⟩⟩⟩⟩⟩⟩⟩⟩⟩⟩⟩⟩⟩⟩⟩⟩
def xMt_3 : List (xMT) := [
  (⟨RX6, "flattest", "()I"⟩, prog_8_method_6_code, 3, (some .int), false, 1),
  (⟨RX7, "<init>", "([B)V"⟩, prog_9_method_1_code, 2, none, false, 2),
  (⟨RX7, "readAll", "(ILLastCloud$Sky;)I"⟩, prog_9_method_2_code, 4, (some .int), false, 3),
  (⟨RX7, "splitText", "(I)V"⟩, prog_9_method_3_code, 5, none, false, 2),
  (⟨RX7, "addToken", "(III)V"⟩, prog_9_method_4_code, 4, none, false, 4),
  (⟨RX7, "kindOf", "(I)I"⟩, prog_9_method_5_code, 1, (some .int), true, 1),
  (⟨RX7, "fail", "(I)V"⟩, prog_9_method_6_code, 2, none, false, 2),
  (⟨RX7, "goOn", "()V"⟩, prog_9_method_7_code, 1, none, false, 1),
  (⟨RX7, "isWord", "(Ljava/lang/String;)Z"⟩, prog_9_method_8_code, 3, (some .boolean), false, 2),
  (⟨RX7, "takeIf", "(Ljava/lang/String;)Z"⟩, prog_9_method_9_code, 2, (some .boolean), false, 2),
  (⟨RX7, "takeWord", "(Ljava/lang/String;)V"⟩, prog_9_method_10_code, 2, none, false, 2),
  (⟨RX7, "takeNumber", "(II)I"⟩, prog_9_method_11_code, 5, (some .int), false, 3),
  (⟨RX7, "takeSigned", "(I)I"⟩, prog_9_method_12_code, 3, (some .int), false, 2),
  (⟨RX7, "takePlace", "(I)I"⟩, prog_9_method_13_code, 4, (some .int), false, 2),
  (⟨RX7, "readLine", "()V"⟩, prog_9_method_14_code, 2, none, false, 1),
  (⟨RX7, "lineKind", "()I"⟩, prog_9_method_15_code, 1, (some .int), false, 1),
  (⟨RX7, "isFull", "(I)Z"⟩, prog_9_method_16_code, 2, (some .boolean), false, 2),
  (⟨RX7, "readRest", "(I)V"⟩, prog_9_method_17_code, 2, none, false, 2),
  (⟨RX7, "readPlace", "()V"⟩, prog_9_method_18_code, 4, none, false, 1),
  (⟨RX7, "readLeg", "()V"⟩, prog_9_method_19_code, 8, none, false, 1)]
set_option maxRecDepth 100000 in
theorem xMc_3 : ∀ m ∈ xMt_3, Cond.code m.1 m.2.1 m.2.2.1 m.2.2.2.1 ∈ tables_1 := List.forall_mem_cons.mpr ⟨List.mem_of_getElem? (i := 991) rfl, List.forall_mem_cons.mpr ⟨List.mem_of_getElem? (i := 34) rfl, List.forall_mem_cons.mpr ⟨List.mem_of_getElem? (i := 652) rfl, List.forall_mem_cons.mpr ⟨List.mem_of_getElem? (i := 657) rfl, List.forall_mem_cons.mpr ⟨List.mem_of_getElem? (i := 664) rfl, List.forall_mem_cons.mpr ⟨List.mem_of_getElem? (i := 660) rfl, List.forall_mem_cons.mpr ⟨List.mem_of_getElem? (i := 739) rfl, List.forall_mem_cons.mpr ⟨List.mem_of_getElem? (i := 753) rfl, List.forall_mem_cons.mpr ⟨List.mem_of_getElem? (i := 677) rfl, List.forall_mem_cons.mpr ⟨List.mem_of_getElem? (i := 776) rfl, List.forall_mem_cons.mpr ⟨List.mem_of_getElem? (i := 766) rfl, List.forall_mem_cons.mpr ⟨List.mem_of_getElem? (i := 770) rfl, List.forall_mem_cons.mpr ⟨List.mem_of_getElem? (i := 791) rfl, List.forall_mem_cons.mpr ⟨List.mem_of_getElem? (i := 785) rfl, List.forall_mem_cons.mpr ⟨List.mem_of_getElem? (i := 668) rfl, List.forall_mem_cons.mpr ⟨List.mem_of_getElem? (i := 672) rfl, List.forall_mem_cons.mpr ⟨List.mem_of_getElem? (i := 743) rfl, List.forall_mem_cons.mpr ⟨List.mem_of_getElem? (i := 757) rfl, List.forall_mem_cons.mpr ⟨List.mem_of_getElem? (i := 761) rfl, List.forall_mem_cons.mpr ⟨List.mem_of_getElem? (i := 781) rfl, fun _ h => absurd h List.not_mem_nil⟩⟩⟩⟩⟩⟩⟩⟩⟩⟩⟩⟩⟩⟩⟩⟩⟩⟩⟩⟩
def xMt_4 : List (xMT) := [
  (⟨RX7, "readLift", "()V"⟩, prog_9_method_20_code, 7, none, false, 1),
  (⟨RX7, "readSpeed", "()V"⟩, prog_9_method_21_code, 3, none, false, 1),
  (⟨RX7, "readWorth", "()V"⟩, prog_9_method_22_code, 1, none, false, 1),
  (⟨RX7, "readStart", "()V"⟩, prog_9_method_23_code, 4, none, false, 1),
  (⟨RX8, "<init>", "()V"⟩, prog_10_method_1_code, 1, none, false, 1),
  (⟨RX8, "spot", "(III)I"⟩, prog_10_method_2_code, 3, (some .int), true, 3),
  (⟨RX8, "fewest", "(LLastCloud$Sky;LLastCloud$Hops;I)I"⟩, prog_10_method_3_code, 6, (some .int), false, 4),
  (⟨RX8, "begin", "(LLastCloud$Sky;LLastCloud$Hops;I)V"⟩, prog_10_method_4_code, 7, none, false, 4),
  (⟨RX8, "fillPeriods", "(I)V"⟩, prog_10_method_5_code, 6, none, false, 2),
  (⟨RX8, "leastByHops", "(III)I"⟩, prog_10_method_6_code, 9, (some .int), false, 4),
  (⟨RX8, "behind", "(III)I"⟩, prog_10_method_7_code, 5, (some .int), false, 4),
  (⟨RX8, "walk", "(I)V"⟩, prog_10_method_8_code, 9, none, false, 2),
  (⟨RX8, "firstHop", "(IIII)I"⟩, prog_10_method_9_code, 7, (some .int), false, 5),
  (⟨RX8, "addToWay", "(I)V"⟩, prog_10_method_10_code, 2, none, false, 2),
  (⟨RX9, "<init>", "()V"⟩, prog_11_method_1_code, 1, none, false, 1),
  (⟨RX9, "add", "(II)V"⟩, prog_11_method_2_code, 3, none, false, 3),
  (⟨RX9, "copyFrom", "(LLastCloud$Sights;)V"⟩, prog_11_method_3_code, 2, none, false, 2),
  (⟨RX10, "<init>", "()V"⟩, prog_12_method_1_code, 2, none, false, 1),
  (⟨RX10, "clear", "()V"⟩, prog_12_method_2_code, 2, none, false, 1),
  (⟨RX10, "copyFrom", "(LLastCloud$Sky;)V"⟩, prog_12_method_3_code, 3, none, false, 2)]
set_option maxRecDepth 100000 in
theorem xMc_4 : ∀ m ∈ xMt_4, Cond.code m.1 m.2.1 m.2.2.1 m.2.2.2.1 ∈ tables_1 := List.forall_mem_cons.mpr ⟨List.mem_of_getElem? (i := 798) rfl, List.forall_mem_cons.mpr ⟨List.mem_of_getElem? (i := 813) rfl, List.forall_mem_cons.mpr ⟨List.mem_of_getElem? (i := 822) rfl, List.forall_mem_cons.mpr ⟨List.mem_of_getElem? (i := 828) rfl, List.forall_mem_cons.mpr ⟨List.mem_of_getElem? (i := 491) rfl, List.forall_mem_cons.mpr ⟨List.mem_of_getElem? (i := 1404) rfl, List.forall_mem_cons.mpr ⟨List.mem_of_getElem? (i := 1393) rfl, List.forall_mem_cons.mpr ⟨List.mem_of_getElem? (i := 1397) rfl, List.forall_mem_cons.mpr ⟨List.mem_of_getElem? (i := 1408) rfl, List.forall_mem_cons.mpr ⟨List.mem_of_getElem? (i := 1412) rfl, List.forall_mem_cons.mpr ⟨List.mem_of_getElem? (i := 1417) rfl, List.forall_mem_cons.mpr ⟨List.mem_of_getElem? (i := 1427) rfl, List.forall_mem_cons.mpr ⟨List.mem_of_getElem? (i := 1436) rfl, List.forall_mem_cons.mpr ⟨List.mem_of_getElem? (i := 1431) rfl, List.forall_mem_cons.mpr ⟨List.mem_of_getElem? (i := 106) rfl, List.forall_mem_cons.mpr ⟨List.mem_of_getElem? (i := 901) rfl, List.forall_mem_cons.mpr ⟨List.mem_of_getElem? (i := 1481) rfl, List.forall_mem_cons.mpr ⟨List.mem_of_getElem? (i := 74) rfl, List.forall_mem_cons.mpr ⟨List.mem_of_getElem? (i := 215) rfl, List.forall_mem_cons.mpr ⟨List.mem_of_getElem? (i := 1462) rfl, fun _ h => absurd h List.not_mem_nil⟩⟩⟩⟩⟩⟩⟩⟩⟩⟩⟩⟩⟩⟩⟩⟩⟩⟩⟩⟩
def xMt_5 : List (xMT) := [
  (⟨RX10, "hasPlace", "(I)Z"⟩, prog_12_method_4_code, 2, (some .boolean), false, 2),
  (⟨RX10, "hasLeg", "(I)Z"⟩, prog_12_method_5_code, 2, (some .boolean), false, 2),
  (⟨RX10, "hasSpeed", "(I)Z"⟩, prog_12_method_6_code, 2, (some .boolean), false, 2),
  (⟨RX10, "hasHeight", "(I)Z"⟩, prog_12_method_7_code, 2, (some .boolean), false, 2),
  (⟨RX10, "hasState", "(IIIZ)Z"⟩, prog_12_method_8_code, 5, (some .boolean), false, 5),
  (⟨RX10, "hasStart", "()Z"⟩, prog_12_method_9_code, 1, (some .boolean), false, 1),
  (⟨RX10, "startsWet", "()Z"⟩, prog_12_method_10_code, 1, (some .boolean), false, 1),
  (⟨RX10, "isToLandAt", "(I)Z"⟩, prog_12_method_11_code, 2, (some .boolean), false, 2),
  (⟨RX10, "allPlaces", "()I"⟩, prog_12_method_12_code, 1, (some .int), false, 1),
  (⟨RX10, "liftBits", "()I"⟩, prog_12_method_13_code, 3, (some .int), false, 1),
  (⟨RX10, "overGround", "(IZIZ)I"⟩, prog_12_method_14_code, 6, (some .int), false, 5),
  (⟨RX10, "takes", "(IZIZ)I"⟩, prog_12_method_15_code, 6, (some .int), false, 5),
  (⟨RX10, "loses", "(IZIZ)I"⟩, prog_12_method_16_code, 6, (some .int), false, 5),
  (⟨RX10, "wins", "(IZ)I"⟩, prog_12_method_17_code, 3, (some .int), false, 3),
  (⟨RX10, "winsBy", "(IZ)I"⟩, prog_12_method_18_code, 4, (some .int), false, 3),
  (⟨RX10, "capped", "(I)I"⟩, prog_12_method_19_code, 2, (some .int), false, 2),
  (⟨RX10, "chanceNow", "(I)I"⟩, prog_12_method_20_code, 4, (some .int), false, 2),
  (⟨RX10, "fastSpeedTo", "(I)I"⟩, prog_12_method_21_code, 3, (some .int), false, 2),
  (⟨RX10, "landingWorth", "(III)I"⟩, prog_12_method_22_code, 5, (some .int), false, 4),
  (⟨RX11, "<init>", "()V"⟩, prog_1_method_1_code, 2, none, false, 1)]
set_option maxRecDepth 100000 in
theorem xMc_5 : ∀ m ∈ xMt_5, Cond.code m.1 m.2.1 m.2.2.1 m.2.2.2.1 ∈ tables_1 := List.forall_mem_cons.mpr ⟨List.mem_of_getElem? (i := 809) rfl, List.forall_mem_cons.mpr ⟨List.mem_of_getElem? (i := 852) rfl, List.forall_mem_cons.mpr ⟨List.mem_of_getElem? (i := 856) rfl, List.forall_mem_cons.mpr ⟨List.mem_of_getElem? (i := 918) rfl, List.forall_mem_cons.mpr ⟨List.mem_of_getElem? (i := 1002) rfl, List.forall_mem_cons.mpr ⟨List.mem_of_getElem? (i := 834) rfl, List.forall_mem_cons.mpr ⟨List.mem_of_getElem? (i := 1150) rfl, List.forall_mem_cons.mpr ⟨List.mem_of_getElem? (i := 567) rfl, List.forall_mem_cons.mpr ⟨List.mem_of_getElem? (i := 959) rfl, List.forall_mem_cons.mpr ⟨List.mem_of_getElem? (i := 802) rfl, List.forall_mem_cons.mpr ⟨List.mem_of_getElem? (i := 547) rfl, List.forall_mem_cons.mpr ⟨List.mem_of_getElem? (i := 543) rfl, List.forall_mem_cons.mpr ⟨List.mem_of_getElem? (i := 551) rfl, List.forall_mem_cons.mpr ⟨List.mem_of_getElem? (i := 872) rfl, List.forall_mem_cons.mpr ⟨List.mem_of_getElem? (i := 876) rfl, List.forall_mem_cons.mpr ⟨List.mem_of_getElem? (i := 931) rfl, List.forall_mem_cons.mpr ⟨List.mem_of_getElem? (i := 885) rfl, List.forall_mem_cons.mpr ⟨List.mem_of_getElem? (i := 1085) rfl, List.forall_mem_cons.mpr ⟨List.mem_of_getElem? (i := 1114) rfl, List.forall_mem_cons.mpr ⟨List.mem_of_getElem? (i := 26) rfl, fun _ h => absurd h List.not_mem_nil⟩⟩⟩⟩⟩⟩⟩⟩⟩⟩⟩⟩⟩⟩⟩⟩⟩⟩⟩⟩
def xMt_6 : List (xMT) := [
  (⟨RX11, "feed", "(IIIII)I"⟩, prog_1_method_2_code, 6, (some .int), false, 6),
  (⟨RX11, "putNumber", "(I)V"⟩, prog_1_method_3_code, 3, none, false, 2),
  (⟨RX11, "end", "(I)I"⟩, prog_1_method_4_code, 2, (some .int), false, 2),
  (⟨RX11, "sky", "()I"⟩, prog_1_method_5_code, 2, (some .int), false, 1),
  (⟨RX11, "fault", "(I)I"⟩, prog_1_method_6_code, 2, (some .int), false, 2),
  (⟨RX11, "forgetPlans", "()V"⟩, prog_1_method_7_code, 2, none, false, 1),
  (⟨RX11, "periods", "(IZIZ)I"⟩, prog_1_method_8_code, 5, (some .int), false, 5),
  (⟨RX11, "loss", "(IZIZ)I"⟩, prog_1_method_9_code, 5, (some .int), false, 5),
  (⟨RX11, "climb", "(IZ)I"⟩, prog_1_method_10_code, 3, (some .int), false, 3),
  (⟨RX11, "chance", "(I)I"⟩, prog_1_method_11_code, 2, (some .int), false, 2),
  (⟨RX11, "sight", "(II)I"⟩, prog_1_method_12_code, 3, (some .int), false, 3),
  (⟨RX11, "unsee", "(I)I"⟩, prog_1_method_13_code, 2, (some .int), false, 2),
  (⟨RX11, "sign", "(IZ)I"⟩, prog_1_method_14_code, 4, (some .int), false, 3),
  (⟨RX11, "reach", "(IIIZ)I"⟩, prog_1_method_15_code, 5, (some .int), false, 5),
  (⟨RX11, "fields", "(IIZ)I"⟩, prog_1_method_16_code, 6, (some .int), false, 4),
  (⟨RX11, "edge", "(IZ)I"⟩, prog_1_method_17_code, 4, (some .int), false, 3),
  (⟨RX11, "tour", "(IIZ)I"⟩, prog_1_method_18_code, 7, (some .int), false, 4),
  (⟨RX11, "street", "()I"⟩, prog_1_method_19_code, 1, (some .int), false, 1),
  (⟨RX11, "fast", "(I)I"⟩, prog_1_method_20_code, 2, (some .int), false, 2),
  (⟨RX11, "average", "(I)I"⟩, prog_1_method_21_code, 3, (some .int), false, 2)]
set_option maxRecDepth 100000 in
theorem xMc_6 : ∀ m ∈ xMt_6, Cond.code m.1 m.2.1 m.2.2.1 m.2.2.2.1 ∈ tables_1 := List.forall_mem_cons.mpr ⟨List.mem_of_getElem? (i := 635) rfl, List.forall_mem_cons.mpr ⟨List.mem_of_getElem? (i := 639) rfl, List.forall_mem_cons.mpr ⟨List.mem_of_getElem? (i := 643) rfl, List.forall_mem_cons.mpr ⟨List.mem_of_getElem? (i := 647) rfl, List.forall_mem_cons.mpr ⟨List.mem_of_getElem? (i := 844) rfl, List.forall_mem_cons.mpr ⟨List.mem_of_getElem? (i := 840) rfl, List.forall_mem_cons.mpr ⟨List.mem_of_getElem? (i := 848) rfl, List.forall_mem_cons.mpr ⟨List.mem_of_getElem? (i := 861) rfl, List.forall_mem_cons.mpr ⟨List.mem_of_getElem? (i := 867) rfl, List.forall_mem_cons.mpr ⟨List.mem_of_getElem? (i := 881) rfl, List.forall_mem_cons.mpr ⟨List.mem_of_getElem? (i := 897) rfl, List.forall_mem_cons.mpr ⟨List.mem_of_getElem? (i := 905) rfl, List.forall_mem_cons.mpr ⟨List.mem_of_getElem? (i := 909) rfl, List.forall_mem_cons.mpr ⟨List.mem_of_getElem? (i := 914) rfl, List.forall_mem_cons.mpr ⟨List.mem_of_getElem? (i := 936) rfl, List.forall_mem_cons.mpr ⟨List.mem_of_getElem? (i := 941) rfl, List.forall_mem_cons.mpr ⟨List.mem_of_getElem? (i := 947) rfl, List.forall_mem_cons.mpr ⟨List.mem_of_getElem? (i := 951) rfl, List.forall_mem_cons.mpr ⟨List.mem_of_getElem? (i := 968) rfl, List.forall_mem_cons.mpr ⟨List.mem_of_getElem? (i := 979) rfl, fun _ h => absurd h List.not_mem_nil⟩⟩⟩⟩⟩⟩⟩⟩⟩⟩⟩⟩⟩⟩⟩⟩⟩⟩⟩⟩
def xMt_7 : List (xMT) := [
  (⟨RX11, "isClimb", "(I)Z"⟩, prog_1_method_22_code, 1, (some .boolean), true, 1),
  (⟨RX11, "farthest", "()I"⟩, prog_1_method_23_code, 1, (some .int), false, 1),
  (⟨RX11, "worth", "(IIIIZZ)I"⟩, prog_1_method_24_code, 8, (some .int), false, 7),
  (⟨RX11, "deed", "(IIIIZZ)I"⟩, prog_1_method_25_code, 8, (some .int), false, 7),
  (⟨RX11, "home", "(IIIIZZ)I"⟩, prog_1_method_26_code, 8, (some .int), false, 7),
  (⟨RX11, "isRule", "(I)Z"⟩, prog_1_method_27_code, 1, (some .boolean), true, 1),
  (⟨RX11, "planOf", "(I)LLastCloud$Plan;"⟩, prog_1_method_28_code, 3, (some (.object "LastCloud$Plan")), false, 2),
  (⟨RX11, "trialPlan", "()LLastCloud$Plan;"⟩, prog_1_method_29_code, 1, (some (.object "LastCloud$Plan")), false, 1),
  (⟨RX11, "start", "(I)I"⟩, prog_1_method_30_code, 2, (some .int), false, 2),
  (⟨RX11, "cost", "(I)I"⟩, prog_1_method_31_code, 3, (some .int), false, 2),
  (⟨RX11, "leave", "(IIZ)I"⟩, prog_1_method_32_code, 4, (some .int), false, 4),
  (⟨RX11, "on", "(IIZ)I"⟩, prog_1_method_33_code, 4, (some .int), false, 4),
  (⟨RX11, "leastToLeave", "(IIZZ)I"⟩, prog_1_method_34_code, 7, (some .int), false, 5),
  (⟨RX11, "last", "(II)I"⟩, prog_1_method_35_code, 5, (some .int), false, 3),
  (⟨RX11, "weak", "(III)I"⟩, prog_1_method_36_code, 7, (some .int), false, 4),
  (⟨RX11, "ends", "(IZ)I"⟩, prog_1_method_37_code, 4, (some .int), false, 3),
  (⟨RX11, "share", "(I)I"⟩, prog_1_method_38_code, 2, (some .int), false, 2),
  (⟨RX11, "known", "(I)I"⟩, prog_1_method_39_code, 5, (some .int), false, 2),
  (⟨RX11, "hawk", "(I)I"⟩, prog_1_method_40_code, 7, (some .int), false, 2),
  (⟨RX11, "startWorthWith", "(II)I"⟩, prog_1_method_41_code, 4, (some .int), false, 3)]
set_option maxRecDepth 100000 in
theorem xMc_7 : ∀ m ∈ xMt_7, Cond.code m.1 m.2.1 m.2.2.1 m.2.2.2.1 ∈ tables_1 := List.forall_mem_cons.mpr ⟨List.mem_of_getElem? (i := 971) rfl, List.forall_mem_cons.mpr ⟨List.mem_of_getElem? (i := 987) rfl, List.forall_mem_cons.mpr ⟨List.mem_of_getElem? (i := 995) rfl, List.forall_mem_cons.mpr ⟨List.mem_of_getElem? (i := 1132) rfl, List.forall_mem_cons.mpr ⟨List.mem_of_getElem? (i := 1140) rfl, List.forall_mem_cons.mpr ⟨List.mem_of_getElem? (i := 998) rfl, List.forall_mem_cons.mpr ⟨List.mem_of_getElem? (i := 1006) rfl, List.forall_mem_cons.mpr ⟨List.mem_of_getElem? (i := 1183) rfl, List.forall_mem_cons.mpr ⟨List.mem_of_getElem? (i := 1145) rfl, List.forall_mem_cons.mpr ⟨List.mem_of_getElem? (i := 1159) rfl, List.forall_mem_cons.mpr ⟨List.mem_of_getElem? (i := 1163) rfl, List.forall_mem_cons.mpr ⟨List.mem_of_getElem? (i := 1171) rfl, List.forall_mem_cons.mpr ⟨List.mem_of_getElem? (i := 1167) rfl, List.forall_mem_cons.mpr ⟨List.mem_of_getElem? (i := 1175) rfl, List.forall_mem_cons.mpr ⟨List.mem_of_getElem? (i := 1179) rfl, List.forall_mem_cons.mpr ⟨List.mem_of_getElem? (i := 1192) rfl, List.forall_mem_cons.mpr ⟨List.mem_of_getElem? (i := 1231) rfl, List.forall_mem_cons.mpr ⟨List.mem_of_getElem? (i := 1247) rfl, List.forall_mem_cons.mpr ⟨List.mem_of_getElem? (i := 1252) rfl, List.forall_mem_cons.mpr ⟨List.mem_of_getElem? (i := 1235) rfl, fun _ h => absurd h List.not_mem_nil⟩⟩⟩⟩⟩⟩⟩⟩⟩⟩⟩⟩⟩⟩⟩⟩⟩⟩⟩⟩
def xMt_8 : List (xMT) := [
  (⟨RX11, "bestStartWorth", "()I"⟩, prog_1_method_42_code, 1, (some .int), false, 1),
  (⟨RX11, "mixed", "(III)I"⟩, prog_1_method_43_code, 3, (some .int), true, 3),
  (⟨RX11, "water", "()I"⟩, prog_1_method_44_code, 2, (some .int), false, 1),
  (⟨RX11, "drop", "()I"⟩, prog_1_method_45_code, 4, (some .int), false, 1),
  (⟨RX11, "fly", "(II)I"⟩, prog_1_method_46_code, 3, (some .int), false, 3),
  (⟨RX11, "isSeed", "(I)Z"⟩, prog_1_method_47_code, 1, (some .boolean), true, 1),
  (⟨RX11, "flyOnce", "(LLastCloud$Flight;II)V"⟩, prog_1_method_48_code, 5, none, false, 4),
  (⟨RX11, "flown", "(II)I"⟩, prog_1_method_49_code, 3, (some .int), false, 3),
  (⟨RX11, "landed", "(I)I"⟩, prog_1_method_50_code, 2, (some .int), false, 2),
  (⟨RX11, "judge", "(II)I"⟩, prog_1_method_51_code, 5, (some .int), false, 3),
  (⟨RX11, "flights", "(III)I"⟩, prog_1_method_52_code, 6, (some .int), false, 4),
  (⟨RX11, "areFlights", "(III)Z"⟩, prog_1_method_53_code, 4, (some .boolean), false, 4),
  (⟨RX11, "sum", "(III)I"⟩, prog_1_method_54_code, 6, (some .int), false, 4),
  (⟨RX11, "spread", "(IIII)I"⟩, prog_1_method_55_code, 8, (some .int), false, 5),
  (⟨RX11, "soon", "()I"⟩, prog_1_method_56_code, 1, (some .int), false, 1),
  (⟨RX11, "way", "(I)I"⟩, prog_1_method_57_code, 3, (some .int), false, 2),
  (⟨RX11, "soonest", "(I)I"⟩, prog_1_method_58_code, 2, (some .int), false, 2),
  (⟨RX11, "key", "()I"⟩, prog_1_method_59_code, 7, (some .int), false, 1),
  (⟨RX11, "count", "(I)I"⟩, prog_1_method_60_code, 2, (some .int), false, 2),
  (⟨RX11, "slotsWithRow", "()I"⟩, prog_1_method_61_code, 3, (some .int), false, 1)]
set_option maxRecDepth 100000 in
theorem xMc_8 : ∀ m ∈ xMt_8, Cond.code m.1 m.2.1 m.2.2.1 m.2.2.2.1 ∈ tables_1 := List.forall_mem_cons.mpr ⟨List.mem_of_getElem? (i := 1243) rfl, List.forall_mem_cons.mpr ⟨List.mem_of_getElem? (i := 1126) rfl, List.forall_mem_cons.mpr ⟨List.mem_of_getElem? (i := 1257) rfl, List.forall_mem_cons.mpr ⟨List.mem_of_getElem? (i := 1261) rfl, List.forall_mem_cons.mpr ⟨List.mem_of_getElem? (i := 1314) rfl, List.forall_mem_cons.mpr ⟨List.mem_of_getElem? (i := 1317) rfl, List.forall_mem_cons.mpr ⟨List.mem_of_getElem? (i := 1322) rfl, List.forall_mem_cons.mpr ⟨List.mem_of_getElem? (i := 1342) rfl, List.forall_mem_cons.mpr ⟨List.mem_of_getElem? (i := 1350) rfl, List.forall_mem_cons.mpr ⟨List.mem_of_getElem? (i := 1358) rfl, List.forall_mem_cons.mpr ⟨List.mem_of_getElem? (i := 1366) rfl, List.forall_mem_cons.mpr ⟨List.mem_of_getElem? (i := 1370) rfl, List.forall_mem_cons.mpr ⟨List.mem_of_getElem? (i := 1374) rfl, List.forall_mem_cons.mpr ⟨List.mem_of_getElem? (i := 1378) rfl, List.forall_mem_cons.mpr ⟨List.mem_of_getElem? (i := 1388) rfl, List.forall_mem_cons.mpr ⟨List.mem_of_getElem? (i := 1423) rfl, List.forall_mem_cons.mpr ⟨List.mem_of_getElem? (i := 1440) rfl, List.forall_mem_cons.mpr ⟨List.mem_of_getElem? (i := 1444) rfl, List.forall_mem_cons.mpr ⟨List.mem_of_getElem? (i := 1448) rfl, List.forall_mem_cons.mpr ⟨List.mem_of_getElem? (i := 1454) rfl, fun _ h => absurd h List.not_mem_nil⟩⟩⟩⟩⟩⟩⟩⟩⟩⟩⟩⟩⟩⟩⟩⟩⟩⟩⟩⟩
def xMt_9 : List (xMT) := [
  (⟨RX11, "keep", "(I)I"⟩, prog_1_method_62_code, 2, (some .int), false, 2),
  (⟨RX11, "back", "(I)I"⟩, prog_1_method_63_code, 2, (some .int), false, 2),
  (⟨RX11, "isSlot", "(I)Z"⟩, prog_1_method_64_code, 1, (some .boolean), true, 1),
  (⟨RX11, "row", "(III)I"⟩, prog_1_method_65_code, 4, (some .int), false, 4),
  (⟨RX11, "write", "(IIJ)I"⟩, prog_1_method_66_code, 5, (some .int), false, 4),
  (⟨RX11, "cutTo", "(IJ)J"⟩, prog_1_method_67_code, 3, (some .long), true, 2),
  (⟨RX11, "paste", "(IIIII)I"⟩, prog_1_method_68_code, 6, (some .int), false, 6),
  (⟨RX11, "isPart", "(III)Z"⟩, prog_1_method_69_code, 3, (some .boolean), true, 3),
  (⟨RX12, "in", "(JJJ)Z"⟩, prog_14_method_2_code, 6, (some .boolean), true, 3),
  (⟨RX12, "holds", "(II)Z"⟩, prog_14_method_3_code, 2, (some .boolean), true, 2),
  (⟨RX12, "<init>", "()V"⟩, prog_14_method_4_code, 1, none, false, 1),
  (⟨RX12, "empties", "([I)V"⟩, prog_14_method_5_code, 2, none, true, 1),
  (⟨RX12, "keep", "(I)I"⟩, prog_14_method_6_code, 3, (some .int), false, 2),
  (⟨RX12, "back", "(I)I"⟩, prog_14_method_7_code, 3, (some .int), false, 2),
  (⟨RX12, "isPlace", "(I)Z"⟩, prog_14_method_8_code, 2, (some .boolean), false, 2),
  (⟨RX12, "ofPlace", "(II)I"⟩, prog_14_method_9_code, 3, (some .int), false, 3),
  (⟨RX12, "ofLeg", "(II)I"⟩, prog_14_method_10_code, 3, (some .int), false, 3),
  (⟨RX12, "feed", "(IIIII)I"⟩, prog_14_method_11_code, 7, (some .int), false, 6),
  (⟨RX12, "end", "(I)I"⟩, prog_14_method_12_code, 2, (some .int), false, 2),
  (⟨RX12, "see", "(I)I"⟩, prog_14_method_13_code, 2, (some .int), false, 2)]
set_option maxRecDepth 100000 in
theorem xMc_9 : ∀ m ∈ xMt_9, Cond.code m.1 m.2.1 m.2.2.1 m.2.2.2.1 ∈ tables_1 := List.forall_mem_cons.mpr ⟨List.mem_of_getElem? (i := 1458) rfl, List.forall_mem_cons.mpr ⟨List.mem_of_getElem? (i := 1486) rfl, List.forall_mem_cons.mpr ⟨List.mem_of_getElem? (i := 1361) rfl, List.forall_mem_cons.mpr ⟨List.mem_of_getElem? (i := 1490) rfl, List.forall_mem_cons.mpr ⟨List.mem_of_getElem? (i := 1497) rfl, List.forall_mem_cons.mpr ⟨List.mem_of_getElem? (i := 1500) rfl, List.forall_mem_cons.mpr ⟨List.mem_of_getElem? (i := 1504) rfl, List.forall_mem_cons.mpr ⟨List.mem_of_getElem? (i := 1507) rfl, List.forall_mem_cons.mpr ⟨List.mem_of_getElem? (i := 1689) rfl, List.forall_mem_cons.mpr ⟨List.mem_of_getElem? (i := 1759) rfl, List.forall_mem_cons.mpr ⟨List.mem_of_getElem? (i := 1513) rfl, List.forall_mem_cons.mpr ⟨List.mem_of_getElem? (i := 1518) rfl, List.forall_mem_cons.mpr ⟨List.mem_of_getElem? (i := 1685) rfl, List.forall_mem_cons.mpr ⟨List.mem_of_getElem? (i := 1693) rfl, List.forall_mem_cons.mpr ⟨List.mem_of_getElem? (i := 1868) rfl, List.forall_mem_cons.mpr ⟨List.mem_of_getElem? (i := 1830) rfl, List.forall_mem_cons.mpr ⟨List.mem_of_getElem? (i := 1851) rfl, List.forall_mem_cons.mpr ⟨List.mem_of_getElem? (i := 1697) rfl, List.forall_mem_cons.mpr ⟨List.mem_of_getElem? (i := 1701) rfl, List.forall_mem_cons.mpr ⟨List.mem_of_getElem? (i := 1717) rfl, fun _ h => absurd h List.not_mem_nil⟩⟩⟩⟩⟩⟩⟩⟩⟩⟩⟩⟩⟩⟩⟩⟩⟩⟩⟩⟩
def xMt_10 : List (xMT) := [
  (⟨RX12, "advance", "()V"⟩, prog_14_method_14_code, 2, none, false, 1),
  (⟨RX12, "good", "()Z"⟩, prog_14_method_15_code, 1, (some .boolean), false, 1),
  (⟨RX12, "errs", "(I)V"⟩, prog_14_method_16_code, 2, none, false, 2),
  (⟨RX12, "is", "(Ljava/lang/String;)Z"⟩, prog_14_method_17_code, 4, (some .boolean), false, 2),
  (⟨RX12, "takes", "(Ljava/lang/String;)Z"⟩, prog_14_method_18_code, 3, (some .boolean), false, 2),
  (⟨RX12, "needs", "(Ljava/lang/String;)V"⟩, prog_14_method_19_code, 2, none, false, 2),
  (⟨RX12, "number", "(II)I"⟩, prog_14_method_20_code, 4, (some .int), false, 3),
  (⟨RX12, "told", "(Ljava/lang/String;II)I"⟩, prog_14_method_21_code, 4, (some .int), false, 4),
  (⟨RX12, "fault", "(I)I"⟩, prog_14_method_22_code, 2, (some .int), false, 2),
  (⟨RX12, "place", "()I"⟩, prog_14_method_23_code, 1, (some .int), false, 1),
  (⟨RX12, "signed", "(I)I"⟩, prog_14_method_24_code, 3, (some .int), false, 2),
  (⟨RX12, "readPlace", "()V"⟩, prog_14_method_25_code, 2, none, false, 1),
  (⟨RX12, "readLeg", "()V"⟩, prog_14_method_26_code, 2, none, false, 1),
  (⟨RX12, "readLift", "()V"⟩, prog_14_method_27_code, 4, none, false, 1),
  (⟨RX12, "readPoint", "()V"⟩, prog_14_method_28_code, 2, none, false, 1),
  (⟨RX12, "readStart", "()V"⟩, prog_14_method_29_code, 3, none, false, 1),
  (⟨RX12, "ones", "(I)I"⟩, prog_14_method_30_code, 3, (some .int), true, 1),
  (⟨RX12, "onceHere", "()I"⟩, prog_14_method_31_code, 1, (some .int), false, 1),
  (⟨RX12, "readOnce", "(I)V"⟩, prog_14_method_32_code, 2, none, false, 2),
  (⟨RX12, "readLine", "()V"⟩, prog_14_method_33_code, 3, none, false, 1)]
set_option maxRecDepth 100000 in
theorem xMc_10 : ∀ m ∈ xMt_10, Cond.code m.1 m.2.1 m.2.2.1 m.2.2.2.1 ∈ tables_1 := List.forall_mem_cons.mpr ⟨List.mem_of_getElem? (i := 1713) rfl, List.forall_mem_cons.mpr ⟨List.mem_of_getElem? (i := 1727) rfl, List.forall_mem_cons.mpr ⟨List.mem_of_getElem? (i := 1756) rfl, List.forall_mem_cons.mpr ⟨List.mem_of_getElem? (i := 1740) rfl, List.forall_mem_cons.mpr ⟨List.mem_of_getElem? (i := 1783) rfl, List.forall_mem_cons.mpr ⟨List.mem_of_getElem? (i := 1779) rfl, List.forall_mem_cons.mpr ⟨List.mem_of_getElem? (i := 1770) rfl, List.forall_mem_cons.mpr ⟨List.mem_of_getElem? (i := 1775) rfl, List.forall_mem_cons.mpr ⟨List.mem_of_getElem? (i := 1705) rfl, List.forall_mem_cons.mpr ⟨List.mem_of_getElem? (i := 1793) rfl, List.forall_mem_cons.mpr ⟨List.mem_of_getElem? (i := 1811) rfl, List.forall_mem_cons.mpr ⟨List.mem_of_getElem? (i := 1799) rfl, List.forall_mem_cons.mpr ⟨List.mem_of_getElem? (i := 1805) rfl, List.forall_mem_cons.mpr ⟨List.mem_of_getElem? (i := 1818) rfl, List.forall_mem_cons.mpr ⟨List.mem_of_getElem? (i := 1826) rfl, List.forall_mem_cons.mpr ⟨List.mem_of_getElem? (i := 1789) rfl, List.forall_mem_cons.mpr ⟨List.mem_of_getElem? (i := 1762) rfl, List.forall_mem_cons.mpr ⟨List.mem_of_getElem? (i := 1735) rfl, List.forall_mem_cons.mpr ⟨List.mem_of_getElem? (i := 1766) rfl, List.forall_mem_cons.mpr ⟨List.mem_of_getElem? (i := 1731) rfl, fun _ h => absurd h List.not_mem_nil⟩⟩⟩⟩⟩⟩⟩⟩⟩⟩⟩⟩⟩⟩⟩⟩⟩⟩⟩⟩
def xMt_11 : List (xMT) := [
  (⟨RX12, "sky", "()I"⟩, prog_14_method_34_code, 2, (some .int), false, 1),
  (⟨RX12, "isLeg", "(I)Z"⟩, prog_14_method_35_code, 2, (some .boolean), false, 2),
  (⟨RX12, "isSpeed", "(I)Z"⟩, prog_14_method_36_code, 2, (some .boolean), false, 2),
  (⟨RX12, "periodsOf", "(IZIZ)I"⟩, prog_14_method_37_code, 7, (some .int), false, 5),
  (⟨RX12, "lossOf", "(III)I"⟩, prog_14_method_38_code, 4, (some .int), false, 4),
  (⟨RX12, "periods", "(IZIZ)I"⟩, prog_14_method_39_code, 5, (some .int), false, 5),
  (⟨RX12, "loss", "(IZIZ)I"⟩, prog_14_method_40_code, 6, (some .int), false, 5),
  (⟨RX12, "upOf", "(I)I"⟩, prog_14_method_41_code, 2, (some .int), false, 2),
  (⟨RX12, "climbOf", "(IZ)I"⟩, prog_14_method_42_code, 4, (some .int), false, 3),
  (⟨RX12, "climb", "(IZ)I"⟩, prog_14_method_43_code, 3, (some .int), false, 3),
  (⟨RX12, "bySign", "(IIZI)I"⟩, prog_14_method_44_code, 8, (some .int), false, 5),
  (⟨RX12, "chanceNow", "(I)I"⟩, prog_14_method_45_code, 6, (some .int), false, 2),
  (⟨RX12, "chanceOf", "(I)I"⟩, prog_14_method_46_code, 2, (some .int), false, 2),
  (⟨RX12, "chance", "(I)I"⟩, prog_14_method_47_code, 2, (some .int), false, 2),
  (⟨RX12, "sight", "(II)I"⟩, prog_14_method_48_code, 3, (some .int), false, 3),
  (⟨RX12, "unsee", "(I)I"⟩, prog_14_method_49_code, 2, (some .int), false, 2),
  (⟨RX12, "sign", "(IZ)I"⟩, prog_14_method_50_code, 3, (some .int), false, 3),
  (⟨RX12, "laysWays", "()V"⟩, prog_14_method_51_code, 3, none, false, 1),
  (⟨RX12, "laysFrom", "(II)V"⟩, prog_14_method_52_code, 9, none, false, 3),
  (⟨RX12, "comesAt", "(II)I"⟩, prog_14_method_53_code, 5, (some .int), false, 3)]
set_option maxRecDepth 100000 in
theorem xMc_11 : ∀ m ∈ xMt_11, Cond.code m.1 m.2.1 m.2.2.1 m.2.2.2.1 ∈ tables_1 := List.forall_mem_cons.mpr ⟨List.mem_of_getElem? (i := 1709) rfl, List.forall_mem_cons.mpr ⟨List.mem_of_getElem? (i := 1839) rfl, List.forall_mem_cons.mpr ⟨List.mem_of_getElem? (i := 1843) rfl, List.forall_mem_cons.mpr ⟨List.mem_of_getElem? (i := 1847) rfl, List.forall_mem_cons.mpr ⟨List.mem_of_getElem? (i := 1860) rfl, List.forall_mem_cons.mpr ⟨List.mem_of_getElem? (i := 1835) rfl, List.forall_mem_cons.mpr ⟨List.mem_of_getElem? (i := 1855) rfl, List.forall_mem_cons.mpr ⟨List.mem_of_getElem? (i := 1876) rfl, List.forall_mem_cons.mpr ⟨List.mem_of_getElem? (i := 1872) rfl, List.forall_mem_cons.mpr ⟨List.mem_of_getElem? (i := 1864) rfl, List.forall_mem_cons.mpr ⟨List.mem_of_getElem? (i := 1888) rfl, List.forall_mem_cons.mpr ⟨List.mem_of_getElem? (i := 1884) rfl, List.forall_mem_cons.mpr ⟨List.mem_of_getElem? (i := 2011) rfl, List.forall_mem_cons.mpr ⟨List.mem_of_getElem? (i := 1880) rfl, List.forall_mem_cons.mpr ⟨List.mem_of_getElem? (i := 1892) rfl, List.forall_mem_cons.mpr ⟨List.mem_of_getElem? (i := 1897) rfl, List.forall_mem_cons.mpr ⟨List.mem_of_getElem? (i := 1901) rfl, List.forall_mem_cons.mpr ⟨List.mem_of_getElem? (i := 1917) rfl, List.forall_mem_cons.mpr ⟨List.mem_of_getElem? (i := 1921) rfl, List.forall_mem_cons.mpr ⟨List.mem_of_getElem? (i := 1925) rfl, fun _ h => absurd h List.not_mem_nil⟩⟩⟩⟩⟩⟩⟩⟩⟩⟩⟩⟩⟩⟩⟩⟩⟩⟩⟩⟩
def xMt_12 : List (xMT) := [
  (⟨RX12, "glides", "(IIZ)V"⟩, prog_14_method_54_code, 10, none, false, 4),
  (⟨RX12, "isHeight", "(II)Z"⟩, prog_14_method_55_code, 3, (some .boolean), false, 3),
  (⟨RX12, "reach", "(IIIZ)I"⟩, prog_14_method_56_code, 5, (some .int), false, 5),
  (⟨RX12, "fieldsOf", "(IIZ)I"⟩, prog_14_method_57_code, 7, (some .int), false, 4),
  (⟨RX12, "fields", "(IIZ)I"⟩, prog_14_method_58_code, 4, (some .int), false, 4),
  (⟨RX12, "edge", "(IZ)I"⟩, prog_14_method_59_code, 4, (some .int), false, 3),
  (⟨RX12, "tour", "(IIZ)I"⟩, prog_14_method_60_code, 7, (some .int), false, 4),
  (⟨RX12, "street", "()I"⟩, prog_14_method_61_code, 6, (some .int), false, 1),
  (⟨RX12, "fastOf", "(I)I"⟩, prog_14_method_62_code, 6, (some .int), false, 2),
  (⟨RX12, "isClimb", "(I)Z"⟩, prog_14_method_63_code, 1, (some .boolean), true, 1),
  (⟨RX12, "fast", "(I)I"⟩, prog_14_method_64_code, 2, (some .int), false, 2),
  (⟨RX12, "average", "(I)I"⟩, prog_14_method_65_code, 3, (some .int), false, 2),
  (⟨RX12, "farthest", "()I"⟩, prog_14_method_66_code, 5, (some .int), false, 1),
  (⟨RX12, "forgets", "()V"⟩, prog_14_method_67_code, 2, none, false, 1),
  (⟨RX12, "state", "(IIIII)I"⟩, prog_14_method_68_code, 5, (some .int), true, 5),
  (⟨RX12, "landingOf", "(II)I"⟩, prog_14_method_69_code, 5, (some .int), false, 3),
  (⟨RX12, "higher", "(III)I"⟩, prog_14_method_70_code, 4, (some .int), false, 4),
  (⟨RX12, "mixed", "([IIIII)I"⟩, prog_14_method_71_code, 7, (some .int), false, 6),
  (⟨RX12, "isRuled", "(IIII)Z"⟩, prog_14_method_72_code, 5, (some .boolean), false, 5),
  (⟨RX12, "looks", "(IIIIII)V"⟩, prog_14_method_73_code, 16, none, false, 7)]
set_option maxRecDepth 100000 in
theorem xMc_12 : ∀ m ∈ xMt_12, Cond.code m.1 m.2.1 m.2.2.1 m.2.2.2.1 ∈ tables_1 := List.forall_mem_cons.mpr ⟨List.mem_of_getElem? (i := 1913) rfl, List.forall_mem_cons.mpr ⟨List.mem_of_getElem? (i := 1909) rfl, List.forall_mem_cons.mpr ⟨List.mem_of_getElem? (i := 1905) rfl, List.forall_mem_cons.mpr ⟨List.mem_of_getElem? (i := 1933) rfl, List.forall_mem_cons.mpr ⟨List.mem_of_getElem? (i := 1929) rfl, List.forall_mem_cons.mpr ⟨List.mem_of_getElem? (i := 1937) rfl, List.forall_mem_cons.mpr ⟨List.mem_of_getElem? (i := 1941) rfl, List.forall_mem_cons.mpr ⟨List.mem_of_getElem? (i := 1945) rfl, List.forall_mem_cons.mpr ⟨List.mem_of_getElem? (i := 1957) rfl, List.forall_mem_cons.mpr ⟨List.mem_of_getElem? (i := 1952) rfl, List.forall_mem_cons.mpr ⟨List.mem_of_getElem? (i := 1949) rfl, List.forall_mem_cons.mpr ⟨List.mem_of_getElem? (i := 1961) rfl, List.forall_mem_cons.mpr ⟨List.mem_of_getElem? (i := 1965) rfl, List.forall_mem_cons.mpr ⟨List.mem_of_getElem? (i := 1522) rfl, List.forall_mem_cons.mpr ⟨List.mem_of_getElem? (i := 1987) rfl, List.forall_mem_cons.mpr ⟨List.mem_of_getElem? (i := 1991) rfl, List.forall_mem_cons.mpr ⟨List.mem_of_getElem? (i := 1995) rfl, List.forall_mem_cons.mpr ⟨List.mem_of_getElem? (i := 2007) rfl, List.forall_mem_cons.mpr ⟨List.mem_of_getElem? (i := 2003) rfl, List.forall_mem_cons.mpr ⟨List.mem_of_getElem? (i := 1984) rfl, fun _ h => absurd h List.not_mem_nil⟩⟩⟩⟩⟩⟩⟩⟩⟩⟩⟩⟩⟩⟩⟩⟩⟩⟩⟩⟩
def xMt_13 : List (xMT) := [
  (⟨RX12, "takesOver", "(III)V"⟩, prog_14_method_74_code, 4, none, false, 4),
  (⟨RX12, "solves", "(I)V"⟩, prog_14_method_75_code, 7, none, false, 2),
  (⟨RX12, "isRule", "(I)Z"⟩, prog_14_method_76_code, 1, (some .boolean), true, 1),
  (⟨RX12, "isState", "(IIIZ)Z"⟩, prog_14_method_77_code, 5, (some .boolean), false, 5),
  (⟨RX12, "bit", "(Z)I"⟩, prog_14_method_78_code, 1, (some .int), true, 1),
  (⟨RX12, "worth", "(IIIIZZ)I"⟩, prog_14_method_79_code, 7, (some .int), false, 7),
  (⟨RX12, "deed", "(IIIIZZ)I"⟩, prog_14_method_80_code, 7, (some .int), false, 7),
  (⟨RX12, "home", "(IIIIZZ)I"⟩, prog_14_method_81_code, 7, (some .int), false, 7),
  (⟨RX12, "hasStart", "()Z"⟩, prog_14_method_82_code, 1, (some .boolean), false, 1),
  (⟨RX12, "startWet", "()I"⟩, prog_14_method_83_code, 1, (some .int), false, 1),
  (⟨RX12, "startOf", "(II)I"⟩, prog_14_method_84_code, 3, (some .int), false, 3),
  (⟨RX12, "start", "(I)I"⟩, prog_14_method_85_code, 2, (some .int), false, 2),
  (⟨RX12, "cost", "(I)I"⟩, prog_14_method_86_code, 3, (some .int), false, 2),
  (⟨RX12, "leaves", "(IIZI)I"⟩, prog_14_method_87_code, 6, (some .int), false, 5),
  (⟨RX12, "leave", "(IIZ)I"⟩, prog_14_method_88_code, 4, (some .int), false, 4),
  (⟨RX12, "on", "(IIZ)I"⟩, prog_14_method_89_code, 4, (some .int), false, 4),
  (⟨RX12, "last", "(II)I"⟩, prog_14_method_90_code, 4, (some .int), false, 3),
  (⟨RX12, "weak", "(III)I"⟩, prog_14_method_91_code, 5, (some .int), false, 4),
  (⟨RX12, "endsBehind", "(IIIIZ)I"⟩, prog_14_method_92_code, 9, (some .int), false, 6),
  (⟨RX12, "endOf", "(IIIIIZ)I"⟩, prog_14_method_93_code, 9, (some .int), false, 7)]
set_option maxRecDepth 100000 in
theorem xMc_13 : ∀ m ∈ xMt_13, Cond.code m.1 m.2.1 m.2.2.1 m.2.2.2.1 ∈ tables_1 := List.forall_mem_cons.mpr ⟨List.mem_of_getElem? (i := 1999) rfl, List.forall_mem_cons.mpr ⟨List.mem_of_getElem? (i := 1980) rfl, List.forall_mem_cons.mpr ⟨List.mem_of_getElem? (i := 1972) rfl, List.forall_mem_cons.mpr ⟨List.mem_of_getElem? (i := 1976) rfl, List.forall_mem_cons.mpr ⟨List.mem_of_getElem? (i := 2014) rfl, List.forall_mem_cons.mpr ⟨List.mem_of_getElem? (i := 1969) rfl, List.forall_mem_cons.mpr ⟨List.mem_of_getElem? (i := 2018) rfl, List.forall_mem_cons.mpr ⟨List.mem_of_getElem? (i := 2022) rfl, List.forall_mem_cons.mpr ⟨List.mem_of_getElem? (i := 2030) rfl, List.forall_mem_cons.mpr ⟨List.mem_of_getElem? (i := 2034) rfl, List.forall_mem_cons.mpr ⟨List.mem_of_getElem? (i := 2038) rfl, List.forall_mem_cons.mpr ⟨List.mem_of_getElem? (i := 2026) rfl, List.forall_mem_cons.mpr ⟨List.mem_of_getElem? (i := 2042) rfl, List.forall_mem_cons.mpr ⟨List.mem_of_getElem? (i := 2050) rfl, List.forall_mem_cons.mpr ⟨List.mem_of_getElem? (i := 2046) rfl, List.forall_mem_cons.mpr ⟨List.mem_of_getElem? (i := 2054) rfl, List.forall_mem_cons.mpr ⟨List.mem_of_getElem? (i := 2058) rfl, List.forall_mem_cons.mpr ⟨List.mem_of_getElem? (i := 2062) rfl, List.forall_mem_cons.mpr ⟨List.mem_of_getElem? (i := 2078) rfl, List.forall_mem_cons.mpr ⟨List.mem_of_getElem? (i := 2070) rfl, fun _ h => absurd h List.not_mem_nil⟩⟩⟩⟩⟩⟩⟩⟩⟩⟩⟩⟩⟩⟩⟩⟩⟩⟩⟩⟩
def xMt_14 : List (xMT) := [
  (⟨RX12, "wayOf", "(III)I"⟩, prog_14_method_94_code, 7, (some .int), false, 4),
  (⟨RX12, "ends", "(IZ)I"⟩, prog_14_method_95_code, 8, (some .int), false, 3),
  (⟨RX12, "startWith", "(II)I"⟩, prog_14_method_96_code, 4, (some .int), false, 3),
  (⟨RX12, "share", "(I)I"⟩, prog_14_method_97_code, 2, (some .int), false, 2),
  (⟨RX12, "known", "(I)I"⟩, prog_14_method_98_code, 5, (some .int), false, 2),
  (⟨RX12, "hawk", "(I)I"⟩, prog_14_method_99_code, 8, (some .int), false, 2),
  (⟨RX12, "water", "()I"⟩, prog_14_method_100_code, 1, (some .int), false, 1),
  (⟨RX12, "drop", "()I"⟩, prog_14_method_101_code, 6, (some .int), false, 1),
  (⟨RX12, "draw", "(I)I"⟩, prog_14_method_102_code, 2, (some .int), false, 2),
  (⟨RX12, "sets", "(I)V"⟩, prog_14_method_103_code, 2, none, false, 2),
  (⟨RX12, "does", "(J)Z"⟩, prog_14_method_104_code, 4, (some .boolean), false, 2),
  (⟨RX12, "flies", "(II)V"⟩, prog_14_method_105_code, 5, none, false, 3),
  (⟨RX12, "canFly", "(II)Z"⟩, prog_14_method_106_code, 3, (some .boolean), false, 3),
  (⟨RX12, "fly", "(II)I"⟩, prog_14_method_107_code, 4, (some .int), false, 3),
  (⟨RX12, "flown", "(II)I"⟩, prog_14_method_108_code, 3, (some .int), false, 3),
  (⟨RX12, "landed", "(I)I"⟩, prog_14_method_109_code, 2, (some .int), false, 2),
  (⟨RX12, "judge", "(II)I"⟩, prog_14_method_110_code, 6, (some .int), false, 3),
  (⟨RX12, "fliesAll", "(III)V"⟩, prog_14_method_111_code, 6, none, false, 4),
  (⟨RX12, "canFlyAll", "(III)Z"⟩, prog_14_method_112_code, 4, (some .boolean), false, 4),
  (⟨RX12, "flights", "(III)I"⟩, prog_14_method_113_code, 4, (some .int), false, 4)]
set_option maxRecDepth 100000 in
theorem xMc_14 : ∀ m ∈ xMt_14, Cond.code m.1 m.2.1 m.2.2.1 m.2.2.2.1 ∈ tables_1 := List.forall_mem_cons.mpr ⟨List.mem_of_getElem? (i := 2074) rfl, List.forall_mem_cons.mpr ⟨List.mem_of_getElem? (i := 2066) rfl, List.forall_mem_cons.mpr ⟨List.mem_of_getElem? (i := 2086) rfl, List.forall_mem_cons.mpr ⟨List.mem_of_getElem? (i := 2082) rfl, List.forall_mem_cons.mpr ⟨List.mem_of_getElem? (i := 2090) rfl, List.forall_mem_cons.mpr ⟨List.mem_of_getElem? (i := 2094) rfl, List.forall_mem_cons.mpr ⟨List.mem_of_getElem? (i := 2098) rfl, List.forall_mem_cons.mpr ⟨List.mem_of_getElem? (i := 2102) rfl, List.forall_mem_cons.mpr ⟨List.mem_of_getElem? (i := 2123) rfl, List.forall_mem_cons.mpr ⟨List.mem_of_getElem? (i := 2119) rfl, List.forall_mem_cons.mpr ⟨List.mem_of_getElem? (i := 2131) rfl, List.forall_mem_cons.mpr ⟨List.mem_of_getElem? (i := 2115) rfl, List.forall_mem_cons.mpr ⟨List.mem_of_getElem? (i := 2110) rfl, List.forall_mem_cons.mpr ⟨List.mem_of_getElem? (i := 2106) rfl, List.forall_mem_cons.mpr ⟨List.mem_of_getElem? (i := 2138) rfl, List.forall_mem_cons.mpr ⟨List.mem_of_getElem? (i := 2143) rfl, List.forall_mem_cons.mpr ⟨List.mem_of_getElem? (i := 2147) rfl, List.forall_mem_cons.mpr ⟨List.mem_of_getElem? (i := 2163) rfl, List.forall_mem_cons.mpr ⟨List.mem_of_getElem? (i := 2158) rfl, List.forall_mem_cons.mpr ⟨List.mem_of_getElem? (i := 2154) rfl, fun _ h => absurd h List.not_mem_nil⟩⟩⟩⟩⟩⟩⟩⟩⟩⟩⟩⟩⟩⟩⟩⟩⟩⟩⟩⟩
def xMt_15 : List (xMT) := [
  (⟨RX12, "sum", "(III)I"⟩, prog_14_method_114_code, 4, (some .int), false, 4),
  (⟨RX12, "spread", "(IIII)I"⟩, prog_14_method_115_code, 5, (some .int), false, 5),
  (⟨RX12, "spot", "(III)I"⟩, prog_14_method_116_code, 3, (some .int), true, 3),
  (⟨RX12, "reckons", "(I)V"⟩, prog_14_method_117_code, 8, none, false, 2),
  (⟨RX12, "isIn", "(IIIII)Z"⟩, prog_14_method_118_code, 8, (some .boolean), false, 6),
  (⟨RX12, "climbsIn", "(IIIII)Z"⟩, prog_14_method_119_code, 7, (some .boolean), false, 6),
  (⟨RX12, "goesIn", "(IIII)Z"⟩, prog_14_method_120_code, 6, (some .boolean), false, 5),
  (⟨RX12, "liftSet", "()I"⟩, prog_14_method_121_code, 3, (some .int), false, 1),
  (⟨RX12, "soonBy", "(I)I"⟩, prog_14_method_122_code, 3, (some .int), false, 2),
  (⟨RX12, "soon", "()I"⟩, prog_14_method_123_code, 1, (some .int), false, 1),
  (⟨RX12, "way", "(I)I"⟩, prog_14_method_124_code, 8, (some .int), false, 2),
  (⟨RX12, "soonest", "(I)I"⟩, prog_14_method_125_code, 2, (some .int), false, 2),
  (⟨RX12, "key", "()I"⟩, prog_14_method_126_code, 6, (some .int), false, 1),
  (⟨RX12, "count", "(I)I"⟩, prog_14_method_127_code, 4, (some .int), false, 2),
  (⟨RX12, "isSlot", "(I)Z"⟩, prog_14_method_128_code, 1, (some .boolean), true, 1),
  (⟨RX12, "cut", "(JI)J"⟩, prog_14_method_129_code, 4, (some .long), true, 2),
  (⟨RX12, "row", "(III)I"⟩, prog_14_method_130_code, 5, (some .int), false, 4),
  (⟨RX12, "write", "(IIJ)I"⟩, prog_14_method_131_code, 5, (some .int), false, 4),
  (⟨RX12, "paste", "(IIIII)I"⟩, prog_14_method_132_code, 7, (some .int), false, 6),
  (⟨"java/lang/Integer", "bitCount", "(I)I"⟩, prog_15_method_49_code, 1, (some .int), true, 1)]
set_option maxRecDepth 100000 in
theorem xMc_15 : ∀ m ∈ xMt_15, Cond.code m.1 m.2.1 m.2.2.1 m.2.2.2.1 ∈ tables_1 := List.forall_mem_cons.mpr ⟨List.mem_of_getElem? (i := 2167) rfl, List.forall_mem_cons.mpr ⟨List.mem_of_getElem? (i := 2171) rfl, List.forall_mem_cons.mpr ⟨List.mem_of_getElem? (i := 2190) rfl, List.forall_mem_cons.mpr ⟨List.mem_of_getElem? (i := 2187) rfl, List.forall_mem_cons.mpr ⟨List.mem_of_getElem? (i := 2194) rfl, List.forall_mem_cons.mpr ⟨List.mem_of_getElem? (i := 2198) rfl, List.forall_mem_cons.mpr ⟨List.mem_of_getElem? (i := 2202) rfl, List.forall_mem_cons.mpr ⟨List.mem_of_getElem? (i := 2179) rfl, List.forall_mem_cons.mpr ⟨List.mem_of_getElem? (i := 2183) rfl, List.forall_mem_cons.mpr ⟨List.mem_of_getElem? (i := 2175) rfl, List.forall_mem_cons.mpr ⟨List.mem_of_getElem? (i := 2206) rfl, List.forall_mem_cons.mpr ⟨List.mem_of_getElem? (i := 2210) rfl, List.forall_mem_cons.mpr ⟨List.mem_of_getElem? (i := 2214) rfl, List.forall_mem_cons.mpr ⟨List.mem_of_getElem? (i := 2218) rfl, List.forall_mem_cons.mpr ⟨List.mem_of_getElem? (i := 2150) rfl, List.forall_mem_cons.mpr ⟨List.mem_of_getElem? (i := 2229) rfl, List.forall_mem_cons.mpr ⟨List.mem_of_getElem? (i := 2222) rfl, List.forall_mem_cons.mpr ⟨List.mem_of_getElem? (i := 2226) rfl, List.forall_mem_cons.mpr ⟨List.mem_of_getElem? (i := 2233) rfl, List.forall_mem_cons.mpr ⟨List.mem_of_getElem? (i := 746) rfl, fun _ h => absurd h List.not_mem_nil⟩⟩⟩⟩⟩⟩⟩⟩⟩⟩⟩⟩⟩⟩⟩⟩⟩⟩⟩⟩
def xMt_16 : List (xMT) := [
  (⟨"java/util/Arrays", "fill", "([JJ)V"⟩, prog_21_method_101_code, 5, none, true, 2),
  (⟨"java/util/Arrays", "fill", "([II)V"⟩, prog_21_method_103_code, 4, none, true, 2),
  (⟨"java/util/Arrays", "fill", "([BB)V"⟩, prog_21_method_109_code, 4, none, true, 2)]
set_option maxRecDepth 100000 in
theorem xMc_16 : ∀ m ∈ xMt_16, Cond.code m.1 m.2.1 m.2.2.1 m.2.2.2.1 ∈ tables_1 := List.forall_mem_cons.mpr ⟨List.mem_of_getElem? (i := 1493) rfl, List.forall_mem_cons.mpr ⟨List.mem_of_getElem? (i := 527) rfl, List.forall_mem_cons.mpr ⟨List.mem_of_getElem? (i := 1199) rfl, fun _ h => absurd h List.not_mem_nil⟩⟩⟩
def xMt : List xMT := xMt_0 ++ (xMt_1 ++ (xMt_2 ++ (xMt_3 ++ (xMt_4 ++ (xMt_5 ++ (xMt_6 ++ (xMt_7 ++ (xMt_8 ++ (xMt_9 ++ (xMt_10 ++ (xMt_11 ++ (xMt_12 ++ (xMt_13 ++ (xMt_14 ++ (xMt_15 ++ (xMt_16))))))))))))))))
theorem xM_code : ∀ m ∈ xMt, Cond.code m.1 m.2.1 m.2.2.1 m.2.2.2.1 ∈ tables_1 := List.forall_mem_append.mpr ⟨xMc_0, List.forall_mem_append.mpr ⟨xMc_1, List.forall_mem_append.mpr ⟨xMc_2, List.forall_mem_append.mpr ⟨xMc_3, List.forall_mem_append.mpr ⟨xMc_4, List.forall_mem_append.mpr ⟨xMc_5, List.forall_mem_append.mpr ⟨xMc_6, List.forall_mem_append.mpr ⟨xMc_7, List.forall_mem_append.mpr ⟨xMc_8, List.forall_mem_append.mpr ⟨xMc_9, List.forall_mem_append.mpr ⟨xMc_10, List.forall_mem_append.mpr ⟨xMc_11, List.forall_mem_append.mpr ⟨xMc_12, List.forall_mem_append.mpr ⟨xMc_13, List.forall_mem_append.mpr ⟨xMc_14, List.forall_mem_append.mpr ⟨xMc_15, xMc_16⟩⟩⟩⟩⟩⟩⟩⟩⟩⟩⟩⟩⟩⟩⟩⟩
def xMd : xMT := (⟨"", "", ""⟩, ⟨#[]⟩, 0, none, false, 0)
def xM (j : Nat) : xMT := xMt.getD j xMd
theorem xM_init : ∀ m ∈ xMt.filter (fun _ => true), (fun m => Cond.initialized m.1.cls) m ∈ tables_1 := by
  have h : ∀ w ∈ (xMt.filter (fun _ => true)).map (fun m => Cond.initialized m.1.cls), w ∈ tables_1 := x_mem [10, 10, 10, 10, 10, 10, 10, 10, 10, 10, 10, 10, 10, 10, 10, 8, 8, 8, 8, 8, 8, 8, 8, 8, 8, 8, 8, 7, 7, 9, 9, 9, 9, 9, 9, 6, 6, 6, 6, 6, 20, 20, 20, 20, 20, 20, 20, 20, 20, 20, 20, 20, 20, 20, 20, 4, 4, 4, 4, 4, 4, 2, 2, 2, 2, 2, 2, 2, 2, 2, 2, 2, 2, 2, 2, 2, 2, 2, 2, 2, 2, 2, 2, 2, 11, 11, 11, 11, 11, 11, 11, 11, 11, 11, 5, 5, 5, 3, 3, 3, 3, 3, 3, 3, 3, 3, 3, 3, 3, 3, 3, 3, 3, 3, 3, 3, 3, 3, 3, 1, 1, 1, 1, 1, 1, 1, 1, 1, 1, 1, 1, 1, 1, 1, 1, 1, 1, 1, 1, 1, 1, 1, 1, 1, 1, 1, 1, 1, 1, 1, 1, 1, 1, 1, 1, 1, 1, 1, 1, 1, 1, 1, 1, 1, 1, 1, 1, 1, 1, 1, 1, 1, 1, 1, 1, 1, 1, 1, 1, 1, 1, 1, 1, 1, 1, 1, 1, 1, 14, 14, 14, 14, 14, 14, 14, 14, 14, 14, 14, 14, 14, 14, 14, 14, 14, 14, 14, 14, 14, 14, 14, 14, 14, 14, 14, 14, 14, 14, 14, 14, 14, 14, 14, 14, 14, 14, 14, 14, 14, 14, 14, 14, 14, 14, 14, 14, 14, 14, 14, 14, 14, 14, 14, 14, 14, 14, 14, 14, 14, 14, 14, 14, 14, 14, 14, 14, 14, 14, 14, 14, 14, 14, 14, 14, 14, 14, 14, 14, 14, 14, 14, 14, 14, 14, 14, 14, 14, 14, 14, 14, 14, 14, 14, 14, 14, 14, 14, 14, 14, 14, 14, 14, 14, 14, 14, 14, 14, 14, 14, 14, 14, 14, 14, 14, 14, 14, 14, 14, 14, 14, 14, 14, 14, 14, 14, 14, 14, 14, 14, 19, 12, 12, 12] (by decide +kernel)
  exact fun e he => h _ (List.mem_map.mpr ⟨e, he, rfl⟩)
theorem xM_stat : ∀ m ∈ xMt.filter (fun m => m.2.2.2.2.1), (fun m => Cond.static m.1) m ∈ tables_1 := by
  have h : ∀ w ∈ (xMt.filter (fun m => m.2.2.2.2.1)).map (fun m => Cond.static m.1), w ∈ tables_1 := x_mem [562, 1105, 659, 1403, 970, 997, 1125, 1316, 1360, 1499, 1506, 1688, 1758, 1517, 1761, 1951, 1986, 1971, 2013, 2189, 2149, 2228, 745, 1492, 526, 1198] (by decide +kernel)
  exact fun e he => h _ (List.mem_map.mpr ⟨e, he, rfl⟩)
theorem xM_inst : ∀ m ∈ xMt.filter (fun m => !m.2.2.2.2.1), (fun m => Cond.instanceMethod m.1) m ∈ tables_1 := by
  have h : ∀ w ∈ (xMt.filter (fun m => !m.2.2.2.2.1)).map (fun m => Cond.instanceMethod m.1), w ∈ tables_1 := x_mem [424, 1329, 1264, 1268, 1274, 1278, 1325, 1286, 1334, 1292, 1297, 1305, 1345, 1353, 1381, 345, 530, 534, 538, 1080, 559, 571, 921, 926, 954, 963, 173, 1469, 399, 1195, 1206, 1210, 1214, 1224, 124, 218, 1465, 888, 892, 1009, 1067, 1073, 1238, 1187, 1122, 1135, 1118, 1153, 1089, 1093, 1097, 1101, 1109, 83, 817, 1473, 974, 982, 990, 33, 651, 656, 663, 738, 752, 676, 775, 765, 769, 790, 784, 667, 671, 742, 756, 760, 780, 797, 812, 821, 827, 490, 1392, 1396, 1407, 1411, 1416, 1426, 1435, 1430, 105, 900, 1480, 73, 214, 1461, 808, 851, 855, 917, 1001, 833, 1149, 566, 958, 801, 546, 542, 550, 871, 875, 930, 884, 1084, 1113, 25, 633, 638, 641, 645, 842, 839, 846, 859, 865, 879, 895, 903, 907, 912, 934, 939, 945, 949, 966, 977, 985, 993, 1130, 1138, 1005, 1182, 1143, 1157, 1161, 1169, 1166, 1173, 1177, 1190, 1229, 1245, 1250, 1234, 1242, 1255, 1259, 1312, 1321, 1340, 1348, 1356, 1364, 1369, 1372, 1376, 1386, 1421, 1438, 1442, 1446, 1453, 1456, 1484, 1488, 1495, 1502, 1512, 1683, 1691, 1867, 1829, 1850, 1695, 1699, 1716, 1712, 1726, 1755, 1739, 1782, 1778, 1769, 1774, 1703, 1792, 1810, 1798, 1804, 1817, 1825, 1788, 1734, 1765, 1730, 1707, 1838, 1842, 1846, 1859, 1833, 1853, 1875, 1871, 1862, 1887, 1883, 2010, 1878, 1890, 1895, 1899, 1916, 1920, 1924, 1912, 1908, 1903, 1932, 1927, 1935, 1939, 1943, 1956, 1947, 1959, 1963, 1521, 1990, 1994, 2006, 2002, 1983, 1998, 1979, 1975, 1967, 2016, 2020, 2029, 2033, 2037, 2024, 2040, 2049, 2044, 2052, 2056, 2060, 2077, 2069, 2073, 2064, 2085, 2080, 2088, 2092, 2096, 2100, 2122, 2118, 2130, 2114, 2109, 2104, 2136, 2141, 2145, 2162, 2157, 2152, 2165, 2169, 2186, 2193, 2197, 2201, 2178, 2182, 2173, 2204, 2208, 2212, 2216, 2220, 2224, 2231] (by decide +kernel)
  exact fun e he => h _ (List.mem_map.mpr ⟨e, he, rfl⟩)
def xSel (m : MethodName) : Cond := Cond.selects m.cls m m
def xVpub : List Nat := [120, 122, 123, 124, 126, 127, 128, 129, 130, 131, 132, 133, 134, 135, 136, 137, 138, 139, 141, 142, 143, 144, 148, 149, 150, 151, 153, 154, 155, 156, 157, 158, 162, 163, 164, 167, 168, 169, 170, 172, 173, 174, 175, 176, 177, 178, 180, 181, 183, 184, 186, 192, 193, 197, 198, 208, 220, 225, 226, 229, 233, 234, 235, 236, 242, 244, 245, 246, 247, 250, 251, 252, 265, 266, 267, 271, 272, 274, 275, 276, 277, 281, 283, 284, 285, 286, 287, 293, 294, 295, 296, 299, 300, 301, 309, 310, 311, 312, 313, 316, 317, 318]
def xVpri : List Nat := [1, 2, 3, 4, 5, 6, 7, 8, 9, 10, 11, 12, 13, 14, 17, 18, 19, 20, 21, 22, 23, 24, 25, 26, 28, 30, 31, 32, 33, 34, 36, 37, 38, 39, 42, 43, 44, 45, 46, 47, 48, 49, 50, 51, 52, 53, 54, 56, 57, 58, 59, 60, 62, 63, 64, 66, 67, 68, 69, 70, 71, 72, 73, 74, 75, 76, 77, 78, 79, 80, 81, 82, 83, 86, 87, 88, 89, 90, 91, 92, 93, 95, 96, 98, 99, 100, 101, 102, 103, 104, 105, 106, 107, 108, 109, 110, 111, 112, 113, 114, 115, 116, 117, 118, 121, 125, 146, 147, 152, 159, 160, 166, 171, 179, 194, 195, 196, 199, 200, 201, 202, 203, 204, 205, 206, 207, 209, 210, 211, 212, 213, 214, 215, 217, 218, 219, 221, 222, 223, 224, 227, 228, 230, 231, 232, 237, 238, 239, 240, 241, 243, 248, 253, 255, 256, 257, 258, 259, 260, 261, 263, 268, 269, 270, 273, 278, 279, 280, 282, 288, 289, 290, 291, 292, 297, 298, 303, 304, 305, 306, 307, 308]
theorem xV_pub : ∀ j ∈ xVpub, xSel (xM j).1 ∈ lw_tbl := by
  have h : ∀ w ∈ xVpub.map (fun j => xSel (xM j).1), w ∈ tables_1 := x_mem [634, 642, 646, 843, 847, 860, 866, 880, 896, 904, 908, 913, 935, 940, 946, 950, 967, 978, 986, 994, 1131, 1139, 1144, 1158, 1162, 1170, 1174, 1178, 1191, 1230, 1246, 1251, 1256, 1260, 1313, 1341, 1349, 1357, 1365, 1373, 1377, 1387, 1422, 1439, 1443, 1447, 1457, 1485, 1489, 1496, 1503, 1684, 1692, 1696, 1700, 1704, 1708, 1834, 1854, 1863, 1879, 1891, 1896, 1900, 1904, 1928, 1936, 1940, 1944, 1948, 1960, 1964, 1968, 2017, 2021, 2025, 2041, 2045, 2053, 2057, 2061, 2065, 2081, 2089, 2093, 2097, 2101, 2105, 2137, 2142, 2146, 2153, 2166, 2170, 2174, 2205, 2209, 2213, 2217, 2221, 2225, 2232] (by decide +kernel)
  exact fun j hj => x_in (h _ (List.mem_map.mpr ⟨j, hj, rfl⟩))
theorem xV_pri : ∀ j ∈ xVpri, xSel (xM j).1 ∈ lw_tbl := by
  have h : ∀ w ∈ xVpri.map (fun j => (xM j).1), w ∈ lw_privs.map (fun q => q.1) := x_memA [94, 84, 85, 86, 87, 93, 88, 95, 89, 90, 91, 96, 97, 99, 2, 3, 4, 60, 8, 10, 47, 48, 50, 52, 111, 76, 77, 78, 79, 80, 1, 110, 43, 44, 58, 59, 82, 75, 69, 70, 68, 72, 62, 63, 64, 65, 66, 33, 112, 53, 54, 55, 12, 13, 14, 18, 20, 17, 25, 23, 24, 28, 27, 15, 16, 19, 21, 22, 26, 29, 32, 34, 35, 100, 101, 102, 103, 104, 105, 107, 106, 45, 113, 0, 109, 31, 38, 39, 46, 56, 36, 71, 9, 51, 30, 6, 5, 7, 40, 41, 49, 42, 61, 67, 11, 37, 57, 74, 73, 81, 83, 92, 98, 108, 140, 134, 138, 116, 115, 117, 121, 120, 126, 125, 123, 124, 128, 131, 129, 130, 132, 133, 127, 119, 122, 118, 135, 136, 137, 139, 142, 141, 144, 143, 160, 147, 148, 149, 146, 145, 150, 151, 114, 155, 156, 159, 158, 154, 157, 153, 152, 161, 162, 163, 164, 167, 165, 166, 168, 172, 171, 173, 170, 169, 175, 174, 178, 179, 180, 181, 176, 177] (by decide +kernel)
  intro j hj
  obtain ⟨q, hq, he⟩ := List.mem_map.mp (h _ (List.mem_map.mpr ⟨j, hj, rfl⟩))
  refine List.mem_append_left _ (List.mem_map.mpr ⟨q, hq, ?_⟩)
  rw [← he]
  rfl
def xMplain (m : xMT) : Bool := plainName m.1.cls && m.1.cls != "java/lang/invoke/MethodHandle" && m.1.cls != "java/lang/invoke/VarHandle" && (parseMethodDescriptor m.1.desc).map (fun d => d.parameters.length) == some (if m.2.2.2.2.1 then m.2.2.2.2.2 else m.2.2.2.2.2 - 1) && Nat.ble m.2.2.1 22
theorem xM_plain : xMt.all xMplain = true := by decide +kernel
def xMl : List (Nat × Nat × Nat) := [
  (0, 39, 3), (0, 85, 4), (0, 88, 5), (0, 102, 1), (0, 106, 7), (0, 110, 8), (0, 114, 9), (0, 150, 10), (0, 157, 11), (1, 48, 18), (1, 52, 21), (1, 78, 19),
  (1, 106, 16), (1, 115, 22), (1, 125, 321), (1, 131, 24), (1, 143, 319), (1, 148, 26), (3, 27, 322), (3, 60, 31), (3, 67, 32), (3, 90, 33), (3, 121, 34), (4, 34, 39),
  (5, 79, 43), (5, 112, 50), (5, 122, 41), (5, 126, 51), (5, 141, 52), (5, 144, 54), (5, 155, 53), (5, 171, 48), (5, 174, 46), (7, 48, 63), (7, 55, 74), (7, 85, 65),
  (7, 89, 64), (7, 103, 68), (7, 107, 67), (7, 110, 66), (7, 114, 71), (7, 122, 75), (7, 128, 76), (7, 132, 77), (7, 171, 319), (7, 176, 78), (7, 179, 79), (7, 182, 80),
  (7, 185, 81), (7, 188, 73), (7, 198, 82), (7, 201, 83), (7, 205, 70), (7, 214, 69), (7, 225, 72), (8, 24, 87), (8, 29, 321), (8, 48, 85), (8, 67, 88), (8, 94, 89),
  (8, 117, 90), (8, 133, 93), (8, 140, 92), (10, 39, 98), (10, 107, 100), (10, 127, 110), (10, 134, 111), (10, 147, 114), (11, 93, 321), (11, 106, 121), (11, 121, 125), (11, 210, 140),
  (11, 230, 145), (11, 237, 146), (11, 273, 152), (11, 289, 147), (11, 309, 159), (11, 312, 160), (11, 315, 161), (11, 354, 165), (11, 357, 166), (11, 373, 182), (11, 379, 171), (11, 422, 319),
  (11, 431, 179), (11, 437, 320), (11, 440, 185), (11, 444, 187), (12, 108, 191), (12, 112, 253), (12, 117, 188), (12, 130, 199), (12, 161, 201), (12, 175, 203), (12, 179, 200), (12, 182, 204),
  (12, 185, 202), (12, 189, 205), (12, 193, 206), (12, 200, 207), (12, 212, 209), (12, 219, 210), (12, 232, 189), (12, 255, 215), (12, 258, 217), (12, 270, 216), (12, 273, 218), (12, 276, 211),
  (12, 279, 212), (12, 282, 213), (12, 287, 214), (12, 290, 219), (12, 293, 195), (12, 299, 196), (12, 302, 221), (12, 306, 222), (12, 309, 223), (12, 314, 224), (12, 321, 227), (12, 324, 194),
  (12, 327, 228), (12, 331, 230), (12, 338, 231), (12, 346, 238), (12, 350, 237), (12, 353, 239), (12, 356, 241), (12, 359, 240), (12, 363, 243), (12, 369, 249), (12, 372, 248), (12, 375, 232),
  (12, 378, 254), (12, 382, 255), (12, 385, 256), (12, 388, 260), (12, 392, 258), (12, 396, 257), (12, 400, 259), (12, 404, 262), (12, 407, 263), (12, 411, 261), (12, 414, 264), (12, 418, 268),
  (12, 421, 269), (12, 424, 270), (12, 427, 273), (12, 430, 280), (12, 433, 278), (12, 437, 279), (12, 441, 282), (12, 468, 288), (12, 483, 289), (12, 486, 290), (12, 492, 292), (12, 495, 291),
  (12, 503, 314), (12, 514, 298), (12, 518, 297), (12, 524, 302), (12, 527, 304), (12, 531, 305), (12, 534, 306), (12, 537, 303), (12, 540, 307), (12, 543, 308), (12, 546, 315), (13, 9, 119),
  (13, 12, 190), (13, 13, 120), (13, 17, 197), (13, 18, 122), (13, 22, 198), (13, 23, 123), (13, 27, 220), (13, 28, 124), (13, 31, 208), (13, 32, 126), (13, 36, 225), (13, 37, 127),
  (13, 40, 226), (13, 41, 128), (13, 45, 229), (13, 46, 129), (13, 49, 233), (13, 50, 130), (13, 54, 234), (13, 55, 131), (13, 58, 235), (13, 59, 132), (13, 62, 236), (13, 63, 133),
  (13, 67, 242), (13, 68, 134), (13, 72, 244), (13, 73, 135), (13, 76, 245), (13, 77, 138), (13, 80, 250), (13, 81, 139), (13, 84, 251), (13, 85, 141), (13, 88, 252), (13, 89, 142),
  (13, 93, 265), (13, 94, 143), (13, 97, 266), (13, 98, 144), (13, 101, 267), (13, 102, 148), (13, 105, 271), (13, 106, 149), (13, 109, 272), (13, 110, 150), (13, 113, 274), (13, 114, 151),
  (13, 117, 275), (13, 118, 153), (13, 121, 276), (13, 122, 154), (13, 126, 277), (13, 127, 155), (13, 130, 281), (13, 131, 136), (13, 134, 246), (13, 135, 137), (13, 138, 247), (13, 139, 156),
  (13, 142, 283), (13, 143, 157), (13, 146, 284), (13, 147, 158), (13, 150, 285), (13, 151, 162), (13, 154, 286), (13, 155, 163), (13, 158, 287), (13, 159, 164), (13, 162, 293), (13, 163, 167),
  (13, 166, 294), (13, 167, 168), (13, 170, 295), (13, 171, 169), (13, 174, 296), (13, 175, 170), (13, 178, 299), (13, 179, 172), (13, 182, 300), (13, 183, 173), (13, 187, 301), (13, 188, 174),
  (13, 191, 309), (13, 192, 175), (13, 195, 310), (13, 196, 176), (13, 199, 311), (13, 200, 177), (13, 203, 312), (13, 204, 178), (13, 207, 313), (13, 208, 180), (13, 211, 192), (13, 212, 181),
  (13, 215, 193), (13, 216, 183), (13, 219, 316), (13, 222, 184), (13, 226, 317), (13, 227, 186), (13, 230, 318)]
def xMn : List (Nat × Nat × Nat) := [
  (0, 53, 116), (0, 75, 106), (0, 123, 118), (0, 136, 107), (0, 140, 41), (0, 144, 47), (0, 161, 113), (0, 164, 115), (0, 170, 101), (0, 173, 102), (0, 188, 111), (0, 192, 112),
  (1, 82, 111), (1, 85, 112), (1, 110, 107), (1, 135, 115), (1, 139, 108), (3, 44, 106), (3, 56, 41), (3, 94, 47), (3, 101, 118), (3, 114, 113), (3, 117, 115), (3, 137, 112),
  (3, 141, 111), (5, 66, 116), (5, 70, 113), (5, 92, 16), (5, 106, 20), (5, 109, 117), (5, 148, 161), (5, 162, 118), (5, 168, 115), (7, 58, 105), (7, 252, 109), (7, 261, 100),
  (7, 280, 56), (8, 78, 106), (8, 91, 113), (8, 106, 16), (8, 136, 115), (10, 25, 55), (10, 32, 94), (10, 37, 35), (10, 38, 27), (10, 42, 36), (10, 94, 37), (10, 98, 28),
  (10, 101, 57), (10, 104, 96), (10, 168, 38), (10, 171, 58), (11, 15, 61), (11, 28, 97), (11, 46, 15), (11, 59, 29), (11, 66, 0), (11, 76, 84), (11, 99, 17), (11, 110, 98),
  (11, 113, 62), (11, 131, 101), (11, 135, 102), (11, 138, 111), (11, 143, 112), (11, 146, 100), (11, 149, 113), (11, 153, 116), (11, 166, 95), (11, 179, 39), (11, 183, 103), (11, 186, 23),
  (11, 196, 107), (11, 202, 16), (11, 206, 25), (11, 217, 58), (11, 222, 59), (11, 226, 60), (11, 233, 104), (11, 241, 50), (11, 244, 41), (11, 248, 46), (11, 251, 47), (11, 254, 48),
  (11, 257, 40), (11, 258, 42), (11, 262, 105), (11, 266, 106), (11, 269, 49), (11, 293, 114), (11, 296, 45), (11, 299, 30), (11, 325, 38), (11, 331, 44), (11, 337, 2), (11, 343, 7),
  (11, 350, 9), (11, 363, 6), (11, 367, 12), (11, 370, 13), (11, 376, 1), (11, 389, 14), (11, 400, 108), (11, 403, 86), (11, 407, 91), (11, 419, 109), (11, 434, 99)]
def xMlC (e : Nat × Nat × Nat) : Cond := Cond.methodLink (xo e.1) e.2.1 (xM e.2.2).1
def xMnC (e : Nat × Nat × Nat) : Cond := Cond.methodLinkNest (xo e.1) e.2.1 (xM e.2.2).1 "LastCloud"
theorem xMl_ok : ∀ e ∈ xMl, xMlC e ∈ tables_1 := by
  have h : ∀ w ∈ xMl.map xMlC, w ∈ tables_1 := x_mem [1266, 1272, 1276, 1327, 1331, 1332, 1336, 1295, 1303, 532, 557, 536, 561, 569, 923, 924, 960, 961, 1197, 1204, 1208, 1212, 1222, 890, 1071, 1155, 1104, 1091, 1095, 1107, 1099, 1116, 1120, 654, 665, 658, 661, 674, 750, 736, 767, 669, 740, 754, 744, 758, 778, 795, 810, 782, 819, 825, 763, 773, 788, 1394, 1401, 1402, 1405, 1409, 1414, 1428, 1433, 212, 835, 544, 552, 873, 525, 636, 837, 969, 996, 1003, 1164, 1180, 1232, 1240, 1248, 1315, 1319, 1359, 1367, 1450, 1451, 1491, 1498, 1505, 1516, 1519, 1687, 1714, 1724, 1737, 1710, 1780, 1753, 1776, 1767, 1772, 1790, 1808, 1757, 1786, 1732, 1760, 1763, 1796, 1802, 1815, 1823, 1728, 1827, 1848, 1836, 1840, 1844, 1857, 1873, 1865, 1869, 1885, 1881, 1918, 1914, 1922, 1906, 1910, 1930, 1950, 1954, 2008, 1985, 1988, 1992, 1996, 2000, 2004, 1981, 1970, 1973, 1977, 2012, 2027, 2031, 2035, 2047, 2071, 2075, 2067, 2083, 2120, 2116, 2128, 2107, 2112, 2148, 2155, 2160, 2188, 2191, 2195, 2199, 2184, 2176, 2180, 2227, 24, 1511, 632, 1694, 640, 1698, 644, 1706, 841, 1702, 845, 1832, 858, 1852, 864, 1861, 878, 1877, 894, 1889, 902, 1894, 906, 1898, 911, 1902, 933, 1926, 938, 1934, 965, 1946, 976, 1958, 984, 1962, 992, 1966, 1129, 2015, 1137, 2019, 1142, 2023, 1156, 2039, 1160, 2043, 1168, 2051, 1172, 2055, 1176, 2059, 1189, 2063, 944, 1938, 948, 1942, 1228, 2079, 1244, 2087, 1249, 2091, 1254, 2095, 1258, 2099, 1311, 2103, 1339, 2135, 1347, 2140, 1355, 2144, 1363, 2151, 1371, 2164, 1375, 2168, 1385, 2172, 1420, 2203, 1437, 2207, 1441, 2211, 1445, 2215, 1455, 1682, 1483, 1690, 1487, 2219, 1494, 2223, 1501, 2230] (by decide +kernel)
  exact fun e he => h _ (List.mem_map.mpr ⟨e, he, rfl⟩)
theorem xMn_ok : ∀ e ∈ xMn, xMnC e ∈ tables_1 := by
  have h : ∀ w ∈ xMn.map xMnC, w ∈ tables_1 := x_mem [1270, 1271, 1337, 1338, 1288, 1289, 1299, 1300, 1307, 1308, 1309, 1310, 540, 548, 564, 928, 956, 1202, 1203, 1216, 1217, 1220, 1221, 1226, 1227, 1069, 1070, 1075, 1078, 1082, 1124, 1111, 1115, 831, 799, 806, 815, 1398, 1399, 1413, 1432, 82, 104, 123, 172, 216, 1463, 1467, 1471, 1478, 886, 1086, 32, 72, 344, 398, 423, 489, 528, 648, 649, 849, 853, 857, 863, 868, 869, 882, 898, 910, 915, 919, 937, 942, 952, 972, 980, 988, 999, 1087, 1127, 1128, 1133, 1141, 1008, 1065, 1146, 1147, 1151, 1184, 1185, 1193, 1253, 1236, 1262, 1284, 1290, 1323, 1343, 1351, 1362, 1379, 1389, 1390, 1424, 1449, 1459] (by decide +kernel)
  exact fun e he => h _ (List.mem_map.mpr ⟨e, he, rfl⟩)
def xBn : List MethodName := [⟨"java/lang/Object", "<init>", "()V"⟩, ⟨"java/lang/Math", "max", "(II)I"⟩, ⟨"java/lang/Math", "min", "(II)I"⟩, ⟨"java/lang/System", "arraycopy", "(Ljava/lang/Object;ILjava/lang/Object;II)V"⟩, ⟨"java/lang/String", "length", "()I"⟩, ⟨"java/lang/String", "charAt", "(I)C"⟩]
def xBl : List (Nat × Nat × Nat) := [
  (0, 3, 0), (1, 3, 0), (1, 100, 1), (1, 122, 2), (2, 1, 0), (3, 3, 0), (3, 105, 2), (3, 111, 1), (4, 3, 0), (5, 3, 0), (5, 100, 1), (5, 159, 2),
  (6, 3, 0), (6, 22, 3), (7, 3, 0), (7, 42, 2), (7, 82, 1), (7, 93, 4), (7, 99, 5), (8, 3, 0), (8, 97, 2), (8, 103, 1), (9, 3, 0), (9, 22, 3),
  (10, 3, 0), (10, 151, 1), (10, 157, 2), (11, 3, 0), (11, 392, 2), (11, 397, 1), (11, 447, 3), (12, 7, 0), (12, 152, 2), (12, 165, 4), (12, 171, 5), (12, 296, 1)]
def xBlC (e : Nat × Nat × Nat) : Cond := Cond.methodLink (xo e.1) e.2.1 (xBn.getD e.2.2 ⟨"", "", ""⟩)
theorem xBl_ok : ∀ e ∈ xBl, xBlC e ∈ tables_1 := by
  have h : ∀ w ∈ xBl.map xBlC, w ∈ tables_1 := x_mem [426, 347, 554, 573, 175, 401, 1218, 1219, 126, 1011, 1077, 1103, 85, 1475, 35, 653, 836, 678, 688, 492, 1419, 1418, 107, 1482, 75, 877, 932, 27, 1383, 1384, 1508, 1514, 1723, 1741, 1742, 1831] (by decide +kernel)
  exact fun e he => h _ (List.mem_map.mpr ⟨e, he, rfl⟩)
def xKi : List (Nat × Nat × Int) := [
  (1, 114, 1000000), (3, 11, 46848), (3, 35, 2147483647), (3, 40, -2147483648), (5, 11, 46848), (5, 95, 1000000), (7, 113, 1000000), (8, 28, 1000000), (10, 137, -2000000000), (11, 142, -2000000000), (11, 205, 1000000), (11, 362, 2000000000),
  (12, 58, 93696), (12, 151, 99999), (12, 313, -2000000000), (14, 265, 1431655765), (14, 266, 858993459), (14, 267, 252645135)]
def xKiC (e : Nat × Nat × Int) : Cond := Cond.constant (xo e.1) e.2.1 (Int32.ofInt e.2.2)
theorem xKi_ok : ∀ e ∈ xKi, xKiC e ∈ tables_1 := by
  have h : ∀ w ∈ xKi.map xKiC, w ∈ tables_1 := x_mem [568, 402, 1200, 1201, 1012, 1076, 771, 1400, 553, 862, 943, 1318, 1515, 1722, 1856, 747, 748, 749] (by decide +kernel)
  exact fun e he => h _ (List.mem_map.mpr ⟨e, he, rfl⟩)
def xKl : List (Nat × Nat × Int) := [
  (0, 94, 1103515245), (0, 96, 12345), (0, 98, 2147483648), (0, 100, 65536), (0, 148, -1), (0, 153, 100), (0, 155, 200), (12, 115, 2), (12, 140, 97), (12, 142, 122), (12, 144, 48), (12, 146, 57),
  (12, 341, 3), (12, 367, 2000), (12, 444, 1103515245), (12, 450, 12345), (12, 452, 2147483648), (12, 454, 65536), (12, 477, -1), (12, 479, 100), (12, 481, 199), (12, 490, 2000000000), (12, 501, 4), (12, 512, 40),
  (13, 220, 4294967295)]
def xKlC (e : Nat × Nat × Int) : Cond := Cond.constantLong (xo e.1) e.2.1 (Int64.ofInt e.2.2)
theorem xKl_ok : ∀ e ∈ xKl, xKlC e ∈ tables_1 := by
  have h : ∀ w ∈ xKl.map xKlC, w ∈ tables_1 := x_mem [1280, 1281, 1282, 1283, 1294, 1301, 1302, 1686, 1718, 1719, 1720, 1721, 1893, 1953, 2124, 2125, 2126, 2127, 2132, 2133, 2134, 2111, 2139, 2159, 2234] (by decide +kernel)
  exact fun e he => h _ (List.mem_map.mpr ⟨e, he, rfl⟩)
def xKs : List (Nat × Nat × Nat) := [
  (7, 117, 16), (7, 135, 0), (7, 137, 1), (7, 139, 2), (7, 141, 3), (7, 143, 4), (7, 145, 5), (7, 147, 6), (7, 149, 7), (7, 150, 8), (7, 152, 9), (7, 154, 10),
  (7, 204, 11), (7, 209, 12), (7, 217, 13), (7, 221, 14), (7, 223, 15), (7, 228, 17), (7, 230, 18), (7, 255, 19), (7, 257, 20), (7, 259, 21), (7, 278, 22), (7, 287, 23),
  (7, 292, 24), (7, 297, 25), (7, 298, 26), (12, 196, 16), (12, 198, 11), (12, 204, 13), (12, 206, 12), (12, 215, 14), (12, 217, 15), (12, 222, 17), (12, 224, 18), (12, 226, 19),
  (12, 228, 20), (12, 230, 21), (12, 236, 25), (12, 237, 26), (12, 239, 5), (12, 241, 6), (12, 243, 7), (12, 245, 8), (12, 247, 9), (12, 249, 10), (12, 251, 23), (12, 253, 24),
  (12, 261, 0), (12, 262, 1), (12, 264, 2), (12, 266, 3), (12, 268, 4), (12, 285, 22)]
def xKsC (e : Nat × Nat × Nat) : Cond := Cond.stringRef (xo e.1) e.2.1 (xStr.getD e.2.2 "")
theorem xKs_ok : ∀ e ∈ xKs, xKsC e ∈ tables_1 := by
  have h : ∀ w ∈ xKs.map xKsC, w ∈ tables_1 := x_mem [792, 673, 726, 727, 728, 729, 730, 731, 732, 733, 734, 735, 762, 772, 777, 786, 787, 793, 794, 803, 804, 805, 814, 823, 824, 829, 830, 1812, 1800, 1801, 1771, 1806, 1807, 1813, 1814, 1819, 1820, 1821, 1794, 1795, 1736, 1743, 1744, 1745, 1746, 1747, 1784, 1785, 1748, 1749, 1750, 1751, 1752, 1822] (by decide +kernel)
  exact fun e he => h _ (List.mem_map.mpr ⟨e, he, rfl⟩)
def xKc : List (Nat × Nat × Nat) := [
  (10, 9, 4), (10, 17, 2), (10, 23, 6), (10, 30, 9), (11, 13, 7), (11, 26, 10), (11, 44, 1), (11, 51, 5), (11, 57, 3), (11, 64, 0), (11, 74, 8), (13, 7, 11),
  (13, 10, 12)]
def xKcC (e : Nat × Nat × Nat) : Cond := Cond.classLink (xo e.1) e.2.1 (xCl e.2.2).1
theorem xKc_ok : ∀ e ∈ xKc, xKcC e ∈ tables_1 := by
  have h : ∀ w ∈ xKc.map xKcC, w ∈ tables_1 := x_mem [76, 78, 80, 102, 30, 70, 342, 394, 396, 421, 487, 22, 1509] (by decide +kernel)
  exact fun e he => h _ (List.mem_map.mpr ⟨e, he, rfl⟩)
theorem xKm_81 : Cond.classLink (xo 11) 81 "[[J" ∈ tables_1 := List.mem_of_getElem? (i := 523) (by decide +kernel)
theorem xIns_0 : Cond.instantiable RX0 18 ∈ tables_1 := List.mem_of_getElem? (i := 422) (by decide +kernel)
theorem xIni_0 : Cond.initialized RX0 ∈ tables_1 := List.mem_of_getElem? (i := 10) (by decide +kernel)
theorem xIns_1 : Cond.instantiable RX1 10 ∈ tables_1 := List.mem_of_getElem? (i := 343) (by decide +kernel)
theorem xIni_1 : Cond.initialized RX1 ∈ tables_1 := List.mem_of_getElem? (i := 8) (by decide +kernel)
theorem xIns_2 : Cond.instantiable RX2 6 ∈ tables_1 := List.mem_of_getElem? (i := 171) (by decide +kernel)
theorem xIni_2 : Cond.initialized RX2 ∈ tables_1 := List.mem_of_getElem? (i := 7) (by decide +kernel)
theorem xIns_3 : Cond.instantiable RX3 5 ∈ tables_1 := List.mem_of_getElem? (i := 397) (by decide +kernel)
theorem xIni_3 : Cond.initialized RX3 ∈ tables_1 := List.mem_of_getElem? (i := 9) (by decide +kernel)
theorem xIns_4 : Cond.instantiable RX4 7 ∈ tables_1 := List.mem_of_getElem? (i := 122) (by decide +kernel)
theorem xIni_4 : Cond.initialized RX4 ∈ tables_1 := List.mem_of_getElem? (i := 6) (by decide +kernel)
theorem xIns_5 : Cond.instantiable RX5 15 ∈ tables_1 := List.mem_of_getElem? (i := 1007) (by decide +kernel)
theorem xIni_5 : Cond.initialized RX5 ∈ tables_1 := List.mem_of_getElem? (i := 20) (by decide +kernel)
theorem xIns_6 : Cond.instantiable RX6 3 ∈ tables_1 := List.mem_of_getElem? (i := 81) (by decide +kernel)
theorem xIni_6 : Cond.initialized RX6 ∈ tables_1 := List.mem_of_getElem? (i := 4) (by decide +kernel)
theorem xIns_7 : Cond.instantiable RX7 10 ∈ tables_1 := List.mem_of_getElem? (i := 31) (by decide +kernel)
theorem xIni_7 : Cond.initialized RX7 ∈ tables_1 := List.mem_of_getElem? (i := 2) (by decide +kernel)
theorem xIns_8 : Cond.instantiable RX8 9 ∈ tables_1 := List.mem_of_getElem? (i := 488) (by decide +kernel)
theorem xIni_8 : Cond.initialized RX8 ∈ tables_1 := List.mem_of_getElem? (i := 11) (by decide +kernel)
theorem xIns_9 : Cond.instantiable RX9 3 ∈ tables_1 := List.mem_of_getElem? (i := 103) (by decide +kernel)
theorem xIni_9 : Cond.initialized RX9 ∈ tables_1 := List.mem_of_getElem? (i := 5) (by decide +kernel)
theorem xIns_10 : Cond.instantiable RX10 19 ∈ tables_1 := List.mem_of_getElem? (i := 71) (by decide +kernel)
theorem xIni_10 : Cond.initialized RX10 ∈ tables_1 := List.mem_of_getElem? (i := 3) (by decide +kernel)
theorem xIns_11 : Cond.instantiable RX11 18 ∈ tables_1 := List.mem_of_getElem? (i := 23) (by decide +kernel)
theorem xIni_11 : Cond.initialized RX11 ∈ tables_1 := List.mem_of_getElem? (i := 1) (by decide +kernel)
theorem xIns_12 : Cond.instantiable RX12 53 ∈ tables_1 := List.mem_of_getElem? (i := 1510) (by decide +kernel)
theorem xIni_12 : Cond.initialized RX12 ∈ tables_1 := List.mem_of_getElem? (i := 14) (by decide +kernel)
