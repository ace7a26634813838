/-- LastCloudModel.mixed([IIIII)I -/
def cd_270 : List Instr := [.aload 0, .iload 2, .invokevirtual 1960968, .istore 6, .iload 6, .aload 1, .iload 2, .iload 3, .iload 4, .iconst 1, .iload 5, .invokestatic 2143940, .iaload, .imul, .iconst 100, .iload 6, .isub, 
  .aload 1, .iload 2, .iload 3, .iload 4, .iconst 0, .iload 5, .invokestatic 2143940, .iaload, .imul, .iadd, .iconst 100, .idiv, .ireturn]
def ps_270 : List Nat := [0, 1, 2, 5, 7, 9, 10, 11, 12, 14, 15, 17, 20, 21, 22, 24, 26, 27, 28, 29, 30, 32, 33, 35, 38, 39, 40, 41, 43, 44]
theorem ck_270 : xChkM 12 false (some .int) prog_14_method_71_code cd_270 ps_270 = true := by decide +kernel
/-- LastCloudModel.isRuled(IIII)Z -/
def cd_271 : List Instr := [.iload 1, .iconst 1, .if_icmp .ne 23, .aload 0, .aload 0, .getfield 12212, .iload 2, .iconst 2, .iadd, .iaload, .iload 3, .iload 4, .iconst 1, .if_icmp .ne 16, .iconst 1, .goto 17, .iconst 0, 
  .invokevirtual 2048976, .ifCond .eq 21, .iconst 1, .goto 22, .iconst 0, .freturn, .iload 1, .iconst 3, .if_icmp .ne 42, .aload 0, .getfield 12212, .iload 2, .iconst 1, .iadd, .iaload, .aload 0, 
  .getfield 12302, .aload 0, .getfield 12212, .iload 2, .iconst 2, .iadd, .iaload, .iaload, .if_icmp .ne 44, .iconst 1, .goto 45, .iconst 0, .freturn]
def ps_271 : List Nat := [0, 1, 2, 5, 6, 7, 10, 11, 12, 13, 14, 15, 17, 18, 21, 22, 25, 26, 29, 32, 33, 36, 37, 38, 39, 40, 43, 44, 47, 48, 49, 50, 51, 52, 55, 56, 59, 60, 61, 62, 63, 64, 67, 68, 71, 72]
theorem ck_271 : xChkM 12 false (some .boolean) prog_14_method_72_code cd_271 ps_271 = true := by decide +kernel
/-- LastCloudModel.looks(IIIIII)V -/
def cd_272 : List Instr := [.iload 2, .iload 3, .iload 4, .iload 5, .iload 6, .invokestatic 2143940, .istore 7, .aload 0, .iload 2, .iconst 1, .invokevirtual 1664972, .iconst 2, .if_icmp .ne 15, .iconst 1, .goto 16, .iconst 0, 
  .istore 8, .aload 0, .getfield 12262, .iload 7, .iload 1, .iconst 2, .if_icmp .ne 31, .iload 8, .ifCond .eq 29, .iconst 10000, .iload 4, .isub, .goto 35, .iconst 0, .goto 35, .aload 0, .iload 2, 
  .iload 4, .invokevirtual 2144972, .iastore, .aload 0, .getfield 12272, .iload 7, .iconst (-1), .iastore, .aload 0, .getfield 12282, .iload 7, .iload 8, .ifCond .eq 48, .iconst 10000, .goto 49, 
  .iconst 0, .iastore, .aload 0, .iload 2, .iload 3, .iload 6, .invokevirtual 2152976, .istore 9, .iload 5, .iconst 1, .if_icmp .ne 80, .iload 4, .aload 0, .getfield 12012, .iconst 8, .iaload, 
  .if_icmp .ge 80, .iload 9, .iload 3, .if_icmp .le 80, .aload 0, .iload 7, .iload 2, .iload 9, .iload 4, .iconst 1, .iadd, .iconst 1, .iload 6, .invokestatic 2143940, .iconst 0, .invokevirtual 2184979, 
  .iload 6, .iconst 1, .if_icmp .ne 93, .aload 0, .iload 7, .iload 2, .iload 3, .iload 4, .iload 5, .iconst 0, .invokestatic 2143940, .iconst 1, .invokevirtual 2184979, .iconst 2, .iload 2, .imul, 
  .iload 6, .iadd, .istore 10, .iconst 0, .istore 11, .iload 11, .aload 0, .getfield 12202, .iload 10, .iaload, .if_icmp .ge 212, .iconst 300, .iload 10, .imul, .iconst 5, .iload 11, .imul, .iadd, 
  .istore 12, .iload 4, .aload 0, .getfield 12212, .iload 12, .iconst 3, .iadd, .iaload, .iadd, .istore 13, .iload 13, .aload 0, .getfield 12012, .iconst 8, .iaload, .if_icmp .le 132, .iconst (-1), 
  .goto 136, .aload 0, .iload 12, .iload 3, .invokevirtual 2016972, .istore 14, .iload 14, .iconst (-1), .if_icmp .eq 210, .aload 0, .iload 1, .iload 12, .iload 14, .iload 6, .invokevirtual 2168980, 
  .ifCond .ne 148, .goto 210, .aload 0, .aload 0, .getfield 12262, .aload 0, .getfield 12212, .iload 12, .iconst 2, .iadd, .iaload, .iload 14, .iload 13, .iload 6, .invokevirtual 2160984, .istore 15, 
  .iload 15, .aload 0, .getfield 12262, .iload 7, .iaload, .if_icmp .gt 169, .goto 210, .aload 0, .getfield 12262, .iload 7, .iload 15, .iastore, .aload 0, .getfield 12272, .iload 7, .iconst 100, 
  .iconst 10, .aload 0, .getfield 12212, .iload 12, .iaload, .imul, .iadd, .aload 0, .getfield 12212, .iload 12, .iconst 1, .iadd, .iaload, .iadd, .iastore, .aload 0, .getfield 12282, .iload 7, .aload 0, 
  .aload 0, .getfield 12282, .aload 0, .getfield 12212, .iload 12, .iconst 2, .iadd, .iaload, .iload 14, .iload 13, .iload 6, .invokevirtual 2160984, .iastore, .iinc 11 1, .goto 101, .return_]
def ps_272 : List Nat := [0, 1, 2, 4, 6, 8, 11, 13, 14, 15, 16, 19, 20, 23, 24, 27, 28, 30, 31, 34, 36, 37, 38, 41, 43, 46, 49, 51, 52, 55, 56, 59, 60, 61, 63, 66, 67, 68, 71, 73, 74, 75, 76, 79, 81, 83, 86, 89, 92, 93, 94, 95, 
  96, 97, 99, 102, 104, 106, 107, 110, 112, 113, 116, 118, 119, 122, 124, 125, 128, 129, 131, 132, 134, 136, 137, 138, 139, 141, 144, 145, 148, 150, 151, 154, 155, 157, 158, 159, 161, 163, 164, 167, 168, 
  171, 172, 173, 174, 176, 177, 179, 180, 182, 184, 185, 188, 190, 191, 194, 197, 199, 200, 201, 203, 204, 205, 207, 209, 210, 213, 215, 216, 217, 218, 219, 221, 223, 224, 227, 229, 230, 233, 234, 237, 
  238, 240, 241, 244, 246, 248, 249, 252, 253, 254, 256, 258, 260, 263, 266, 269, 270, 271, 274, 275, 278, 280, 281, 282, 283, 285, 287, 289, 292, 294, 296, 297, 300, 302, 303, 306, 309, 310, 313, 315, 
  317, 318, 319, 322, 324, 326, 328, 329, 332, 334, 335, 336, 337, 338, 341, 343, 344, 345, 346, 347, 348, 349, 352, 354, 355, 356, 359, 360, 363, 365, 366, 367, 368, 370, 372, 374, 377, 378, 381, 384]
theorem ck_272 : xChkM 12 false none prog_14_method_73_code cd_272 ps_272 = true := by decide +kernel
/-- LastCloudModel.takesOver(III)V -/
def cd_273 : List Instr := [.aload 0, .getfield 12262, .iload 2, .iaload, .aload 0, .getfield 12262, .iload 1, .iaload, .if_icmp .gt 10, .return_, .aload 0, .getfield 12262, .iload 1, .aload 0, .getfield 12262, .iload 2, .iaload, 
  .iastore, .aload 0, .getfield 12272, .iload 1, .iload 3, .iastore, .aload 0, .getfield 12282, .iload 1, .aload 0, .getfield 12282, .iload 2, .iaload, .iastore, .return_]
def ps_273 : List Nat := [0, 1, 4, 5, 6, 7, 10, 11, 12, 15, 16, 17, 20, 21, 22, 25, 26, 27, 28, 29, 32, 33, 34, 35, 36, 39, 40, 41, 44, 45, 46, 47]
theorem ck_273 : xChkM 12 false none prog_14_method_74_code cd_273 ps_273 = true := by decide +kernel
/-- LastCloudModel.solves(I)V -/
def cd_274 : List Instr := [.aload 0, .getfield 12290, .iload 1, .if_icmp .ne 5, .return_, .aload 0, .invokevirtual 2000967, .iconst 0, .istore 2, .iload 2, .aload 0, .getfield 12012, .iconst 1, .iaload, .if_icmp .ge 42, 
  .aload 0, .getfield 12302, .iload 2, .aload 0, .aload 0, .iload 2, .iconst 3, .invokevirtual 1664972, .iconst 1, .if_icmp .ne 37, .iconst 1, .aload 0, .iload 2, .iconst 5, .invokevirtual 1664972, 
  .aload 0, .getfield 12012, .iconst 5, .iaload, .isub, .dadd, .goto 38, .iconst 100, .invokevirtual 2088968, .iastore, .iinc 2 1, .goto 9, .aload 0, .getfield 12012, .iconst 8, .iaload, .istore 2, 
  .iload 2, .ifCond .lt 103, .iconst 0, .istore 3, .iload 3, .aload 0, .getfield 12012, .iconst 6, .iaload, .ifCond .le 59, .iconst 1, .goto 60, .iconst 0, .if_icmp .gt 101, .iconst 0, .istore 4, 
  .iload 4, .aload 0, .getfield 12012, .iconst 1, .iaload, .if_icmp .ge 99, .aload 0, .iload 4, .iconst 0, .invokevirtual 1664972, .istore 5, .iload 5, .aload 0, .getfield 12012, .iconst 7, .iaload, 
  .if_icmp .gt 97, .iconst 0, .istore 6, .iload 6, .iconst 2, .if_icmp .ge 95, .aload 0, .iload 1, .iload 4, .iload 5, .iload 2, .iload 6, .iload 3, .invokevirtual 2176991, .iinc 6 1, .goto 82, 
  .iinc 5 1, .goto 74, .iinc 4 1, .goto 63, .iinc 3 1, .goto 51, .iinc 2 (-1), .goto 47, .aload 0, .iload 1, .putfield 12290, .return_]
def ps_274 : List Nat := [0, 1, 4, 5, 8, 9, 10, 13, 14, 15, 16, 17, 20, 21, 22, 25, 26, 29, 30, 31, 32, 33, 34, 37, 38, 41, 42, 43, 44, 45, 48, 49, 52, 53, 54, 55, 58, 61, 63, 66, 67, 70, 73, 74, 77, 79, 80, 81, 82, 85, 86, 87, 
  88, 89, 92, 94, 95, 98, 99, 102, 103, 106, 107, 109, 111, 112, 115, 116, 117, 120, 121, 123, 124, 127, 129, 131, 132, 135, 137, 138, 141, 142, 144, 146, 147, 150, 151, 152, 154, 156, 157, 159, 160, 
  163, 166, 169, 172, 175, 178, 181, 184, 187, 190, 193, 194, 195, 198]
theorem ck_274 : xChkM 12 false none prog_14_method_75_code cd_274 ps_274 = true := by decide +kernel
/-- LastCloudModel.isRule(I)Z -/
def cd_275 : List Instr := [.iload 0, .i2l, .jsr 0, .jsr 3, .invokestatic 1615932, .freturn]
def ps_275 : List Nat := [0, 1, 2, 3, 6, 9]
theorem ck_275 : xChkM 12 false (some .boolean) prog_14_method_76_code cd_275 ps_275 = true := by decide +kernel
/-- LastCloudModel.isState(IIIZ)Z -/
def cd_276 : List Instr := [.aload 0, .iload 1, .iload 2, .invokevirtual 2032972, .ifCond .eq 24, .iload 3, .i2l, .jsr 0, .aload 0, .getfield 12012, .iconst 8, .iaload, .i2l, .invokestatic 1615932, .ifCond .eq 24, .iload 4, 
  .ifCond .eq 22, .aload 0, .getfield 12012, .iconst 6, .iaload, .ifCond .le 24, .iconst 1, .goto 25, .iconst 0, .freturn]
def ps_276 : List Nat := [0, 1, 2, 3, 6, 9, 10, 11, 12, 13, 16, 18, 19, 20, 23, 26, 28, 31, 32, 35, 37, 38, 41, 42, 45, 46]
theorem ck_276 : xChkM 12 false (some .boolean) prog_14_method_77_code cd_276 ps_276 = true := by decide +kernel
/-- LastCloudModel.bit(Z)I -/
def cd_277 : List Instr := [.iload 0, .ifCond .eq 4, .iconst 1, .goto 5, .iconst 0, .ireturn]
def ps_277 : List Nat := [0, 1, 4, 5, 8, 9]
theorem ck_277 : xChkM 12 false (some .int) prog_14_method_78_code cd_277 ps_277 = true := by decide +kernel
/-- LastCloudModel.worth(IIIIZZ)I -/
def cd_278 : List Instr := [.iload 1, .invokestatic 2207924, .ifCond .eq 10, .aload 0, .iload 2, .iload 3, .iload 4, .iload 6, .invokevirtual 2208980, .ifCond .ne 12, .iconst (-2000000000), .ireturn, .aload 0, .iload 1, 
  .invokevirtual 2192971, .aload 0, .getfield 12262, .iload 2, .iload 3, .iload 4, .iload 5, .invokestatic 2223924, .iload 6, .invokestatic 2223924, .invokestatic 2143940, .iaload, .ireturn]
def ps_278 : List Nat := [0, 1, 4, 7, 8, 9, 10, 12, 14, 17, 20, 23, 24, 25, 26, 29, 30, 33, 34, 35, 37, 39, 42, 44, 47, 50, 51]
theorem ck_278 : xChkM 12 false (some .int) prog_14_method_79_code cd_278 ps_278 = true := by decide +kernel
/-- LastCloudModel.deed(IIIIZZ)I -/
def cd_279 : List Instr := [.iload 1, .invokestatic 2207924, .ifCond .eq 10, .aload 0, .iload 2, .iload 3, .iload 4, .iload 6, .invokevirtual 2208980, .ifCond .ne 12, .iconst (-2), .ireturn, .aload 0, .iload 1, 
  .invokevirtual 2192971, .aload 0, .getfield 12272, .iload 2, .iload 3, .iload 4, .iload 5, .invokestatic 2223924, .iload 6, .invokestatic 2223924, .invokestatic 2143940, .iaload, .ireturn]
def ps_279 : List Nat := [0, 1, 4, 7, 8, 9, 10, 12, 14, 17, 20, 22, 23, 24, 25, 28, 29, 32, 33, 34, 36, 38, 41, 43, 46, 49, 50]
theorem ck_279 : xChkM 12 false (some .int) prog_14_method_80_code cd_279 ps_279 = true := by decide +kernel
/-- LastCloudModel.home(IIIIZZ)I -/
def cd_280 : List Instr := [.iload 1, .invokestatic 2207924, .ifCond .eq 10, .aload 0, .iload 2, .iload 3, .iload 4, .iload 6, .invokevirtual 2208980, .ifCond .ne 12, .iconst (-2), .ireturn, .aload 0, .iload 1, 
  .invokevirtual 2192971, .aload 0, .getfield 12282, .iload 2, .iload 3, .iload 4, .iload 5, .invokestatic 2223924, .iload 6, .invokestatic 2223924, .invokestatic 2143940, .iaload, .ireturn]
def ps_280 : List Nat := [0, 1, 4, 7, 8, 9, 10, 12, 14, 17, 20, 22, 23, 24, 25, 28, 29, 32, 33, 34, 36, 38, 41, 43, 46, 49, 50]
theorem ck_280 : xChkM 12 false (some .int) prog_14_method_81_code cd_280 ps_280 = true := by decide +kernel
/-- LastCloudModel.hasStart()Z -/
def cd_281 : List Instr := [.aload 0, .getfield 12012, .iconst 12, .iaload, .iconst (-1), .if_icmp .eq 8, .iconst 1, .goto 9, .iconst 0, .freturn]
def ps_281 : List Nat := [0, 1, 4, 6, 7, 8, 11, 12, 15, 16]
theorem ck_281 : xChkM 12 false (some .boolean) prog_14_method_82_code cd_281 ps_281 = true := by decide +kernel
/-- LastCloudModel.startWet()I -/
def cd_282 : List Instr := [.aload 0, .getfield 12012, .iconst 14, .iaload, .iconst 1, .if_icmp .ne 13, .aload 0, .getfield 12012, .iconst 6, .iaload, .ifCond .le 13, .iconst 1, .goto 14, .iconst 0, .ireturn]
def ps_282 : List Nat := [0, 1, 4, 6, 7, 8, 11, 12, 15, 17, 18, 21, 22, 25, 26]
theorem ck_282 : xChkM 12 false (some .int) prog_14_method_83_code cd_282 ps_282 = true := by decide +kernel
/-- LastCloudModel.startOf(II)I -/
def cd_283 : List Instr := [.aload 0, .iload 1, .invokevirtual 2192971, .aload 0, .aload 0, .getfield 12262, .aload 0, .getfield 12012, .iconst 12, .iaload, .aload 0, .getfield 12012, .iconst 13, .iaload, .iconst 0, .iload 2, 
  .invokevirtual 2160984, .ireturn]
def ps_283 : List Nat := [0, 1, 2, 5, 6, 7, 10, 11, 14, 16, 17, 18, 21, 23, 24, 25, 26, 29]
theorem ck_283 : xChkM 12 false (some .int) prog_14_method_84_code cd_283 ps_283 = true := by decide +kernel
/-- LastCloudModel.start(I)I -/
def cd_284 : List Instr := [.iload 1, .invokestatic 2207924, .ifCond .eq 12, .aload 0, .invokevirtual 2248964, .ifCond .eq 12, .aload 0, .iload 1, .aload 0, .invokevirtual 2256964, .invokevirtual 2264972, .goto 13, 
  .iconst (-2000000000), .ireturn]
def ps_284 : List Nat := [0, 1, 4, 7, 8, 11, 14, 15, 16, 17, 20, 23, 26, 29]
theorem ck_284 : xChkM 12 false (some .int) prog_14_method_85_code cd_284 ps_284 = true := by decide +kernel
/-- LastCloudModel.cost(I)I -/
def cd_285 : List Instr := [.iload 1, .iconst 1, .if_icmp .eq 6, .iload 1, .iconst 3, .if_icmp .ne 9, .aload 0, .invokevirtual 2248964, .ifCond .ne 11, .iconst (-2000000000), .ireturn, .aload 0, .iload 1, .aload 0, 
  .invokevirtual 2256964, .invokevirtual 2264972, .istore 2, .aload 0, .iconst 0, .aload 0, .invokevirtual 2256964, .invokevirtual 2264972, .iload 2, .isub, .ireturn]
def ps_285 : List Nat := [0, 1, 2, 5, 6, 7, 10, 11, 14, 17, 20, 21, 22, 23, 24, 27, 30, 31, 32, 33, 34, 37, 40, 41, 42]
theorem ck_285 : xChkM 12 false (some .int) prog_14_method_86_code cd_285 ps_285 = true := by decide +kernel
/-- LastCloudModel.leaves(IIZI)I -/
def cd_286 : List Instr := [.aload 0, .iload 1, .invokevirtual 1656968, .ifCond .eq 21, .iload 2, .i2l, .jsr 0, .aload 0, .getfield 12012, .iconst 8, .iaload, .i2l, .invokestatic 1615932, .ifCond .eq 21, .iload 3, .ifCond .eq 23, 
  .aload 0, .getfield 12012, .iconst 6, .iaload, .ifCond .ne 23, .iconst (-2), .ireturn, .aload 0, .iconst 0, .invokevirtual 2192971, .aload 0, .iload 1, .iconst 0, .invokevirtual 1664972, .istore 5, 
  .iload 5, .aload 0, .getfield 12012, .iconst 7, .iaload, .if_icmp .gt 53, .aload 0, .getfield 12272, .iload 1, .iload 5, .iload 2, .iload 4, .iload 3, .invokestatic 2223924, .invokestatic 2143940, 
  .iaload, .iconst 100, .if_icmp .lt 51, .iload 5, .ireturn, .iinc 5 1, .goto 31, .iconst (-1), .ireturn]
def ps_286 : List Nat := [0, 1, 2, 5, 8, 9, 10, 11, 12, 15, 17, 18, 19, 22, 25, 26, 29, 30, 33, 35, 36, 39, 41, 42, 43, 44, 47, 48, 49, 50, 53, 55, 57, 58, 61, 63, 64, 67, 68, 71, 72, 74, 75, 77, 78, 81, 84, 85, 87, 90, 92, 93, 
  96, 99, 100]
theorem ck_286 : xChkM 12 false (some .int) prog_14_method_87_code cd_286 ps_286 = true := by decide +kernel
/-- LastCloudModel.leave(IIZ)I -/
def cd_287 : List Instr := [.aload 0, .iload 1, .iload 2, .iload 3, .iconst 1, .invokevirtual 2288980, .ireturn]
def ps_287 : List Nat := [0, 1, 2, 3, 4, 5, 8]
theorem ck_287 : xChkM 12 false (some .int) prog_14_method_88_code cd_287 ps_287 = true := by decide +kernel
/-- LastCloudModel.on(IIZ)I -/
def cd_288 : List Instr := [.aload 0, .iload 1, .iload 2, .iload 3, .iconst 0, .invokevirtual 2288980, .ireturn]
def ps_288 : List Nat := [0, 1, 2, 3, 4, 5, 8]
theorem ck_288 : xChkM 12 false (some .int) prog_14_method_89_code cd_288 ps_288 = true := by decide +kernel
/-- LastCloudModel.last(II)I -/
def cd_289 : List Instr := [.aload 0, .iload 1, .iload 2, .invokevirtual 2032972, .ifCond .ne 7, .iconst (-2), .ireturn, .aload 0, .iconst 0, .invokevirtual 2192971, .aload 0, .getfield 12012, .iconst 8, .iaload, .istore 3, 
  .iload 3, .ifCond .lt 32, .aload 0, .getfield 12282, .iload 1, .iload 2, .iload 3, .iconst 0, .iconst 0, .invokestatic 2143940, .iaload, .iconst 10000, .if_icmp .ne 30, .iload 3, .ireturn, 
  .iinc 3 (-1), .goto 15, .iconst (-1), .ireturn]
def ps_289 : List Nat := [0, 1, 2, 3, 6, 9, 11, 12, 13, 14, 17, 18, 21, 23, 24, 25, 26, 29, 30, 33, 34, 35, 36, 37, 38, 41, 42, 45, 48, 49, 50, 53, 56, 57]
theorem ck_289 : xChkM 12 false (some .int) prog_14_method_90_code cd_289 ps_289 = true := by decide +kernel
/-- LastCloudModel.weak(III)I -/
def cd_290 : List Instr := [.aload 0, .iload 1, .iload 2, .iload 3, .iconst 0, .invokevirtual 2208980, .ifCond .ne 9, .iconst (-2), .ireturn, .aload 0, .iload 1, .iconst 3, .invokevirtual 1664972, .ifCond .ne 16, .iconst (-1), 
  .ireturn, .iconst (-1), .istore 4, .aload 0, .iload 1, .putfield 12180, .aload 0, .iconst 0, .putfield 12190, .aload 0, .getfield 12190, .iconst 2000, .if_icmp .gt 57, .iload 4, .iconst (-1), 
  .if_icmp .ne 57, .aload 0, .iconst (-1), .putfield 12290, .aload 0, .iconst 0, .invokevirtual 2192971, .aload 0, .getfield 12272, .iload 1, .iload 2, .iload 3, .iconst 1, .iconst 0, 
  .invokestatic 2143940, .iaload, .ifCond .ne 50, .aload 0, .getfield 12190, .istore 4, .aload 0, .dup, .getfield 12190, .iconst 250, .iadd, .putfield 12190, .goto 24, .aload 0, .iconst (-1), 
  .putfield 12180, .aload 0, .iconst (-1), .putfield 12290, .iload 4, .ireturn]
def ps_290 : List Nat := [0, 1, 2, 3, 4, 5, 8, 11, 13, 14, 15, 16, 17, 20, 23, 24, 25, 26, 28, 29, 30, 33, 34, 35, 38, 39, 42, 45, 48, 50, 51, 54, 55, 56, 59, 60, 61, 64, 65, 68, 69, 70, 71, 72, 73, 76, 77, 80, 81, 84, 86, 87, 
  88, 91, 94, 95, 98, 101, 102, 103, 106, 107, 108, 111, 113]
theorem ck_290 : xChkM 12 false (some .int) prog_14_method_91_code cd_290 ps_290 = true := by decide +kernel
/-- LastCloudModel.endsBehind(IIIIZ)I -/
def cd_291 : List Instr := [.aload 0, .iload 1, .invokevirtual 1960968, .istore 6, .aload 0, .getfield 12312, .iload 1, .iload 2, .iload 3, .iconst 1, .iload 4, .invokestatic 2143940, .iaload, .istore 7, .aload 0, 
  .getfield 12312, .iload 1, .iload 2, .iload 3, .iconst 0, .iload 4, .invokestatic 2143940, .iaload, .istore 8, .iload 6, .ifCond .ne 28, .iload 8, .ireturn, .iload 6, .iconst 100, .if_icmp .ne 33, 
  .iload 7, .ireturn, .iload 5, .ifCond .eq 39, .iload 7, .iload 8, .dadd, .goto 42, .iload 7, .iload 8, .dsub, .ireturn]
def ps_291 : List Nat := [0, 1, 2, 5, 7, 8, 11, 12, 13, 14, 15, 17, 20, 21, 23, 24, 27, 28, 29, 30, 31, 33, 36, 37, 39, 41, 44, 46, 47, 49, 51, 54, 56, 57, 59, 62, 64, 66, 69, 72, 74, 76, 79]
theorem ck_291 : xChkM 12 false (some .int) prog_14_method_92_code cd_291 ps_291 = true := by decide +kernel
/-- LastCloudModel.endOf(IIIIIZ)I -/
def cd_292 : List Instr := [.aload 0, .getfield 12272, .iload 1, .iload 2, .iload 3, .iload 4, .iload 5, .invokestatic 2143940, .iaload, .istore 7, .iload 7, .iconst (-1), .if_icmp .ne 18, .aload 0, .iload 1, .iload 3, 
  .invokevirtual 2144972, .ireturn, .iload 7, .ifCond .ne 36, .aload 0, .getfield 12312, .iload 1, .aload 0, .iload 1, .iload 2, .iload 5, .invokevirtual 2152976, .iload 3, .iconst 1, .iadd, .iconst 1, 
  .iload 5, .invokestatic 2143940, .iaload, .ireturn, .iload 7, .iconst 1, .if_icmp .ne 49, .aload 0, .getfield 12312, .iload 1, .iload 2, .iload 3, .iload 4, .iconst 0, .invokestatic 2143940, .iaload, 
  .ireturn, .aload 0, .iload 1, .iload 5, .iload 7, .invokevirtual 2344976, .istore 8, .aload 0, .aload 0, .getfield 12212, .iload 8, .iconst 2, .iadd, .iaload, .aload 0, .iload 8, .iload 2, 
  .invokevirtual 2016972, .iload 3, .aload 0, .getfield 12212, .iload 8, .iconst 3, .iadd, .iaload, .iadd, .iload 5, .iload 6, .invokevirtual 2328984, .ireturn]
def ps_292 : List Nat := [0, 1, 4, 5, 6, 7, 9, 11, 14, 15, 17, 19, 20, 23, 24, 25, 26, 29, 30, 32, 35, 36, 39, 40, 41, 42, 43, 45, 48, 49, 50, 51, 52, 54, 57, 58, 59, 61, 62, 65, 66, 69, 70, 71, 72, 74, 75, 78, 79, 80, 81, 82, 
  84, 86, 89, 91, 92, 93, 96, 98, 99, 100, 101, 102, 104, 105, 108, 109, 110, 113, 115, 116, 117, 118, 119, 121, 123, 126]
theorem ck_292 : xChkM 12 false (some .int) prog_14_method_93_code cd_292 ps_292 = true := by decide +kernel
/-- LastCloudModel.wayOf(III)I -/
def cd_293 : List Instr := [.iconst 2, .iload 1, .imul, .iload 2, .iadd, .istore 4, .iconst 0, .istore 5, .iload 5, .aload 0, .getfield 12202, .iload 4, .iaload, .if_icmp .ge 43, .iconst 300, .iload 4, .imul, .iconst 5, .iload 5, 
  .imul, .iadd, .istore 6, .iconst 100, .iconst 10, .aload 0, .getfield 12212, .iload 6, .iaload, .imul, .iadd, .aload 0, .getfield 12212, .iload 6, .iconst 1, .iadd, .iaload, .iadd, .iload 3, 
  .if_icmp .ne 41, .iload 6, .ireturn, .iinc 5 1, .goto 8, .iconst (-1), .ireturn]
def ps_293 : List Nat := [0, 1, 2, 3, 4, 5, 7, 8, 10, 12, 13, 16, 18, 19, 22, 25, 27, 28, 29, 31, 32, 33, 35, 37, 39, 40, 43, 45, 46, 47, 48, 49, 52, 54, 55, 56, 57, 58, 59, 62, 64, 65, 68, 71, 72]
theorem ck_293 : xChkM 12 false (some .int) prog_14_method_94_code cd_293 ps_293 = true := by decide +kernel
/-- LastCloudModel.ends(IZ)I -/
def cd_294 : List Instr := [.iload 1, .invokestatic 2207924, .ifCond .eq 6, .aload 0, .invokevirtual 2248964, .ifCond .ne 8, .iconst (-2000000000), .ireturn, .aload 0, .iload 1, .invokevirtual 2192971, .aload 0, .getfield 12012, 
  .iconst 8, .iaload, .istore 3, .iload 3, .ifCond .lt 81, .iconst 0, .istore 4, .iload 4, .aload 0, .getfield 12012, .iconst 6, .iaload, .ifCond .le 28, .iconst 1, .goto 29, .iconst 0, .if_icmp .gt 79, 
  .iconst 0, .istore 5, .iload 5, .aload 0, .getfield 12012, .iconst 1, .iaload, .if_icmp .ge 77, .aload 0, .iload 5, .iconst 0, .invokevirtual 1664972, .istore 6, .iload 6, .aload 0, .getfield 12012, 
  .iconst 7, .iaload, .if_icmp .gt 75, .iconst 0, .istore 7, .iload 7, .iconst 2, .if_icmp .ge 73, .aload 0, .getfield 12312, .iload 5, .iload 6, .iload 3, .iload 7, .iload 4, .invokestatic 2143940, 
  .aload 0, .iload 5, .iload 6, .iload 3, .iload 7, .iload 4, .iload 2, .invokevirtual 2336988, .iastore, .iinc 7 1, .goto 51, .iinc 6 1, .goto 43, .iinc 5 1, .goto 32, .iinc 4 1, .goto 20, .iinc 3 (-1), 
  .goto 16, .aload 0, .aload 0, .getfield 12012, .iconst 12, .iaload, .aload 0, .getfield 12012, .iconst 13, .iaload, .iconst 0, .aload 0, .invokevirtual 2256964, .iload 2, .invokevirtual 2328984, 
  .ireturn]
def ps_294 : List Nat := [0, 1, 4, 7, 8, 11, 14, 17, 18, 19, 20, 23, 24, 27, 29, 30, 31, 32, 35, 36, 38, 40, 41, 44, 46, 47, 50, 51, 54, 55, 58, 59, 61, 63, 64, 67, 68, 69, 72, 73, 75, 76, 79, 81, 83, 84, 87, 89, 90, 93, 94, 
  96, 98, 99, 102, 103, 106, 108, 110, 111, 113, 115, 118, 119, 121, 123, 124, 126, 128, 129, 132, 133, 136, 139, 142, 145, 148, 151, 154, 157, 160, 163, 164, 165, 168, 170, 171, 172, 175, 177, 178, 179, 
  180, 183, 184, 187]
theorem ck_294 : xChkM 12 false (some .int) prog_14_method_95_code cd_294 ps_294 = true := by decide +kernel
/-- LastCloudModel.startWith(II)I -/
def cd_295 : List Instr := [.aload 0, .iload 1, .putfield 12160, .aload 0, .iload 2, .putfield 12170, .aload 0, .iconst (-1), .putfield 12290, .aload 0, .iconst 0, .aload 0, .invokevirtual 2256964, .invokevirtual 2264972, 
  .istore 3, .aload 0, .iconst (-1), .putfield 12160, .aload 0, .iconst (-1), .putfield 12290, .iload 3, .ireturn]
def ps_295 : List Nat := [0, 1, 2, 5, 6, 7, 10, 11, 12, 15, 16, 17, 18, 21, 24, 25, 26, 27, 30, 31, 32, 35, 36]
theorem ck_295 : xChkM 12 false (some .int) prog_14_method_96_code cd_295 ps_295 = true := by decide +kernel
/-- LastCloudModel.share(I)I -/
def cd_296 : List Instr := [.aload 0, .iload 1, .invokevirtual 1656968, .ifCond .eq 18, .aload 0, .invokevirtual 2248964, .ifCond .eq 18, .aload 0, .iload 1, .iconst 100, .invokevirtual 2360972, .aload 0, .iconst 0, .aload 0, 
  .invokevirtual 2256964, .invokevirtual 2264972, .isub, .goto 19, .iconst (-2000000000), .ireturn]
def ps_296 : List Nat := [0, 1, 2, 5, 8, 9, 12, 15, 16, 17, 19, 22, 23, 24, 25, 28, 31, 32, 35, 38]
theorem ck_296 : xChkM 12 false (some .int) prog_14_method_97_code cd_296 ps_296 = true := by decide +kernel
