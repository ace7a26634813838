/-- LastCloudModel.ones(I)I -/
def cd_216 : List Instr := [.iconst 0, .istore 1, .iconst 0, .istore 2, .iload 2, .iconst 31, .if_icmp .ge 17, .iload 1, .iload 0, .iload 2, .ishr, .iconst 1, .iand, .iadd, .istore 1, .iinc 2 1, .goto 4, .iload 1, .ireturn]
def ps_216 : List Nat := [0, 1, 2, 3, 4, 5, 7, 10, 11, 12, 13, 14, 15, 16, 17, 18, 21, 24, 25]
theorem ck_216 : xChkM 12 false (some .int) prog_14_method_30_code cd_216 ps_216 = true := by decide +kernel
/-- LastCloudModel.onceHere()I -/
def cd_217 : List Instr := [.aload 0, .ldc 5, .invokevirtual 1624968, .ifCond .eq 6, .iconst 0, .goto 37, .aload 0, .ldc 6, .invokevirtual 1624968, .ifCond .eq 12, .iconst 1, .goto 37, .aload 0, .ldc 7, .invokevirtual 1624968, 
  .ifCond .eq 18, .iconst 2, .goto 37, .aload 0, .ldc 8, .invokevirtual 1624968, .ifCond .eq 24, .iconst 3, .goto 37, .aload 0, .ldc 9, .invokevirtual 1624968, .ifCond .eq 30, .iconst 4, .goto 37, 
  .aload 0, .ldc 10, .invokevirtual 1624968, .ifCond .eq 36, .iconst 5, .goto 37, .iconst (-1), .ireturn]
def ps_217 : List Nat := [0, 1, 3, 6, 9, 10, 13, 14, 16, 19, 22, 23, 26, 27, 29, 32, 35, 36, 39, 40, 42, 45, 48, 49, 52, 53, 55, 58, 61, 62, 65, 66, 68, 71, 74, 75, 78, 79]
theorem ck_217 : xChkM 12 false (some .int) prog_14_method_31_code cd_217 ps_217 = true := by decide +kernel
/-- LastCloudModel.readOnce(I)V -/
def cd_218 : List Instr := [.aload 0, .invokevirtual 1600967, .aload 0, .getfield 12142, .iconst 16, .dup2, .iaload, .iconst 1, .iload 1, .ishl, .ior, .iastore, .iload 1, .ifCond .ne 22, .aload 0, .getfield 12142, .iconst 5, 
  .aload 0, .iconst 0, .iconst 999, .invokevirtual 1648972, .iastore, .iload 1, .iconst 1, .if_icmp .ne 33, .aload 0, .getfield 12142, .iconst 6, .aload 0, .iconst 0, .iconst 50, .invokevirtual 1648972, 
  .iastore, .iload 1, .iconst 2, .if_icmp .ne 44, .aload 0, .getfield 12142, .iconst 7, .aload 0, .iconst 31, .iconst 60, .invokevirtual 1648972, .iastore, .iload 1, .iconst 3, .if_icmp .ne 55, .aload 0, 
  .getfield 12142, .iconst 8, .aload 0, .iconst 1, .iconst 47, .invokevirtual 1648972, .iastore, .iload 1, .iconst 4, .if_icmp .ne 85, .aload 0, .getfield 12142, .iconst 9, .aload 0, .ldc 12, .iconst 0, 
  .iconst 9999, .invokevirtual 1656976, .iastore, .aload 0, .getfield 12142, .iconst 10, .aload 0, .ldc 23, .iconst 0, .iconst 99, .invokevirtual 1656976, .iastore, .aload 0, .getfield 12142, .iconst 11, 
  .aload 0, .ldc 24, .iconst 0, .iconst 9999, .invokevirtual 1656976, .iastore, .iload 1, .iconst 5, .if_icmp .ne 90, .aload 0, .invokevirtual 1720967, .return_]
def ps_218 : List Nat := [0, 1, 4, 5, 8, 10, 11, 12, 13, 14, 15, 16, 17, 18, 21, 22, 25, 26, 27, 28, 31, 34, 35, 36, 37, 40, 41, 44, 46, 47, 48, 50, 53, 54, 55, 56, 59, 60, 63, 65, 66, 68, 70, 73, 74, 75, 76, 79, 80, 83, 85, 
  86, 87, 89, 92, 93, 94, 95, 98, 99, 102, 104, 105, 107, 108, 111, 114, 115, 116, 119, 121, 122, 124, 125, 127, 130, 131, 132, 135, 137, 138, 140, 141, 144, 147, 148, 149, 150, 153, 154, 157]
theorem ck_218 : xChkM 12 false none prog_14_method_32_code cd_218 ps_218 = true := by decide +kernel
/-- LastCloudModel.readLine()V -/
def cd_219 : List Instr := [.aload 0, .invokevirtual 1736964, .istore 1, .iload 1, .iconst (-1), .if_icmp .ne 26, .aload 0, .ldc 0, .invokevirtual 1624968, .ifCond .ne 26, .aload 0, .ldc 1, .invokevirtual 1624968, .ifCond .ne 26, 
  .aload 0, .ldc 2, .invokevirtual 1624968, .ifCond .ne 26, .aload 0, .ldc 3, .invokevirtual 1624968, .ifCond .ne 26, .aload 0, .ldc 4, .invokevirtual 1624968, .ifCond .eq 28, .iconst 1, .goto 29, 
  .iconst 0, .istore 2, .iload 2, .ifCond .ne 35, .aload 0, .iconst 1, .invokevirtual 1616971, .iload 1, .iconst (-1), .if_icmp .eq 48, .aload 0, .getfield 12142, .iconst 16, .iaload, .iload 1, 
  .invokestatic 1519928, .ifCond .eq 48, .aload 0, .iconst 2, .invokevirtual 1616971, .aload 0, .getfield 12142, .iconst 0, .iaload, .iconst 60, .if_icmp .eq 95, .aload 0, .ldc 0, .invokevirtual 1624968, 
  .ifCond .eq 64, .aload 0, .getfield 12142, .iconst 1, .iaload, .iconst 8, .if_icmp .eq 95, .aload 0, .ldc 1, .invokevirtual 1624968, .ifCond .eq 74, .aload 0, .getfield 12142, .iconst 2, .iaload, 
  .iconst 10, .if_icmp .eq 95, .aload 0, .ldc 3, .invokevirtual 1624968, .ifCond .eq 84, .aload 0, .getfield 12142, .iconst 3, .iaload, .iconst 6, .if_icmp .eq 95, .aload 0, .ldc 4, 
  .invokevirtual 1624968, .ifCond .eq 98, .aload 0, .getfield 12142, .iconst 15, .iaload, .invokestatic 1735924, .iconst 3, .if_icmp .ne 98, .aload 0, .iconst 3, .invokevirtual 1616971, .aload 0, 
  .invokevirtual 1608964, .ifCond .ne 102, .return_, .iload 1, .iconst (-1), .if_icmp .eq 109, .aload 0, .iload 1, .invokevirtual 1744971, .goto 180, .aload 0, .ldc 0, .invokevirtual 1632968, 
  .ifCond .eq 116, .aload 0, .invokevirtual 1688967, .goto 180, .aload 0, .ldc 1, .invokevirtual 1632968, .ifCond .eq 123, .aload 0, .invokevirtual 1696967, .goto 180, .aload 0, .ldc 2, 
  .invokevirtual 1632968, .ifCond .eq 130, .aload 0, .invokevirtual 1704967, .goto 180, .aload 0, .ldc 3, .invokevirtual 1632968, .ifCond .eq 176, .aload 0, .getfield 12142, .iconst 144, .iconst 2, 
  .aload 0, .getfield 12142, .iconst 3, .iaload, .imul, .iadd, .aload 0, .iconst 20, .iconst 150, .invokevirtual 1648972, .iastore, .aload 0, .getfield 12142, .iconst 144, .iconst 2, .aload 0, 
  .getfield 12142, .iconst 3, .iaload, .imul, .iadd, .iconst 1, .iadd, .aload 0, .ldc 22, .iconst 1, .iconst 999, .invokevirtual 1656976, .iastore, .aload 0, .getfield 12142, .iconst 3, .dup2, .iaload, 
  .iconst 1, .iadd, .iastore, .goto 180, .aload 0, .invokevirtual 1600967, .aload 0, .invokevirtual 1712967, .aload 0, .invokevirtual 1608964, .ifCond .eq 190, .aload 0, .getfield 12100, .iconst 3, 
  .if_icmp .eq 190, .aload 0, .iconst 1, .invokevirtual 1616971, .aload 0, .invokevirtual 1608964, .ifCond .eq 195, .aload 0, .invokevirtual 1600967, .aload 0, .getfield 12142, .iconst 0, .dup2, .iaload, 
  .iconst 1, .iadd, .iastore, .return_]
def ps_219 : List Nat := [0, 1, 4, 5, 6, 7, 10, 11, 14, 17, 20, 21, 24, 27, 30, 31, 34, 37, 40, 41, 44, 47, 50, 51, 54, 57, 60, 61, 64, 65, 66, 67, 70, 71, 72, 75, 76, 77, 80, 81, 84, 86, 87, 88, 91, 94, 95, 96, 99, 100, 103, 
  104, 105, 107, 110, 111, 114, 117, 120, 121, 124, 125, 126, 128, 131, 132, 135, 138, 141, 142, 145, 146, 147, 149, 152, 153, 156, 159, 162, 163, 166, 167, 168, 170, 173, 174, 177, 180, 183, 184, 187, 
  189, 190, 193, 194, 197, 198, 199, 202, 203, 206, 209, 210, 211, 212, 215, 216, 217, 220, 223, 224, 227, 230, 233, 234, 237, 240, 241, 244, 247, 250, 251, 254, 257, 258, 261, 264, 267, 268, 271, 274, 
  275, 278, 281, 284, 285, 288, 291, 292, 293, 296, 297, 298, 299, 300, 301, 303, 306, 309, 310, 311, 314, 317, 318, 319, 322, 323, 324, 325, 326, 327, 328, 329, 332, 333, 336, 339, 340, 341, 344, 345, 
  346, 347, 348, 349, 350, 353, 354, 357, 358, 361, 362, 365, 368, 369, 372, 373, 376, 377, 378, 381, 382, 385, 388, 389, 392, 393, 396, 397, 398, 399, 400, 401, 402]
theorem ck_219 : xChkM 12 false none prog_14_method_33_code cd_219 ps_219 = true := by decide +kernel
/-- LastCloudModel.sky()I -/
def cd_220 : List Instr := [.aload 0, .aload 0, .getfield 12050, .putfield 12070, .aload 0, .iconst 0, .putfield 12050, .aload 0, .iconst 0, .putfield 12080, .aload 0, .iconst 0, .putfield 12120, .aload 0, .iconst (-1), 
  .putfield 12130, .aload 0, .getfield 12142, .invokestatic 1535927, .aload 0, .iconst 0, .putfield 12153, .aload 0, .invokevirtual 1600967, .aload 0, .invokevirtual 1608964, .ifCond .eq 33, .aload 0, 
  .getfield 12100, .ifCond .eq 33, .aload 0, .invokevirtual 1752967, .goto 24, .aload 0, .invokevirtual 1608964, .ifCond .ne 38, .iconst (-4), .ireturn, .iconst 0, .istore 1, .iload 1, .iconst 196, 
  .if_icmp .ge 53, .aload 0, .getfield 12012, .iload 1, .aload 0, .getfield 12142, .iload 1, .iaload, .iastore, .iinc 1 1, .goto 40, .aload 0, .getfield 12012, .iconst 12, .iaload, .iconst (-1), 
  .if_icmp .eq 80, .aload 0, .getfield 12012, .iconst 13, .aload 0, .aload 0, .getfield 12012, .iconst 12, .iaload, .iconst 0, .invokevirtual 1560972, .aload 0, .getfield 12012, .iconst 7, .iaload, 
  .aload 0, .getfield 12012, .iconst 13, .iaload, .dsub, .dadd, .iastore, .aload 0, .invokevirtual 2024967, .aload 0, .getfield 12012, .iconst 0, .iaload, .ireturn]
def ps_220 : List Nat := [0, 1, 2, 5, 8, 9, 10, 13, 14, 15, 18, 19, 20, 23, 24, 25, 28, 29, 32, 35, 36, 37, 40, 41, 44, 45, 48, 51, 52, 55, 58, 59, 62, 65, 66, 69, 72, 74, 75, 76, 77, 78, 81, 84, 85, 88, 89, 90, 93, 94, 95, 96, 
  99, 102, 103, 106, 108, 109, 110, 113, 114, 117, 119, 120, 121, 124, 126, 127, 128, 131, 132, 135, 137, 138, 139, 142, 144, 145, 148, 151, 152, 153, 156, 157, 160, 161, 162]
theorem ck_220 : xChkM 12 false (some .int) prog_14_method_34_code cd_220 ps_220 = true := by decide +kernel
/-- LastCloudModel.isLeg(I)Z -/
def cd_221 : List Instr := [.iload 1, .i2l, .jsr 0, .aload 0, .getfield 12012, .iconst 2, .iaload, .iconst 1, .isub, .i2l, .invokestatic 1511932, .freturn]
def ps_221 : List Nat := [0, 1, 2, 3, 4, 7, 8, 9, 10, 11, 12, 15]
theorem ck_221 : xChkM 12 false (some .boolean) prog_14_method_35_code cd_221 ps_221 = true := by decide +kernel
/-- LastCloudModel.isSpeed(I)Z -/
def cd_222 : List Instr := [.iload 1, .i2l, .jsr 0, .aload 0, .getfield 12012, .iconst 3, .iaload, .iconst 1, .isub, .i2l, .invokestatic 1511932, .freturn]
def ps_222 : List Nat := [0, 1, 2, 3, 4, 7, 8, 9, 10, 11, 12, 15]
theorem ck_222 : xChkM 12 false (some .boolean) prog_14_method_36_code cd_222 ps_222 = true := by decide +kernel
/-- LastCloudModel.periodsOf(IZIZ)I -/
def cd_223 : List Instr := [.aload 0, .getfield 12012, .iconst 144, .iconst 2, .iload 3, .imul, .iadd, .iaload, .istore 5, .iload 5, .iload 4, .ifCond .eq 21, .iload 5, .aload 0, .getfield 12012, .iconst 6, .iaload, .imul, 
  .iconst 100, .idiv, .goto 22, .iconst 0, .iadd, .iload 2, .ifCond .eq 31, .aload 0, .iload 1, .iconst 4, .invokevirtual 1568972, .ineg, .goto 35, .aload 0, .iload 1, .iconst 4, .invokevirtual 1568972, 
  .iadd, .istore 6, .iload 6, .iconst 1, .if_icmp .ge 42, .iconst (-1), .goto 52, .iconst 12, .aload 0, .iload 1, .iconst 2, .invokevirtual 1568972, .imul, .iload 6, .idiv, .iconst 1, .iadd, .ireturn]
def ps_223 : List Nat := [0, 1, 4, 7, 8, 9, 10, 11, 12, 14, 16, 18, 21, 23, 24, 27, 29, 30, 31, 33, 34, 37, 38, 39, 40, 43, 44, 45, 46, 49, 50, 53, 54, 55, 56, 59, 60, 62, 64, 65, 68, 69, 72, 74, 75, 76, 77, 80, 81, 83, 84, 85, 
  86]
theorem ck_223 : xChkM 12 false (some .int) prog_14_method_37_code cd_223 ps_223 = true := by decide +kernel
/-- LastCloudModel.lossOf(III)I -/
def cd_224 : List Instr := [.iconst 5, .iload 3, .imul, .aload 0, .getfield 12012, .iconst 144, .iconst 2, .iload 2, .imul, .iadd, .iconst 1, .iadd, .iaload, .aload 0, .iload 1, .iconst 3, .invokevirtual 1568972, .isub, .imul, 
  .iconst 100, .idiv, .ireturn]
def ps_224 : List Nat := [0, 1, 2, 3, 4, 7, 10, 11, 12, 13, 14, 15, 16, 17, 18, 19, 20, 23, 24, 25, 27, 28]
theorem ck_224 : xChkM 12 false (some .int) prog_14_method_38_code cd_224 ps_224 = true := by decide +kernel
/-- LastCloudModel.periods(IZIZ)I -/
def cd_225 : List Instr := [.aload 0, .iload 1, .invokevirtual 1768968, .ifCond .eq 15, .aload 0, .iload 3, .invokevirtual 1776968, .ifCond .eq 15, .aload 0, .iload 1, .iload 2, .iload 3, .iload 4, .invokevirtual 1784980, 
  .goto 16, .iconst (-2), .ireturn]
def ps_225 : List Nat := [0, 1, 2, 5, 8, 9, 10, 13, 16, 17, 18, 19, 20, 22, 25, 28, 30]
theorem ck_225 : xChkM 12 false (some .int) prog_14_method_39_code cd_225 ps_225 = true := by decide +kernel
/-- LastCloudModel.loss(IZIZ)I -/
def cd_226 : List Instr := [.aload 0, .iload 1, .invokevirtual 1768968, .ifCond .eq 8, .aload 0, .iload 3, .invokevirtual 1776968, .ifCond .ne 10, .iconst (-2000000000), .ireturn, .aload 0, .iload 1, .iload 2, .iload 3, .iload 4, 
  .invokevirtual 1784980, .istore 5, .iload 5, .iconst (-1), .if_icmp .ne 22, .iconst (-2000000000), .goto 27, .aload 0, .iload 1, .iload 3, .iload 5, .invokevirtual 1792976, .ireturn]
def ps_226 : List Nat := [0, 1, 2, 5, 8, 9, 10, 13, 16, 19, 20, 21, 22, 23, 24, 26, 29, 31, 33, 34, 37, 40, 43, 44, 45, 46, 48, 51]
theorem ck_226 : xChkM 12 false (some .int) prog_14_method_40_code cd_226 ps_226 = true := by decide +kernel
/-- LastCloudModel.upOf(I)I -/
def cd_227 : List Instr := [.iload 1, .aload 0, .getfield 12180, .if_icmp .ne 7, .aload 0, .getfield 12190, .goto 11, .aload 0, .iload 1, .iconst 5, .invokevirtual 1560972, .ireturn]
def ps_227 : List Nat := [0, 1, 2, 5, 8, 9, 12, 15, 16, 17, 18, 21]
theorem ck_227 : xChkM 12 false (some .int) prog_14_method_41_code cd_227 ps_227 = true := by decide +kernel
/-- LastCloudModel.climbOf(IZ)I -/
def cd_228 : List Instr := [.aload 0, .iload 1, .iconst 3, .invokevirtual 1560972, .ifCond .ne 7, .iconst 0, .ireturn, .aload 0, .iload 1, .invokevirtual 1816968, .istore 3, .iconst 0, .iconst 5, .iload 3, .iload 2, 
  .ifCond .eq 25, .iload 3, .aload 0, .getfield 12012, .iconst 6, .iaload, .imul, .iconst 100, .idiv, .goto 26, .iconst 0, .isub, .aload 0, .getfield 12012, .iconst 5, .iaload, .isub, .imul, .iconst 100, 
  .idiv, .dadd, .ireturn]
def ps_228 : List Nat := [0, 1, 2, 3, 6, 9, 10, 11, 12, 13, 16, 17, 18, 19, 20, 21, 24, 25, 26, 29, 31, 32, 33, 35, 36, 39, 40, 41, 42, 45, 46, 47, 48, 49, 51, 52, 55]
theorem ck_228 : xChkM 12 false (some .int) prog_14_method_42_code cd_228 ps_228 = true := by decide +kernel
/-- LastCloudModel.climb(IZ)I -/
def cd_229 : List Instr := [.aload 0, .iload 1, .invokevirtual 1552968, .ifCond .eq 9, .aload 0, .iload 1, .iload 2, .invokevirtual 1824972, .goto 10, .iconst (-2), .ireturn]
def ps_229 : List Nat := [0, 1, 2, 5, 8, 9, 10, 11, 14, 17, 19]
theorem ck_229 : xChkM 12 false (some .int) prog_14_method_43_code cd_229 ps_229 = true := by decide +kernel
/-- LastCloudModel.bySign(IIZI)I -/
def cd_230 : List Instr := [.iload 3, .ifCond .eq 7, .aload 0, .iload 1, .iconst 6, .invokevirtual 1560972, .goto 13, .iconst 100, .aload 0, .iload 1, .iconst 6, .invokevirtual 1560972, .isub, .istore 5, .iload 3, .ifCond .eq 21, 
  .aload 0, .iload 1, .iconst 7, .invokevirtual 1560972, .goto 27, .iconst 100, .aload 0, .iload 1, .iconst 7, .invokevirtual 1560972, .isub, .istore 6, .iload 2, .iload 5, .imul, .iconst 100, .iload 2, 
  .isub, .iload 6, .imul, .iadd, .istore 7, .iload 7, .ifCond .ne 42, .iconst (-1), .goto 49, .iload 4, .iload 2, .imul, .iload 5, .imul, .iload 7, .idiv, .ireturn]
def ps_230 : List Nat := [0, 1, 4, 5, 6, 8, 11, 14, 16, 17, 18, 20, 23, 24, 26, 27, 30, 31, 32, 34, 37, 40, 42, 43, 44, 46, 49, 50, 52, 53, 55, 56, 58, 59, 60, 62, 63, 64, 66, 68, 71, 72, 75, 77, 78, 79, 81, 82, 84, 85]
theorem ck_230 : xChkM 12 false (some .int) prog_14_method_44_code cd_230 ps_230 = true := by decide +kernel
/-- LastCloudModel.chanceNow(I)I -/
def cd_231 : List Instr := [.aload 0, .iload 1, .iconst 4, .invokevirtual 1560972, .istore 2, .iconst 0, .istore 3, .iload 3, .aload 0, .getfield 12012, .iconst 4, .iaload, .if_icmp .ge 65, .aload 0, .getfield 12012, .iconst 156, 
  .iconst 2, .iload 3, .imul, .iadd, .iaload, .iload 1, .if_icmp .eq 24, .goto 63, .aload 0, .getfield 12012, .iconst 156, .iconst 2, .iload 3, .imul, .iadd, .iconst 1, .iadd, .iaload, .istore 4, 
  .iload 4, .iconst 2, .if_icmp .ge 44, .iconst 100, .iconst 100, .iload 4, .imul, .isub, .goto 55, .aload 0, .iload 1, .iload 2, .iload 4, .iconst 2, .if_icmp .ne 52, .iconst 1, .goto 53, .iconst 0, 
  .iconst 100, .invokevirtual 1840980, .istore 5, .iload 5, .iconst (-1), .if_icmp .ne 61, .iload 2, .goto 62, .iload 5, .istore 2, .iinc 3 1, .goto 7, .iload 2, .ireturn]
def ps_231 : List Nat := [0, 1, 2, 3, 6, 7, 8, 9, 10, 11, 14, 15, 16, 19, 20, 23, 26, 27, 28, 29, 30, 31, 32, 35, 38, 39, 42, 45, 46, 47, 48, 49, 50, 51, 52, 54, 56, 57, 60, 62, 64, 66, 67, 68, 71, 72, 73, 74, 76, 77, 80, 81, 
  84, 85, 87, 90, 92, 94, 95, 98, 99, 102, 104, 105, 108, 111, 112]
theorem ck_231 : xChkM 12 false (some .int) prog_14_method_45_code cd_231 ps_231 = true := by decide +kernel
/-- LastCloudModel.chanceOf(I)I -/
def cd_232 : List Instr := [.iload 1, .aload 0, .getfield 12160, .if_icmp .ne 7, .aload 0, .getfield 12170, .goto 10, .aload 0, .iload 1, .invokevirtual 1848968, .ireturn]
def ps_232 : List Nat := [0, 1, 2, 5, 8, 9, 12, 15, 16, 17, 20]
theorem ck_232 : xChkM 12 false (some .int) prog_14_method_46_code cd_232 ps_232 = true := by decide +kernel
/-- LastCloudModel.chance(I)I -/
def cd_233 : List Instr := [.aload 0, .iload 1, .invokevirtual 1552968, .ifCond .eq 8, .aload 0, .iload 1, .invokevirtual 1848968, .goto 9, .iconst (-2), .ireturn]
def ps_233 : List Nat := [0, 1, 2, 5, 8, 9, 10, 13, 16, 18]
theorem ck_233 : xChkM 12 false (some .int) prog_14_method_47_code cd_233 ps_233 = true := by decide +kernel
/-- LastCloudModel.sight(II)I -/
def cd_234 : List Instr := [.aload 0, .iload 1, .invokevirtual 1552968, .ifCond .eq 10, .iload 2, .i2l, .jsr 0, .jsr 3, .invokestatic 1511932, .ifCond .ne 12, .iconst (-2), .ireturn, .aload 0, .getfield 12012, .iconst 4, .iaload, 
  .iconst 20, .if_icmp .ne 20, .iconst (-3), .ireturn, .aload 0, .getfield 12012, .iconst 156, .iconst 2, .aload 0, .getfield 12012, .iconst 4, .iaload, .imul, .iadd, .iload 1, .iastore, .aload 0, 
  .getfield 12012, .iconst 156, .iconst 2, .aload 0, .getfield 12012, .iconst 4, .iaload, .imul, .iadd, .iconst 1, .iadd, .iload 2, .iastore, .aload 0, .getfield 12012, .iconst 4, .dup2, .iaload, 
  .iconst 1, .iadd, .iastore, .aload 0, .invokevirtual 2024967, .aload 0, .getfield 12012, .iconst 4, .iaload, .ireturn]
def ps_234 : List Nat := [0, 1, 2, 5, 8, 9, 10, 11, 14, 17, 20, 22, 23, 24, 27, 28, 29, 31, 34, 36, 37, 38, 41, 44, 45, 46, 49, 50, 51, 52, 53, 54, 55, 56, 59, 62, 63, 64, 67, 68, 69, 70, 71, 72, 73, 74, 75, 76, 79, 80, 81, 82, 
  83, 84, 85, 86, 89, 90, 93, 94, 95]
theorem ck_234 : xChkM 12 false (some .int) prog_14_method_48_code cd_234 ps_234 = true := by decide +kernel
/-- LastCloudModel.unsee(I)I -/
def cd_235 : List Instr := [.iload 1, .i2l, .jsr 0, .aload 0, .getfield 12012, .iconst 4, .iaload, .i2l, .invokestatic 1511932, .ifCond .ne 12, .iconst (-2), .ireturn, .aload 0, .getfield 12012, .iconst 4, .dup2, .iaload, 
  .iload 1, .isub, .iastore, .aload 0, .invokevirtual 2024967, .aload 0, .getfield 12012, .iconst 4, .iaload, .ireturn]
def ps_235 : List Nat := [0, 1, 2, 3, 4, 7, 8, 9, 10, 13, 16, 18, 19, 20, 23, 24, 25, 26, 27, 28, 29, 30, 33, 34, 37, 38, 39]
theorem ck_235 : xChkM 12 false (some .int) prog_14_method_49_code cd_235 ps_235 = true := by decide +kernel
/-- LastCloudModel.sign(IZ)I -/
def cd_236 : List Instr := [.aload 0, .iload 1, .invokevirtual 1552968, .ifCond .eq 14, .aload 0, .iload 1, .aload 0, .iload 1, .iconst 4, .invokevirtual 1560972, .iload 2, .iconst 10000, .invokevirtual 1840980, .goto 15, 
  .iconst (-2), .ireturn]
def ps_236 : List Nat := [0, 1, 2, 5, 8, 9, 10, 11, 12, 13, 16, 17, 20, 23, 26, 28]
theorem ck_236 : xChkM 12 false (some .int) prog_14_method_50_code cd_236 ps_236 = true := by decide +kernel
/-- LastCloudModel.laysWays()V -/
def cd_237 : List Instr := [.aload 0, .getfield 12220, .ifCond .eq 4, .return_, .aload 0, .iconst 1, .putfield 12223, .iconst 0, .istore 1, .iload 1, .iconst 2, .if_icmp .ge 25, .iconst 0, .istore 2, .iload 2, .iconst 8, 
  .if_icmp .ge 23, .aload 0, .iload 2, .iload 1, .invokevirtual 1904975, .iinc 2 1, .goto 14, .iinc 1 1, .goto 9, .return_]
def ps_237 : List Nat := [0, 1, 4, 7, 8, 9, 10, 13, 14, 15, 16, 17, 20, 21, 22, 23, 25, 28, 29, 30, 31, 34, 37, 40, 43, 46]
theorem ck_237 : xChkM 12 false none prog_14_method_51_code cd_237 ps_237 = true := by decide +kernel
/-- LastCloudModel.laysFrom(II)V -/
def cd_238 : List Instr := [.iconst 2, .iload 1, .imul, .iload 2, .iadd, .istore 3, .aload 0, .getfield 12202, .iload 3, .iconst 0, .iastore, .iconst 0, .istore 4, .iload 4, .aload 0, .getfield 12012, .iconst 2, .iaload, 
  .if_icmp .ge 129, .aload 0, .iload 4, .iconst 1, .invokevirtual 1568972, .iload 1, .if_icmp .ne 27, .iconst 1, .goto 28, .iconst 0, .istore 5, .iload 5, .ifCond .ne 38, .aload 0, .iload 4, .iconst 0, 
  .invokevirtual 1568972, .iload 1, .if_icmp .eq 38, .goto 127, .iconst 0, .istore 6, .iload 6, .aload 0, .getfield 12012, .iconst 3, .iaload, .if_icmp .ge 127, .aload 0, .iload 4, .iload 5, .iload 6, 
  .iload 2, .iconst 1, .if_icmp .ne 55, .iconst 1, .goto 56, .iconst 0, .invokevirtual 1784980, .istore 7, .iload 7, .iconst (-1), .if_icmp .ne 62, .goto 125, .iconst 300, .iload 3, .imul, .iconst 5, 
  .aload 0, .getfield 12202, .iload 3, .iaload, .imul, .iadd, .istore 8, .aload 0, .getfield 12212, .iload 8, .iload 4, .iastore, .aload 0, .getfield 12212, .iload 8, .iconst 1, .iadd, .iload 6, 
  .iastore, .aload 0, .getfield 12212, .iload 8, .iconst 2, .iadd, .aload 0, .iload 4, .iload 5, .ifCond .eq 96, .iconst 0, .goto 97, .iconst 1, .invokevirtual 1568972, .iastore, .aload 0, 
  .getfield 12212, .iload 8, .iconst 3, .iadd, .iload 7, .iastore, .aload 0, .getfield 12212, .iload 8, .iconst 4, .iadd, .aload 0, .iload 4, .iload 6, .iload 7, .invokevirtual 1792976, .iastore, 
  .aload 0, .getfield 12202, .iload 3, .dup2, .iaload, .iconst 1, .iadd, .iastore, .iinc 6 1, .goto 40, .iinc 4 1, .goto 13, .return_]
def ps_238 : List Nat := [0, 1, 2, 3, 4, 5, 6, 7, 10, 11, 12, 13, 14, 16, 18, 19, 22, 23, 24, 27, 28, 30, 31, 34, 35, 38, 39, 42, 43, 45, 47, 50, 51, 53, 54, 57, 58, 61, 64, 65, 67, 69, 70, 73, 74, 75, 78, 79, 81, 83, 85, 86, 
  87, 90, 91, 94, 95, 98, 100, 102, 103, 106, 109, 112, 113, 114, 115, 116, 119, 120, 121, 122, 123, 125, 126, 129, 131, 133, 134, 135, 138, 140, 141, 142, 144, 145, 146, 149, 151, 152, 153, 154, 156, 
  158, 161, 162, 165, 166, 169, 170, 171, 174, 176, 177, 178, 180, 181, 182, 185, 187, 188, 189, 190, 192, 194, 196, 199, 200, 201, 204, 205, 206, 207, 208, 209, 210, 213, 216, 219, 222]
theorem ck_238 : xChkM 12 false none prog_14_method_52_code cd_238 ps_238 = true := by decide +kernel
/-- LastCloudModel.comesAt(II)I -/
def cd_239 : List Instr := [.aload 0, .getfield 12212, .iload 1, .iconst 2, .iadd, .iaload, .istore 3, .aload 0, .getfield 12012, .iconst 7, .iaload, .iload 2, .aload 0, .getfield 12212, .iload 1, .iconst 4, .iadd, .iaload, 
  .isub, .dsub, .istore 4, .iload 2, .aload 0, .getfield 12212, .iload 1, .iconst 4, .iadd, .iaload, .iconst 2, .idiv, .isub, .aload 0, .aload 0, .getfield 12212, .iload 1, .iaload, .iconst 5, 
  .invokevirtual 1568972, .if_icmp .lt 45, .iload 4, .aload 0, .iload 3, .iconst 0, .invokevirtual 1560972, .if_icmp .ge 47, .iconst (-1), .goto 48, .iload 4, .ireturn]
def ps_239 : List Nat := [0, 1, 4, 5, 6, 7, 8, 9, 10, 13, 15, 16, 17, 18, 21, 22, 23, 24, 25, 26, 29, 31, 32, 33, 36, 37, 38, 39, 40, 41, 42, 43, 44, 45, 48, 49, 50, 51, 54, 57, 59, 60, 61, 62, 65, 68, 69, 72, 74]
theorem ck_239 : xChkM 12 false (some .int) prog_14_method_53_code cd_239 ps_239 = true := by decide +kernel
/-- LastCloudModel.glides(IIZ)V -/
def cd_240 : List Instr := [.aload 0, .invokevirtual 1896967, .iconst 0, .istore 4, .iload 4, .iconst 8, .if_icmp .ge 14, .aload 0, .getfield 12232, .iload 4, .iconst (-1), .iastore, .iinc 4 1, .goto 4, .aload 0, .getfield 12232, 
  .iload 1, .iload 2, .iastore, .iconst 1, .istore 4, .iload 4, .ifCond .eq 102, .iconst 0, .istore 4, .iconst 0, .istore 5, .iload 5, .aload 0, .getfield 12012, .iconst 1, .iaload, .if_icmp .ge 101, 
  .iconst 2, .iload 5, .imul, .iload 3, .ifCond .eq 40, .iconst 1, .goto 41, .iconst 0, .iadd, .istore 6, .iconst 0, .istore 7, .iload 7, .aload 0, .getfield 12202, .iload 6, .iaload, .if_icmp .ge 99, 
  .aload 0, .getfield 12232, .iload 5, .iaload, .iconst (-1), .if_icmp .eq 99, .iconst 300, .iload 6, .imul, .iconst 5, .iload 7, .imul, .iadd, .istore 8, .aload 0, .iload 8, .aload 0, .getfield 12232, 
  .iload 5, .iaload, .invokevirtual 1912972, .istore 9, .iload 9, .aload 0, .getfield 12232, .aload 0, .getfield 12212, .iload 8, .iconst 2, .iadd, .iaload, .iaload, .if_icmp .gt 85, .goto 97, .aload 0, 
  .getfield 12232, .aload 0, .getfield 12212, .iload 8, .iconst 2, .iadd, .iaload, .iload 9, .iastore, .iconst 1, .istore 4, .iinc 7 1, .goto 45, .iinc 5 1, .goto 27, .goto 21, .return_]
def ps_240 : List Nat := [0, 1, 4, 5, 7, 9, 11, 14, 15, 18, 20, 21, 22, 25, 28, 29, 32, 33, 34, 35, 36, 38, 40, 43, 44, 46, 47, 49, 51, 52, 55, 56, 57, 60, 61, 63, 64, 65, 68, 69, 72, 73, 74, 76, 77, 79, 81, 82, 85, 87, 88, 91, 
  92, 95, 97, 98, 99, 102, 105, 107, 108, 109, 111, 112, 113, 115, 116, 118, 119, 122, 124, 125, 128, 130, 132, 133, 136, 137, 140, 142, 143, 144, 145, 146, 149, 152, 153, 156, 157, 160, 162, 163, 164, 
  165, 167, 168, 169, 171, 174, 177, 180, 183, 186]
theorem ck_240 : xChkM 12 false none prog_14_method_54_code cd_240 ps_240 = true := by decide +kernel
/-- LastCloudModel.isHeight(II)Z -/
def cd_241 : List Instr := [.aload 0, .iload 1, .invokevirtual 1552968, .ifCond .eq 20, .iload 2, .i2l, .aload 0, .iload 1, .iconst 0, .invokevirtual 1560972, .i2l, .aload 0, .getfield 12012, .iconst 7, .iaload, .i2l, 
  .invokestatic 1511932, .ifCond .eq 20, .iconst 1, .goto 21, .iconst 0, .freturn]
def ps_241 : List Nat := [0, 1, 2, 5, 8, 9, 10, 11, 12, 13, 16, 17, 18, 21, 23, 24, 25, 28, 31, 32, 35, 36]
theorem ck_241 : xChkM 12 false (some .boolean) prog_14_method_55_code cd_241 ps_241 = true := by decide +kernel
/-- LastCloudModel.reach(IIIZ)I -/
def cd_242 : List Instr := [.aload 0, .iload 1, .iload 2, .invokevirtual 1928972, .ifCond .eq 9, .aload 0, .iload 3, .invokevirtual 1552968, .ifCond .ne 11, .iconst (-2), .ireturn, .aload 0, .iload 1, .iload 2, .iload 4, 
  .invokevirtual 1920979, .aload 0, .getfield 12232, .iload 3, .iaload, .ireturn]
def ps_242 : List Nat := [0, 1, 2, 3, 6, 9, 10, 11, 14, 17, 19, 20, 21, 22, 23, 25, 28, 29, 32, 33, 34]
theorem ck_242 : xChkM 12 false (some .int) prog_14_method_56_code cd_242 ps_242 = true := by decide +kernel
