/-- LastCloudModel.soonest(I)I -/
def cd_324 : List Instr := [.aload 0, .invokevirtual 2248964, .ifCond .eq 24, .iload 1, .i2l, .jsr 0, .iconst 1, .aload 0, .getfield 12012, .iconst 1, .iaload, .ishl, .iconst 1, .isub, .i2l, .invokestatic 1615932, .ifCond .eq 24, 
  .aload 0, .iload 1, .aload 0, .invokevirtual 2560964, .iand, .invokevirtual 2568968, .goto 25, .iconst (-2), .ireturn]
def ps_324 : List Nat := [0, 1, 4, 7, 8, 9, 10, 11, 12, 15, 16, 17, 18, 19, 20, 21, 24, 27, 28, 29, 30, 33, 34, 37, 40, 42]
theorem ck_324 : xChkM 12 false (some .int) prog_14_method_125_code cd_324 ps_324 = true := by decide +kernel
/-- LastCloudModel.key()I -/
def cd_325 : List Instr := [.aload 0, .invokevirtual 2248964, .ifCond .ne 5, .iconst (-2), .ireturn, .aload 0, .aload 0, .invokevirtual 2560964, .invokevirtual 2568968, .istore 1, .iload 1, .iconst (-1), .if_icmp .ne 15, 
  .iconst (-1), .ireturn, .iconst (-1), .istore 2, .iload 1, .istore 3, .iconst 0, .istore 4, .iload 4, .aload 0, .getfield 12012, .iconst 1, .iaload, .if_icmp .ge 61, .aload 0, .invokevirtual 2560964, 
  .iload 4, .invokestatic 1623928, .ifCond .ne 33, .goto 59, .aload 0, .aload 0, .invokevirtual 2560964, .iconst 1, .iload 4, .ishl, .iconst (-1), .ixor, .iand, .invokevirtual 2568968, .istore 5, 
  .iload 5, .iconst (-1), .if_icmp .ne 49, .iconst 1000, .goto 50, .iload 5, .istore 5, .iload 5, .iload 3, .if_icmp .gt 55, .goto 59, .iload 4, .istore 2, .iload 5, .istore 3, .iinc 4 1, .goto 21, 
  .iload 2, .ireturn]
def ps_325 : List Nat := [0, 1, 4, 7, 9, 10, 11, 12, 15, 18, 19, 20, 21, 24, 25, 26, 27, 28, 29, 30, 31, 33, 35, 36, 39, 40, 41, 44, 45, 48, 50, 53, 56, 59, 60, 61, 64, 65, 67, 68, 69, 70, 71, 74, 76, 78, 79, 82, 85, 88, 90, 
  92, 94, 95, 98, 101, 103, 104, 106, 107, 110, 113, 114]
theorem ck_325 : xChkM 12 false (some .int) prog_14_method_126_code cd_325 ps_325 = true := by decide +kernel
/-- LastCloudModel.count(I)I -/
def cd_326 : List Instr := [.iconst 0, .istore 2, .iload 1, .tableswitch 72 0 10 #[4, 9, 14, 18, 23, 28, 33, 38, 41, 46, 51], .aload 0, .getfield 12012, .iconst 1, .iaload, .ireturn, .aload 0, .getfield 12012, .iconst 2, .iaload, 
  .ireturn, .aload 0, .invokevirtual 2560964, .invokestatic 1839924, .ireturn, .aload 0, .getfield 12012, .iconst 3, .iaload, .ireturn, .aload 0, .getfield 12012, .iconst 0, .iaload, .ireturn, .aload 0, 
  .getfield 12012, .iconst 4, .iaload, .ireturn, .aload 0, .getfield 12012, .iconst 12, .iaload, .ireturn, .aload 0, .getfield 12050, .ireturn, .aload 0, .getfield 12012, .iconst 8, .iaload, .ireturn, 
  .aload 0, .getfield 12012, .iconst 7, .iaload, .ireturn, .iconst 0, .istore 3, .iload 3, .iconst 4, .if_icmp .ge 70, .iload 2, .aload 0, .getfield 12492, .iload 3, .iaload, .iconst (-1), 
  .if_icmp .ne 65, .iconst 0, .goto 66, .iconst 1, .iadd, .istore 2, .iinc 3 1, .goto 53, .iload 2, .ireturn, .iconst (-1), .ireturn]
def ps_326 : List Nat := [0, 1, 2, 3, 60, 61, 64, 65, 66, 67, 68, 71, 72, 73, 74, 75, 78, 81, 82, 83, 86, 87, 88, 89, 90, 93, 94, 95, 96, 97, 100, 101, 102, 103, 104, 107, 109, 110, 111, 112, 115, 116, 117, 120, 122, 123, 124, 
  125, 128, 130, 131, 132, 133, 134, 135, 136, 139, 140, 141, 144, 145, 146, 147, 150, 151, 154, 155, 156, 157, 160, 163, 164, 165, 166]
theorem ck_326 : xChkM 12 false (some .int) prog_14_method_127_code cd_326 ps_326 = true := by decide +kernel
/-- LastCloudModel.isSlot(I)Z -/
def cd_327 : List Instr := [.iload 0, .i2l, .jsr 0, .jsr 3, .invokestatic 1615932, .freturn]
def ps_327 : List Nat := [0, 1, 2, 3, 6, 9]
theorem ck_327 : xChkM 12 false (some .boolean) prog_14_method_128_code cd_327 ps_327 = true := by decide +kernel
/-- LastCloudModel.cut(JI)J -/
def cd_328 : List Instr := [.iconst 64, .iconst 8, .iload 2, .ishl, .isub, .istore 3, .lload 0, .iload 3, .lshl, .iload 3, .lshr, .lreturn]
def ps_328 : List Nat := [0, 2, 4, 5, 6, 7, 8, 9, 10, 11, 12, 13]
theorem ck_328 : xChkM 12 false (some .long) prog_14_method_129_code cd_328 ps_328 = true := by decide +kernel
/-- LastCloudModel.row(III)I -/
def cd_329 : List Instr := [.iload 1, .invokestatic 2623924, .ifCond .eq 12, .iload 2, .i2l, .jsr 0, .jsr 3, .invokestatic 1615932, .ifCond .eq 12, .iload 3, .iconst 60, .if_icmp .le 14, .iconst (-2), .ireturn, .iload 3, 
  .ifCond .ge 18, .iconst (-3), .ireturn, .aload 0, .getfield 12492, .iload 1, .iload 3, .iastore, .aload 0, .getfield 12502, .iload 1, .iload 2, .iastore, .iconst 0, .istore 4, .iload 4, .iconst 60, 
  .if_icmp .ge 44, .aload 0, .getfield 12512, .iconst 60, .iload 1, .imul, .iload 4, .iadd, .jsr 0, .lastore, .iinc 4 1, .goto 30, .iconst 0, .ireturn]
def ps_329 : List Nat := [0, 1, 4, 7, 8, 9, 10, 13, 16, 19, 20, 22, 25, 27, 28, 29, 32, 34, 35, 36, 39, 40, 41, 42, 43, 46, 47, 48, 49, 50, 52, 54, 56, 59, 60, 63, 65, 66, 67, 69, 70, 71, 72, 75, 78, 79]
theorem ck_329 : xChkM 12 false (some .int) prog_14_method_130_code cd_329 ps_329 = true := by decide +kernel
/-- LastCloudModel.write(IIJ)I -/
def cd_330 : List Instr := [.iload 1, .invokestatic 2623924, .ifCond .ne 5, .iconst (-2), .ireturn, .aload 0, .getfield 12492, .iload 1, .iaload, .iconst (-1), .if_icmp .ne 13, .iconst (-6), .ireturn, .iload 2, .i2l, .jsr 0, 
  .aload 0, .getfield 12492, .iload 1, .iaload, .iconst 1, .isub, .i2l, .invokestatic 1615932, .ifCond .ne 27, .iconst (-7), .ireturn, .aload 0, .getfield 12512, .iconst 60, .iload 1, .imul, .iload 2, 
  .iadd, .lload 3, .aload 0, .getfield 12502, .iload 1, .iaload, .invokestatic 2631929, .lastore, .iconst 0, .ireturn]
def ps_330 : List Nat := [0, 1, 4, 7, 9, 10, 11, 14, 15, 16, 17, 20, 22, 23, 24, 25, 26, 27, 30, 31, 32, 33, 34, 35, 38, 41, 43, 44, 45, 48, 50, 51, 52, 53, 54, 55, 56, 59, 60, 61, 64, 65, 66]
theorem ck_330 : xChkM 12 false (some .int) prog_14_method_131_code cd_330 ps_330 = true := by decide +kernel
/-- LastCloudModel.paste(IIIII)I -/
def cd_331 : List Instr := [.iload 1, .invokestatic 2623924, .ifCond .eq 6, .iload 3, .invokestatic 2623924, .ifCond .ne 8, .iconst (-2), .ireturn, .aload 0, .getfield 12492, .iload 1, .iaload, .iconst (-1), .if_icmp .eq 20, 
  .aload 0, .getfield 12492, .iload 3, .iaload, .iconst (-1), .if_icmp .ne 22, .iconst (-6), .ireturn, .aload 0, .getfield 12502, .iload 1, .iaload, .aload 0, .getfield 12502, .iload 3, .iaload, 
  .if_icmp .eq 33, .iconst (-8), .ireturn, .iload 2, .ifCond .lt 63, .iload 4, .ifCond .lt 63, .iload 5, .ifCond .lt 63, .iload 2, .i2l, .iload 5, .i2l, .ladd, .aload 0, .getfield 12492, .iload 1, 
  .iaload, .i2l, .lcmp, .ifCond .gt 63, .iload 4, .i2l, .iload 5, .i2l, .ladd, .aload 0, .getfield 12492, .iload 3, .iaload, .i2l, .lcmp, .ifCond .le 65, .iconst (-7), .ireturn, .iconst 0, .istore 6, 
  .iload 6, .iload 5, .if_icmp .ge 86, .aload 0, .getfield 12522, .iload 6, .aload 0, .getfield 12512, .iconst 60, .iload 1, .imul, .iload 2, .iadd, .iload 6, .iadd, .laload, .lastore, .iinc 6 1, 
  .goto 67, .iconst 0, .istore 6, .iload 6, .iload 5, .if_icmp .ge 107, .aload 0, .getfield 12512, .iconst 60, .iload 3, .imul, .iload 4, .iadd, .iload 6, .iadd, .aload 0, .getfield 12522, .iload 6, 
  .laload, .lastore, .iinc 6 1, .goto 88, .iconst 0, .ireturn]
def ps_331 : List Nat := [0, 1, 4, 7, 8, 11, 14, 16, 17, 18, 21, 22, 23, 24, 27, 28, 31, 32, 33, 34, 37, 39, 40, 41, 44, 45, 46, 47, 50, 51, 52, 55, 57, 58, 59, 62, 64, 67, 69, 72, 73, 74, 76, 77, 78, 79, 82, 83, 84, 85, 86, 
  89, 91, 92, 94, 95, 96, 97, 100, 101, 102, 103, 104, 107, 109, 110, 111, 113, 115, 117, 120, 121, 124, 126, 127, 130, 132, 133, 134, 135, 136, 138, 139, 140, 141, 144, 147, 148, 150, 152, 154, 157, 
  158, 161, 163, 164, 165, 167, 168, 170, 171, 172, 175, 177, 178, 179, 182, 185, 186]
theorem ck_331 : xChkM 12 false (some .int) prog_14_method_132_code cd_331 ps_331 = true := by decide +kernel
/-- java/lang/Integer.bitCount(I)I -/
def cd_332 : List Instr := [.iload 0, .iload 0, .iconst 1, .iushr, .iconst 1431655765, .iand, .isub, .istore 0, .iload 0, .iconst 858993459, .iand, .iload 0, .iconst 2, .iushr, .iconst 858993459, .iand, .iadd, .istore 0, 
  .iload 0, .iload 0, .iconst 4, .iushr, .iadd, .iconst 252645135, .iand, .istore 0, .iload 0, .iload 0, .iconst 8, .iushr, .iadd, .istore 0, .iload 0, .iload 0, .iconst 16, .iushr, .iadd, .istore 0, 
  .iload 0, .iconst 63, .iand, .ireturn]
def ps_332 : List Nat := [0, 1, 2, 3, 4, 7, 8, 9, 10, 11, 14, 15, 16, 17, 18, 21, 22, 23, 24, 25, 26, 27, 28, 29, 32, 33, 34, 35, 36, 38, 39, 40, 41, 42, 43, 45, 46, 47, 48, 49, 51, 52]
theorem ck_332 : xChkM 14 false (some .int) prog_15_method_49_code cd_332 ps_332 = true := by decide +kernel
/-- java/util/Arrays.fill([JJ)V -/
def cd_333 : List Instr := [.iconst 0, .istore 3, .aload 0, .arraylength, .istore 4, .iload 3, .iload 4, .if_icmp .ge 14, .aload 0, .iload 3, .lload 1, .lastore, .iinc 3 1, .goto 5, .return_]
def ps_333 : List Nat := [0, 1, 2, 3, 4, 6, 7, 9, 12, 13, 14, 15, 16, 19, 22]
theorem ck_333 : xChkM 15 false none prog_21_method_101_code cd_333 ps_333 = true := by decide +kernel
/-- java/util/Arrays.fill([II)V -/
def cd_334 : List Instr := [.iconst 0, .istore 2, .aload 0, .arraylength, .istore 3, .iload 2, .iload 3, .if_icmp .ge 14, .aload 0, .iload 2, .iload 1, .iastore, .iinc 2 1, .goto 5, .return_]
def ps_334 : List Nat := [0, 1, 2, 3, 4, 5, 6, 7, 10, 11, 12, 13, 14, 17, 20]
theorem ck_334 : xChkM 15 false none prog_21_method_103_code cd_334 ps_334 = true := by decide +kernel
/-- java/util/Arrays.fill([BB)V -/
def cd_335 : List Instr := [.iconst 0, .istore 2, .aload 0, .arraylength, .istore 3, .iload 2, .iload 3, .if_icmp .ge 14, .aload 0, .iload 2, .iload 1, .bastore, .iinc 2 1, .goto 5, .return_]
def ps_335 : List Nat := [0, 1, 2, 3, 4, 5, 6, 7, 10, 11, 12, 13, 14, 17, 20]
theorem ck_335 : xChkM 15 false none prog_21_method_109_code cd_335 ps_335 = true := by decide +kernel
