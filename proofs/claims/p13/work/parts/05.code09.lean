/-- LastCloudModel.bySign(IIZI)I -/
def cd_243 : List Instr := [.iload 3, .ifCond .eq 7, .aload 0, .iload 1, .iconst 6, .invokevirtual 1664972, .goto 13, .iconst 100, .aload 0, .iload 1, .iconst 6, .invokevirtual 1664972, .isub, .istore 5, .iload 3, .ifCond .eq 21, 
  .aload 0, .iload 1, .iconst 7, .invokevirtual 1664972, .goto 27, .iconst 100, .aload 0, .iload 1, .iconst 7, .invokevirtual 1664972, .isub, .istore 6, .iload 2, .iload 5, .imul, .iconst 100, .iload 2, 
  .isub, .iload 6, .imul, .iadd, .istore 7, .iload 7, .ifCond .ne 42, .iconst (-1), .goto 49, .iload 4, .iload 2, .imul, .iload 5, .imul, .iload 7, .idiv, .ireturn]
def ps_243 : List Nat := [0, 1, 4, 5, 6, 8, 11, 14, 16, 17, 18, 20, 23, 24, 26, 27, 30, 31, 32, 34, 37, 40, 42, 43, 44, 46, 49, 50, 52, 53, 55, 56, 58, 59, 60, 62, 63, 64, 66, 68, 71, 72, 75, 77, 78, 79, 81, 82, 84, 85]
theorem ck_243 : xChkM 12 false (some .int) prog_14_method_44_code cd_243 ps_243 = true := by decide +kernel
/-- LastCloudModel.chanceNow(I)I -/
def cd_244 : List Instr := [.aload 0, .iload 1, .iconst 4, .invokevirtual 1664972, .istore 2, .iconst 0, .istore 3, .iload 3, .aload 0, .getfield 12012, .iconst 4, .iaload, .if_icmp .ge 65, .aload 0, .getfield 12012, .iconst 156, 
  .iconst 2, .iload 3, .imul, .iadd, .iaload, .iload 1, .if_icmp .eq 24, .goto 63, .aload 0, .getfield 12012, .iconst 156, .iconst 2, .iload 3, .imul, .iadd, .iconst 1, .iadd, .iaload, .istore 4, 
  .iload 4, .iconst 2, .if_icmp .ge 44, .iconst 100, .iconst 100, .iload 4, .imul, .isub, .goto 55, .aload 0, .iload 1, .iload 2, .iload 4, .iconst 2, .if_icmp .ne 52, .iconst 1, .goto 53, .iconst 0, 
  .iconst 100, .invokevirtual 1944980, .istore 5, .iload 5, .iconst (-1), .if_icmp .ne 61, .iload 2, .goto 62, .iload 5, .istore 2, .iinc 3 1, .goto 7, .iload 2, .ireturn]
def ps_244 : List Nat := [0, 1, 2, 3, 6, 7, 8, 9, 10, 11, 14, 15, 16, 19, 20, 23, 26, 27, 28, 29, 30, 31, 32, 35, 38, 39, 42, 45, 46, 47, 48, 49, 50, 51, 52, 54, 56, 57, 60, 62, 64, 66, 67, 68, 71, 72, 73, 74, 76, 77, 80, 81, 
  84, 85, 87, 90, 92, 94, 95, 98, 99, 102, 104, 105, 108, 111, 112]
theorem ck_244 : xChkM 12 false (some .int) prog_14_method_45_code cd_244 ps_244 = true := by decide +kernel
/-- LastCloudModel.chanceOf(I)I -/
def cd_245 : List Instr := [.iload 1, .aload 0, .getfield 12160, .if_icmp .ne 7, .aload 0, .getfield 12170, .goto 10, .aload 0, .iload 1, .invokevirtual 1952968, .ireturn]
def ps_245 : List Nat := [0, 1, 2, 5, 8, 9, 12, 15, 16, 17, 20]
theorem ck_245 : xChkM 12 false (some .int) prog_14_method_46_code cd_245 ps_245 = true := by decide +kernel
/-- LastCloudModel.chance(I)I -/
def cd_246 : List Instr := [.aload 0, .iload 1, .invokevirtual 1656968, .ifCond .eq 8, .aload 0, .iload 1, .invokevirtual 1952968, .goto 9, .iconst (-2), .ireturn]
def ps_246 : List Nat := [0, 1, 2, 5, 8, 9, 10, 13, 16, 18]
theorem ck_246 : xChkM 12 false (some .int) prog_14_method_47_code cd_246 ps_246 = true := by decide +kernel
/-- LastCloudModel.sight(II)I -/
def cd_247 : List Instr := [.aload 0, .iload 1, .invokevirtual 1656968, .ifCond .eq 10, .iload 2, .i2l, .jsr 0, .jsr 3, .invokestatic 1615932, .ifCond .ne 12, .iconst (-2), .ireturn, .aload 0, .getfield 12012, .iconst 4, .iaload, 
  .iconst 20, .if_icmp .ne 20, .iconst (-3), .ireturn, .aload 0, .getfield 12012, .iconst 156, .iconst 2, .aload 0, .getfield 12012, .iconst 4, .iaload, .imul, .iadd, .iload 1, .iastore, .aload 0, 
  .getfield 12012, .iconst 156, .iconst 2, .aload 0, .getfield 12012, .iconst 4, .iaload, .imul, .iadd, .iconst 1, .iadd, .iload 2, .iastore, .aload 0, .getfield 12012, .iconst 4, .dup2, .iaload, 
  .iconst 1, .iadd, .iastore, .aload 0, .invokevirtual 2128967, .aload 0, .getfield 12012, .iconst 4, .iaload, .ireturn]
def ps_247 : List Nat := [0, 1, 2, 5, 8, 9, 10, 11, 14, 17, 20, 22, 23, 24, 27, 28, 29, 31, 34, 36, 37, 38, 41, 44, 45, 46, 49, 50, 51, 52, 53, 54, 55, 56, 59, 62, 63, 64, 67, 68, 69, 70, 71, 72, 73, 74, 75, 76, 79, 80, 81, 82, 
  83, 84, 85, 86, 89, 90, 93, 94, 95]
theorem ck_247 : xChkM 12 false (some .int) prog_14_method_48_code cd_247 ps_247 = true := by decide +kernel
/-- LastCloudModel.unsee(I)I -/
def cd_248 : List Instr := [.iload 1, .i2l, .jsr 0, .aload 0, .getfield 12012, .iconst 4, .iaload, .i2l, .invokestatic 1615932, .ifCond .ne 12, .iconst (-2), .ireturn, .aload 0, .getfield 12012, .iconst 4, .dup2, .iaload, 
  .iload 1, .isub, .iastore, .aload 0, .invokevirtual 2128967, .aload 0, .getfield 12012, .iconst 4, .iaload, .ireturn]
def ps_248 : List Nat := [0, 1, 2, 3, 4, 7, 8, 9, 10, 13, 16, 18, 19, 20, 23, 24, 25, 26, 27, 28, 29, 30, 33, 34, 37, 38, 39]
theorem ck_248 : xChkM 12 false (some .int) prog_14_method_49_code cd_248 ps_248 = true := by decide +kernel
/-- LastCloudModel.sign(IZ)I -/
def cd_249 : List Instr := [.aload 0, .iload 1, .invokevirtual 1656968, .ifCond .eq 14, .aload 0, .iload 1, .aload 0, .iload 1, .iconst 4, .invokevirtual 1664972, .iload 2, .iconst 10000, .invokevirtual 1944980, .goto 15, 
  .iconst (-2), .ireturn]
def ps_249 : List Nat := [0, 1, 2, 5, 8, 9, 10, 11, 12, 13, 16, 17, 20, 23, 26, 28]
theorem ck_249 : xChkM 12 false (some .int) prog_14_method_50_code cd_249 ps_249 = true := by decide +kernel
/-- LastCloudModel.laysWays()V -/
def cd_250 : List Instr := [.aload 0, .getfield 12220, .ifCond .eq 4, .return_, .aload 0, .iconst 1, .putfield 12223, .iconst 0, .istore 1, .iload 1, .iconst 2, .if_icmp .ge 25, .iconst 0, .istore 2, .iload 2, .iconst 8, 
  .if_icmp .ge 23, .aload 0, .iload 2, .iload 1, .invokevirtual 2008975, .iinc 2 1, .goto 14, .iinc 1 1, .goto 9, .return_]
def ps_250 : List Nat := [0, 1, 4, 7, 8, 9, 10, 13, 14, 15, 16, 17, 20, 21, 22, 23, 25, 28, 29, 30, 31, 34, 37, 40, 43, 46]
theorem ck_250 : xChkM 12 false none prog_14_method_51_code cd_250 ps_250 = true := by decide +kernel
/-- LastCloudModel.laysFrom(II)V -/
def cd_251 : List Instr := [.iconst 2, .iload 1, .imul, .iload 2, .iadd, .istore 3, .aload 0, .getfield 12202, .iload 3, .iconst 0, .iastore, .iconst 0, .istore 4, .iload 4, .aload 0, .getfield 12012, .iconst 2, .iaload, 
  .if_icmp .ge 129, .aload 0, .iload 4, .iconst 1, .invokevirtual 1672972, .iload 1, .if_icmp .ne 27, .iconst 1, .goto 28, .iconst 0, .istore 5, .iload 5, .ifCond .ne 38, .aload 0, .iload 4, .iconst 0, 
  .invokevirtual 1672972, .iload 1, .if_icmp .eq 38, .goto 127, .iconst 0, .istore 6, .iload 6, .aload 0, .getfield 12012, .iconst 3, .iaload, .if_icmp .ge 127, .aload 0, .iload 4, .iload 5, .iload 6, 
  .iload 2, .iconst 1, .if_icmp .ne 55, .iconst 1, .goto 56, .iconst 0, .invokevirtual 1888980, .istore 7, .iload 7, .iconst (-1), .if_icmp .ne 62, .goto 125, .iconst 300, .iload 3, .imul, .iconst 5, 
  .aload 0, .getfield 12202, .iload 3, .iaload, .imul, .iadd, .istore 8, .aload 0, .getfield 12212, .iload 8, .iload 4, .iastore, .aload 0, .getfield 12212, .iload 8, .iconst 1, .iadd, .iload 6, 
  .iastore, .aload 0, .getfield 12212, .iload 8, .iconst 2, .iadd, .aload 0, .iload 4, .iload 5, .ifCond .eq 96, .iconst 0, .goto 97, .iconst 1, .invokevirtual 1672972, .iastore, .aload 0, 
  .getfield 12212, .iload 8, .iconst 3, .iadd, .iload 7, .iastore, .aload 0, .getfield 12212, .iload 8, .iconst 4, .iadd, .aload 0, .iload 4, .iload 6, .iload 7, .invokevirtual 1896976, .iastore, 
  .aload 0, .getfield 12202, .iload 3, .dup2, .iaload, .iconst 1, .iadd, .iastore, .iinc 6 1, .goto 40, .iinc 4 1, .goto 13, .return_]
def ps_251 : List Nat := [0, 1, 2, 3, 4, 5, 6, 7, 10, 11, 12, 13, 14, 16, 18, 19, 22, 23, 24, 27, 28, 30, 31, 34, 35, 38, 39, 42, 43, 45, 47, 50, 51, 53, 54, 57, 58, 61, 64, 65, 67, 69, 70, 73, 74, 75, 78, 79, 81, 83, 85, 86, 
  87, 90, 91, 94, 95, 98, 100, 102, 103, 106, 109, 112, 113, 114, 115, 116, 119, 120, 121, 122, 123, 125, 126, 129, 131, 133, 134, 135, 138, 140, 141, 142, 144, 145, 146, 149, 151, 152, 153, 154, 156, 
  158, 161, 162, 165, 166, 169, 170, 171, 174, 176, 177, 178, 180, 181, 182, 185, 187, 188, 189, 190, 192, 194, 196, 199, 200, 201, 204, 205, 206, 207, 208, 209, 210, 213, 216, 219, 222]
theorem ck_251 : xChkM 12 false none prog_14_method_52_code cd_251 ps_251 = true := by decide +kernel
/-- LastCloudModel.comesAt(II)I -/
def cd_252 : List Instr := [.aload 0, .getfield 12212, .iload 1, .iconst 2, .iadd, .iaload, .istore 3, .aload 0, .getfield 12012, .iconst 7, .iaload, .iload 2, .aload 0, .getfield 12212, .iload 1, .iconst 4, .iadd, .iaload, 
  .isub, .dsub, .istore 4, .iload 2, .aload 0, .getfield 12212, .iload 1, .iconst 4, .iadd, .iaload, .iconst 2, .idiv, .isub, .aload 0, .aload 0, .getfield 12212, .iload 1, .iaload, .iconst 5, 
  .invokevirtual 1672972, .if_icmp .lt 45, .iload 4, .aload 0, .iload 3, .iconst 0, .invokevirtual 1664972, .if_icmp .ge 47, .iconst (-1), .goto 48, .iload 4, .ireturn]
def ps_252 : List Nat := [0, 1, 4, 5, 6, 7, 8, 9, 10, 13, 15, 16, 17, 18, 21, 22, 23, 24, 25, 26, 29, 31, 32, 33, 36, 37, 38, 39, 40, 41, 42, 43, 44, 45, 48, 49, 50, 51, 54, 57, 59, 60, 61, 62, 65, 68, 69, 72, 74]
theorem ck_252 : xChkM 12 false (some .int) prog_14_method_53_code cd_252 ps_252 = true := by decide +kernel
/-- LastCloudModel.glides(IIZ)V -/
def cd_253 : List Instr := [.aload 0, .invokevirtual 2000967, .iconst 0, .istore 4, .iload 4, .iconst 8, .if_icmp .ge 14, .aload 0, .getfield 12232, .iload 4, .iconst (-1), .iastore, .iinc 4 1, .goto 4, .aload 0, .getfield 12232, 
  .iload 1, .iload 2, .iastore, .iconst 1, .istore 4, .iload 4, .ifCond .eq 102, .iconst 0, .istore 4, .iconst 0, .istore 5, .iload 5, .aload 0, .getfield 12012, .iconst 1, .iaload, .if_icmp .ge 101, 
  .iconst 2, .iload 5, .imul, .iload 3, .ifCond .eq 40, .iconst 1, .goto 41, .iconst 0, .iadd, .istore 6, .iconst 0, .istore 7, .iload 7, .aload 0, .getfield 12202, .iload 6, .iaload, .if_icmp .ge 99, 
  .aload 0, .getfield 12232, .iload 5, .iaload, .iconst (-1), .if_icmp .eq 99, .iconst 300, .iload 6, .imul, .iconst 5, .iload 7, .imul, .iadd, .istore 8, .aload 0, .iload 8, .aload 0, .getfield 12232, 
  .iload 5, .iaload, .invokevirtual 2016972, .istore 9, .iload 9, .aload 0, .getfield 12232, .aload 0, .getfield 12212, .iload 8, .iconst 2, .iadd, .iaload, .iaload, .if_icmp .gt 85, .goto 97, .aload 0, 
  .getfield 12232, .aload 0, .getfield 12212, .iload 8, .iconst 2, .iadd, .iaload, .iload 9, .iastore, .iconst 1, .istore 4, .iinc 7 1, .goto 45, .iinc 5 1, .goto 27, .goto 21, .return_]
def ps_253 : List Nat := [0, 1, 4, 5, 7, 9, 11, 14, 15, 18, 20, 21, 22, 25, 28, 29, 32, 33, 34, 35, 36, 38, 40, 43, 44, 46, 47, 49, 51, 52, 55, 56, 57, 60, 61, 63, 64, 65, 68, 69, 72, 73, 74, 76, 77, 79, 81, 82, 85, 87, 88, 91, 
  92, 95, 97, 98, 99, 102, 105, 107, 108, 109, 111, 112, 113, 115, 116, 118, 119, 122, 124, 125, 128, 130, 132, 133, 136, 137, 140, 142, 143, 144, 145, 146, 149, 152, 153, 156, 157, 160, 162, 163, 164, 
  165, 167, 168, 169, 171, 174, 177, 180, 183, 186]
theorem ck_253 : xChkM 12 false none prog_14_method_54_code cd_253 ps_253 = true := by decide +kernel
/-- LastCloudModel.isHeight(II)Z -/
def cd_254 : List Instr := [.aload 0, .iload 1, .invokevirtual 1656968, .ifCond .eq 20, .iload 2, .i2l, .aload 0, .iload 1, .iconst 0, .invokevirtual 1664972, .i2l, .aload 0, .getfield 12012, .iconst 7, .iaload, .i2l, 
  .invokestatic 1615932, .ifCond .eq 20, .iconst 1, .goto 21, .iconst 0, .freturn]
def ps_254 : List Nat := [0, 1, 2, 5, 8, 9, 10, 11, 12, 13, 16, 17, 18, 21, 23, 24, 25, 28, 31, 32, 35, 36]
theorem ck_254 : xChkM 12 false (some .boolean) prog_14_method_55_code cd_254 ps_254 = true := by decide +kernel
/-- LastCloudModel.reach(IIIZ)I -/
def cd_255 : List Instr := [.aload 0, .iload 1, .iload 2, .invokevirtual 2032972, .ifCond .eq 9, .aload 0, .iload 3, .invokevirtual 1656968, .ifCond .ne 11, .iconst (-2), .ireturn, .aload 0, .iload 1, .iload 2, .iload 4, 
  .invokevirtual 2024979, .aload 0, .getfield 12232, .iload 3, .iaload, .ireturn]
def ps_255 : List Nat := [0, 1, 2, 3, 6, 9, 10, 11, 14, 17, 19, 20, 21, 22, 23, 25, 28, 29, 32, 33, 34]
theorem ck_255 : xChkM 12 false (some .int) prog_14_method_56_code cd_255 ps_255 = true := by decide +kernel
/-- LastCloudModel.fieldsOf(IIZ)I -/
def cd_256 : List Instr := [.iconst 61, .iload 1, .imul, .iload 2, .iadd, .iconst 2, .imul, .iload 3, .ifCond .eq 11, .iconst 1, .goto 12, .iconst 0, .iadd, .istore 4, .aload 0, .getfield 12242, .iload 4, .iaload, .iconst (-1), 
  .if_icmp .eq 25, .aload 0, .getfield 12242, .iload 4, .iaload, .ireturn, .aload 0, .iload 1, .iload 2, .iload 3, .invokevirtual 2024979, .iconst 0, .istore 5, .iconst 0, .istore 6, .iload 6, .aload 0, 
  .getfield 12012, .iconst 1, .iaload, .if_icmp .ge 61, .iload 5, .aload 0, .getfield 12232, .iload 6, .iaload, .iconst (-1), .if_icmp .eq 56, .aload 0, .iload 6, .iconst 1, .invokevirtual 1664972, 
  .ifCond .le 56, .iconst 1, .iload 6, .ishl, .goto 57, .iconst 0, .ior, .istore 5, .iinc 6 1, .goto 34, .aload 0, .getfield 12242, .iload 4, .iload 5, .iastore, .iload 5, .ireturn]
def ps_256 : List Nat := [0, 2, 3, 4, 5, 6, 7, 8, 9, 12, 13, 16, 17, 18, 20, 21, 24, 26, 27, 28, 31, 32, 35, 37, 38, 39, 40, 41, 42, 43, 46, 47, 49, 50, 52, 54, 55, 58, 59, 60, 63, 65, 66, 69, 71, 72, 73, 76, 77, 79, 80, 83, 
  86, 87, 89, 90, 93, 94, 95, 97, 100, 103, 104, 107, 109, 111, 112, 114]
theorem ck_256 : xChkM 12 false (some .int) prog_14_method_57_code cd_256 ps_256 = true := by decide +kernel
/-- LastCloudModel.fields(IIZ)I -/
def cd_257 : List Instr := [.aload 0, .iload 1, .iload 2, .invokevirtual 2032972, .ifCond .eq 11, .aload 0, .iload 1, .iload 2, .iload 3, .invokevirtual 2048976, .goto 12, .iconst (-2), .ireturn]
def ps_257 : List Nat := [0, 1, 2, 3, 6, 9, 10, 11, 12, 13, 16, 19, 21]
theorem ck_257 : xChkM 12 false (some .int) prog_14_method_58_code cd_257 ps_257 = true := by decide +kernel
/-- LastCloudModel.edge(IZ)I -/
def cd_258 : List Instr := [.aload 0, .iload 1, .invokevirtual 1656968, .ifCond .ne 6, .iconst (-2), .ireturn, .aload 0, .iload 1, .iconst 0, .invokevirtual 1664972, .istore 3, .iload 3, .aload 0, .getfield 12012, .iconst 7, 
  .iaload, .if_icmp .gt 27, .aload 0, .iload 1, .iload 3, .iload 2, .invokevirtual 2048976, .ifCond .eq 25, .iload 3, .ireturn, .iinc 3 1, .goto 11, .iconst (-1), .ireturn]
def ps_258 : List Nat := [0, 1, 2, 5, 8, 10, 11, 12, 13, 14, 17, 18, 19, 20, 23, 25, 26, 29, 30, 31, 32, 33, 36, 39, 40, 41, 44, 47, 48]
theorem ck_258 : xChkM 12 false (some .int) prog_14_method_59_code cd_258 ps_258 = true := by decide +kernel
/-- LastCloudModel.tour(IIZ)I -/
def cd_259 : List Instr := [.aload 0, .iload 1, .iload 2, .invokevirtual 2032972, .ifCond .ne 7, .iconst (-2), .ireturn, .iconst 0, .istore 4, .iconst 0, .istore 5, .iload 5, .aload 0, .getfield 12012, .iconst 1, .iaload, 
  .if_icmp .ge 46, .aload 0, .iload 1, .iload 2, .iload 3, .invokevirtual 2024979, .aload 0, .getfield 12232, .iload 5, .iaload, .istore 6, .iload 4, .iload 6, .iconst (-1), .if_icmp .eq 41, .aload 0, 
  .iload 5, .iload 6, .iload 3, .invokevirtual 2048976, .ifCond .eq 41, .iconst 1, .iload 5, .ishl, .goto 42, .iconst 0, .ior, .istore 4, .iinc 5 1, .goto 11, .iload 4, .ireturn]
def ps_259 : List Nat := [0, 1, 2, 3, 6, 9, 11, 12, 13, 15, 16, 18, 20, 21, 24, 25, 26, 29, 30, 31, 32, 33, 36, 37, 40, 42, 43, 45, 47, 49, 50, 53, 54, 56, 58, 59, 62, 65, 66, 68, 69, 72, 73, 74, 76, 79, 82, 84]
theorem ck_259 : xChkM 12 false (some .int) prog_14_method_60_code cd_259 ps_259 = true := by decide +kernel
/-- LastCloudModel.street()I -/
def cd_260 : List Instr := [.aload 0, .invokevirtual 2000967, .iconst 0, .istore 1, .iload 1, .iconst 2048, .if_icmp .ge 14, .aload 0, .getfield 12252, .iload 1, .iconst 0, .castore, .iinc 1 1, .goto 4, .iconst 0, .istore 1, 
  .iload 1, .aload 0, .getfield 12012, .iconst 1, .iaload, .if_icmp .ge 35, .aload 0, .getfield 12252, .iconst 8, .iconst 1, .iload 1, .ishl, .imul, .iload 1, .iadd, .iconst 1, .castore, .iinc 1 1, 
  .goto 16, .iconst 0, .istore 1, .iconst 1, .istore 2, .iload 2, .iconst 256, .if_icmp .ge 128, .iconst 0, .istore 3, .iload 3, .aload 0, .getfield 12012, .iconst 1, .iaload, .if_icmp .ge 126, .aload 0, 
  .getfield 12252, .iconst 8, .iload 2, .imul, .iload 3, .iadd, .caload, .ifCond .ne 60, .goto 124, .iload 1, .iload 2, .invokestatic 1839924, .dadd, .istore 1, .iconst 0, .istore 4, .iload 4, .aload 0, 
  .getfield 12202, .iconst 2, .iload 3, .imul, .iaload, .if_icmp .ge 124, .iconst 600, .iload 3, .imul, .iconst 5, .iload 4, .imul, .iadd, .istore 5, .aload 0, .getfield 12212, .iload 5, .iconst 4, 
  .iadd, .iaload, .ifCond .gt 122, .iload 2, .aload 0, .getfield 12212, .iload 5, .iconst 2, .iadd, .iaload, .invokestatic 1623928, .ifCond .ne 122, .aload 0, .getfield 12252, .iconst 8, .iload 2, 
  .iconst 1, .aload 0, .getfield 12212, .iload 5, .iconst 2, .iadd, .iaload, .ishl, .ior, .imul, .aload 0, .getfield 12212, .iload 5, .iconst 2, .iadd, .iaload, .iadd, .iconst 1, .castore, .iinc 4 1, 
  .goto 67, .iinc 3 1, .goto 44, .iinc 2 1, .goto 39, .iload 1, .ireturn]
def ps_260 : List Nat := [0, 1, 4, 5, 6, 7, 10, 13, 14, 17, 18, 19, 20, 23, 26, 27, 28, 29, 30, 33, 34, 35, 38, 39, 42, 44, 45, 46, 47, 48, 49, 50, 51, 52, 55, 58, 59, 60, 61, 62, 63, 66, 69, 70, 71, 72, 73, 76, 77, 78, 81, 82, 
  85, 87, 88, 89, 90, 91, 92, 95, 98, 99, 100, 103, 106, 107, 108, 110, 112, 113, 116, 117, 118, 119, 120, 123, 126, 127, 128, 129, 131, 132, 133, 135, 136, 139, 141, 142, 143, 144, 147, 148, 149, 152, 
  154, 155, 156, 157, 160, 163, 164, 167, 169, 170, 171, 172, 175, 177, 178, 179, 180, 181, 182, 183, 184, 187, 189, 190, 191, 192, 193, 194, 195, 198, 201, 204, 207, 210, 213, 214]
theorem ck_260 : xChkM 12 false (some .int) prog_14_method_61_code cd_260 ps_260 = true := by decide +kernel
/-- LastCloudModel.fastOf(I)I -/
def cd_261 : List Instr := [.iconst (-1), .istore 2, .iconst 0, .istore 3, .iload 3, .aload 0, .getfield 12012, .iconst 3, .iaload, .if_icmp .ge 57, .iconst 144, .iconst 2, .iload 3, .imul, .iadd, .istore 4, .iconst 144, 
  .iconst 2, .iload 2, .imul, .iadd, .istore 5, .iload 2, .iconst (-1), .if_icmp .eq 53, .aload 0, .getfield 12012, .iload 4, .iaload, .iload 1, .aload 0, .getfield 12012, .iload 5, .iconst 1, .iadd, 
  .iaload, .iadd, .imul, .aload 0, .getfield 12012, .iload 5, .iaload, .iload 1, .aload 0, .getfield 12012, .iload 4, .iconst 1, .iadd, .iaload, .iadd, .imul, .if_icmp .gt 53, .goto 55, .iload 3, 
  .istore 2, .iinc 3 1, .goto 4, .iload 2, .ireturn]
def ps_261 : List Nat := [0, 1, 2, 3, 4, 5, 6, 9, 10, 11, 14, 17, 18, 19, 20, 21, 23, 26, 27, 28, 29, 30, 32, 33, 34, 37, 38, 41, 43, 44, 45, 46, 49, 51, 52, 53, 54, 55, 56, 57, 60, 62, 63, 64, 65, 68, 70, 71, 72, 73, 74, 75, 
  78, 81, 82, 83, 86, 89, 90]
theorem ck_261 : xChkM 12 false (some .int) prog_14_method_62_code cd_261 ps_261 = true := by decide +kernel
/-- LastCloudModel.isClimb(I)Z -/
def cd_262 : List Instr := [.iload 0, .i2l, .jsr 1, .jsr 2000, .invokestatic 1615932, .freturn]
def ps_262 : List Nat := [0, 1, 2, 3, 6, 9]
theorem ck_262 : xChkM 12 false (some .boolean) prog_14_method_63_code cd_262 ps_262 = true := by decide +kernel
/-- LastCloudModel.fast(I)I -/
def cd_263 : List Instr := [.iload 1, .invokestatic 2103924, .ifCond .eq 7, .aload 0, .iload 1, .invokevirtual 2088968, .goto 8, .iconst (-2), .ireturn]
def ps_263 : List Nat := [0, 1, 4, 7, 8, 9, 12, 15, 17]
theorem ck_263 : xChkM 12 false (some .int) prog_14_method_64_code cd_263 ps_263 = true := by decide +kernel
/-- LastCloudModel.average(I)I -/
def cd_264 : List Instr := [.iload 1, .invokestatic 2103924, .ifCond .ne 5, .iconst (-2), .ireturn, .aload 0, .iload 1, .invokevirtual 2088968, .istore 2, .iload 2, .iconst (-1), .if_icmp .ne 14, .iconst (-1), .goto 39, 
  .iconst 10, .aload 0, .getfield 12012, .iconst 144, .iconst 2, .iload 2, .imul, .iadd, .iaload, .imul, .iload 1, .imul, .iload 1, .aload 0, .getfield 12012, .iconst 144, .iconst 2, .iload 2, .imul, 
  .iadd, .iconst 1, .iadd, .iaload, .iadd, .idiv, .ireturn]
def ps_264 : List Nat := [0, 1, 4, 7, 9, 10, 11, 12, 15, 16, 17, 18, 21, 22, 25, 27, 28, 31, 34, 35, 36, 37, 38, 39, 40, 41, 42, 43, 44, 47, 50, 51, 52, 53, 54, 55, 56, 57, 58, 59]
theorem ck_264 : xChkM 12 false (some .int) prog_14_method_65_code cd_264 ps_264 = true := by decide +kernel
/-- LastCloudModel.farthest()I -/
def cd_265 : List Instr := [.iconst (-1), .istore 1, .iconst 0, .istore 2, .iload 2, .aload 0, .getfield 12012, .iconst 3, .iaload, .if_icmp .ge 53, .iconst 144, .iconst 2, .iload 2, .imul, .iadd, .istore 3, .iconst 144, 
  .iconst 2, .iload 1, .imul, .iadd, .istore 4, .iload 1, .iconst (-1), .if_icmp .eq 49, .aload 0, .getfield 12012, .iload 3, .iaload, .aload 0, .getfield 12012, .iload 4, .iconst 1, .iadd, .iaload, 
  .imul, .aload 0, .getfield 12012, .iload 4, .iaload, .aload 0, .getfield 12012, .iload 3, .iconst 1, .iadd, .iaload, .imul, .if_icmp .gt 49, .goto 51, .iload 2, .istore 1, .iinc 2 1, .goto 4, .iload 1, 
  .ireturn]
def ps_265 : List Nat := [0, 1, 2, 3, 4, 5, 6, 9, 10, 11, 14, 17, 18, 19, 20, 21, 22, 25, 26, 27, 28, 29, 31, 32, 33, 36, 37, 40, 41, 42, 43, 46, 48, 49, 50, 51, 52, 53, 56, 58, 59, 60, 63, 64, 65, 66, 67, 68, 71, 74, 75, 76, 
  79, 82, 83]
theorem ck_265 : xChkM 12 false (some .int) prog_14_method_66_code cd_265 ps_265 = true := by decide +kernel
/-- LastCloudModel.forgets()V -/
def cd_266 : List Instr := [.aload 0, .iconst (-1), .putfield 12290, .aload 0, .iconst 0, .putfield 12223, .iconst 0, .istore 1, .iload 1, .iconst 976, .if_icmp .ge 18, .aload 0, .getfield 12242, .iload 1, .iconst (-1), .iastore, 
  .iinc 1 1, .goto 8, .return_]
def ps_266 : List Nat := [0, 1, 2, 5, 6, 7, 10, 11, 12, 13, 16, 19, 20, 23, 24, 25, 26, 29, 32]
theorem ck_266 : xChkM 12 false none prog_14_method_67_code cd_266 ps_266 = true := by decide +kernel
/-- LastCloudModel.state(IIIII)I -/
def cd_267 : List Instr := [.iconst 61, .iload 0, .imul, .iload 1, .iadd, .iconst 48, .imul, .iload 2, .iadd, .iconst 4, .imul, .iconst 2, .iload 3, .imul, .iadd, .iload 4, .iadd, .ireturn]
def ps_267 : List Nat := [0, 2, 3, 4, 5, 6, 8, 9, 10, 11, 12, 13, 14, 15, 16, 17, 19, 20]
theorem ck_267 : xChkM 12 false (some .int) prog_14_method_68_code cd_267 ps_267 = true := by decide +kernel
/-- LastCloudModel.landingOf(II)I -/
def cd_268 : List Instr := [.aload 0, .iload 1, .iconst 1, .invokevirtual 1664972, .istore 3, .iload 3, .iconst 2, .if_icmp .ne 13, .aload 0, .getfield 12012, .iconst 9, .iaload, .goto 17, .aload 0, .iload 1, .iconst 2, 
  .invokevirtual 1664972, .istore 4, .iload 3, .ifCond .ne 26, .aload 0, .getfield 12012, .iconst 11, .iaload, .ineg, .goto 34, .iload 4, .aload 0, .getfield 12012, .iconst 10, .iaload, .iload 2, .imul, 
  .isub, .ireturn]
def ps_268 : List Nat := [0, 1, 2, 3, 6, 7, 8, 9, 12, 13, 16, 18, 19, 22, 23, 24, 25, 28, 30, 31, 34, 35, 38, 40, 41, 42, 45, 47, 48, 51, 53, 54, 55, 56, 57]
theorem ck_268 : xChkM 12 false (some .int) prog_14_method_69_code cd_268 ps_268 = true := by decide +kernel
/-- LastCloudModel.higher(III)I -/
def cd_269 : List Instr := [.aload 0, .getfield 12012, .iconst 7, .iaload, .iload 2, .aload 0, .iload 1, .iload 3, .iconst 1, .if_icmp .ne 12, .iconst 1, .goto 13, .iconst 0, .invokevirtual 1928972, .iadd, .dsub, .ireturn]
def ps_269 : List Nat := [0, 1, 4, 6, 7, 8, 9, 10, 11, 12, 15, 16, 19, 20, 23, 24, 27]
theorem ck_269 : xChkM 12 false (some .int) prog_14_method_70_code cd_269 ps_269 = true := by decide +kernel
