/-- LastCloudModel.known(I)I -/
def cd_297 : List Instr := [.aload 0, .iload 1, .invokevirtual 1656968, .ifCond .eq 7, .aload 0, .invokevirtual 2248964, .ifCond .ne 9, .iconst (-2000000000), .ireturn, .aload 0, .iload 1, .invokevirtual 1952968, .istore 2, 
  .aload 0, .iload 1, .iconst 100, .invokevirtual 2360972, .istore 3, .aload 0, .iload 1, .iconst 0, .invokevirtual 2360972, .istore 4, .iload 2, .iload 3, .imul, .iconst 100, .iload 2, .isub, .iload 4, 
  .imul, .iadd, .iconst 100, .idiv, .aload 0, .iconst 0, .aload 0, .invokevirtual 2256964, .invokevirtual 2264972, .isub, .ireturn]
def ps_297 : List Nat := [0, 1, 2, 5, 8, 9, 12, 15, 18, 19, 20, 21, 24, 25, 26, 27, 29, 32, 33, 34, 35, 36, 39, 41, 42, 43, 44, 46, 47, 48, 50, 51, 52, 54, 55, 56, 57, 58, 61, 64, 65]
theorem ck_297 : xChkM 12 false (some .int) prog_14_method_98_code cd_297 ps_297 = true := by decide +kernel
/-- LastCloudModel.hawk(I)I -/
def cd_298 : List Instr := [.aload 0, .iload 1, .invokevirtual 1656968, .ifCond .eq 7, .aload 0, .invokevirtual 2248964, .ifCond .ne 9, .iconst (-2000000000), .ireturn, .aload 0, .iload 1, .invokevirtual 1952968, .istore 2, 
  .iload 2, .aload 0, .iload 1, .iconst 6, .invokevirtual 1664972, .imul, .iconst 100, .iload 2, .isub, .aload 0, .iload 1, .iconst 7, .invokevirtual 1664972, .imul, .iadd, .istore 3, .aload 0, .iload 1, 
  .iload 2, .iconst 1, .iconst 100, .invokevirtual 1944980, .istore 4, .aload 0, .iload 1, .iload 2, .iconst 0, .iconst 100, .invokevirtual 1944980, .istore 5, .aload 0, .iload 1, .iload 4, .iconst (-1), 
  .if_icmp .ne 50, .iload 2, .goto 51, .iload 4, .invokevirtual 2360972, .istore 6, .aload 0, .iload 1, .iload 5, .iconst (-1), .if_icmp .ne 60, .iload 2, .goto 61, .iload 5, .invokevirtual 2360972, 
  .istore 7, .iload 3, .iload 6, .imul, .iconst 10000, .iload 3, .isub, .iload 7, .imul, .iadd, .iconst 10000, .idiv, .aload 0, .iconst 0, .aload 0, .invokevirtual 2256964, .invokevirtual 2264972, .isub, 
  .ireturn]
def ps_298 : List Nat := [0, 1, 2, 5, 8, 9, 12, 15, 18, 19, 20, 21, 24, 25, 26, 27, 28, 30, 33, 34, 36, 37, 38, 39, 40, 42, 45, 46, 47, 48, 49, 50, 51, 52, 54, 57, 59, 60, 61, 62, 63, 65, 68, 70, 71, 72, 74, 75, 78, 79, 82, 84, 
  87, 89, 90, 91, 93, 94, 97, 98, 101, 103, 106, 108, 109, 111, 112, 115, 116, 117, 119, 120, 121, 124, 125, 126, 127, 128, 131, 134, 135]
theorem ck_298 : xChkM 12 false (some .int) prog_14_method_99_code cd_298 ps_298 = true := by decide +kernel
/-- LastCloudModel.water()I -/
def cd_299 : List Instr := [.aload 0, .invokevirtual 2248964, .ifCond .ne 5, .iconst (-2000000000), .ireturn, .aload 0, .getfield 12012, .iconst 6, .iaload, .ifCond .ne 12, .iconst 0, .goto 21, .aload 0, .iconst 0, .iconst 1, 
  .invokevirtual 2264972, .aload 0, .iconst 0, .iconst 0, .invokevirtual 2264972, .isub, .ireturn]
def ps_299 : List Nat := [0, 1, 4, 7, 10, 11, 12, 15, 17, 18, 21, 22, 25, 26, 27, 28, 31, 32, 33, 34, 37, 38]
theorem ck_299 : xChkM 12 false (some .int) prog_14_method_100_code cd_299 ps_299 = true := by decide +kernel
/-- LastCloudModel.drop()I -/
def cd_300 : List Instr := [.aload 0, .invokevirtual 2248964, .ifCond .eq 6, .aload 0, .invokevirtual 2256964, .ifCond .ne 8, .iconst (-1), .ireturn, .aload 0, .iconst 0, .invokevirtual 2192971, .aload 0, .getfield 12012, 
  .iconst 12, .iaload, .istore 1, .aload 0, .getfield 12012, .iconst 13, .iaload, .istore 2, .iconst 0, .istore 3, .aload 0, .getfield 12272, .iload 1, .iload 2, .iload 3, .aload 0, .iload 1, .iconst 3, 
  .invokevirtual 1664972, .iconst 1, .invokestatic 2143940, .iaload, .istore 4, .iload 4, .iconst (-1), .if_icmp .ne 41, .iconst (-1), .ireturn, .iload 4, .iconst 1, .if_icmp .ne 46, .iload 3, .ireturn, 
  .iload 4, .ifCond .ne 56, .aload 0, .iload 1, .iload 2, .iconst 1, .invokevirtual 2152976, .istore 2, .iinc 3 1, .goto 23, .aload 0, .iload 1, .iconst 1, .iload 4, .invokevirtual 2344976, .istore 5, 
  .aload 0, .iload 5, .iload 2, .invokevirtual 2016972, .istore 2, .iload 3, .aload 0, .getfield 12212, .iload 5, .iconst 3, .iadd, .iaload, .iadd, .istore 3, .aload 0, .getfield 12212, .iload 5, 
  .iconst 2, .iadd, .iaload, .istore 1, .goto 23]
def ps_300 : List Nat := [0, 1, 4, 7, 8, 11, 14, 15, 16, 17, 18, 21, 22, 25, 27, 28, 29, 30, 33, 35, 36, 37, 38, 39, 40, 43, 44, 45, 46, 47, 48, 49, 52, 53, 56, 57, 59, 61, 62, 65, 66, 67, 69, 70, 73, 74, 75, 77, 80, 81, 82, 
  83, 84, 87, 88, 91, 94, 95, 96, 97, 99, 102, 104, 105, 107, 108, 111, 112, 113, 114, 117, 119, 120, 121, 122, 123, 124, 125, 128, 130, 131, 132, 133, 134]
theorem ck_300 : xChkM 12 false (some .int) prog_14_method_101_code cd_300 ps_300 = true := by decide +kernel
/-- LastCloudModel.draw(I)I -/
def cd_301 : List Instr := [.aload 0, .jsr 1103515245, .aload 0, .getfield 12321, .lmul, .jsr 12345, .ladd, .jsr 2147483648, .lrem, .putfield 12321, .aload 0, .getfield 12321, .jsr 65536, .ldiv, .iload 1, .i2l, .lrem, .l2i, 
  .ireturn]
def ps_301 : List Nat := [0, 1, 4, 5, 8, 9, 12, 13, 16, 17, 20, 21, 24, 27, 28, 29, 30, 31, 32]
theorem ck_301 : xChkM 12 false (some .int) prog_14_method_102_code cd_301 ps_301 = true := by decide +kernel
/-- LastCloudModel.sets(I)V -/
def cd_302 : List Instr := [.aload 0, .iload 1, .i2l, .putfield 12321, .aload 0, .aload 0, .getfield 12012, .iconst 12, .iaload, .putfield 12330, .aload 0, .aload 0, .getfield 12012, .iconst 13, .iaload, .putfield 12340, 
  .aload 0, .iconst 0, .putfield 12350, .aload 0, .aload 0, .invokevirtual 2256964, .putfield 12370, .aload 0, .aload 0, .iconst 100, .invokevirtual 2408968, .aload 0, .aload 0, .getfield 12330, 
  .invokevirtual 1960968, .if_icmp .ge 34, .iconst 1, .goto 35, .iconst 0, .putfield 12360, .aload 0, .iconst 0, .putfield 12380, .return_]
def ps_302 : List Nat := [0, 1, 2, 3, 6, 7, 8, 11, 13, 14, 17, 18, 19, 22, 24, 25, 28, 29, 30, 33, 34, 35, 38, 41, 42, 43, 45, 48, 49, 50, 53, 56, 59, 60, 63, 64, 67, 68, 69, 72]
theorem ck_302 : xChkM 12 false none prog_14_method_103_code cd_302 ps_302 = true := by decide +kernel
/-- LastCloudModel.does(J)Z -/
def cd_303 : List Instr := [.lload 1, .jsr (-1), .lcmp, .ifCond .ne 6, .iconst 1, .freturn, .lload 1, .jsr 0, .lcmp, .ifCond .ne 46, .aload 0, .aload 0, .getfield 12330, .aload 0, .getfield 12340, .aload 0, .getfield 12370, 
  .invokevirtual 2152976, .istore 3, .aload 0, .getfield 12360, .ifCond .eq 33, .aload 0, .getfield 12350, .aload 0, .getfield 12012, .iconst 8, .iaload, .if_icmp .ge 33, .iload 3, .aload 0, 
  .getfield 12340, .if_icmp .gt 35, .iconst 0, .freturn, .aload 0, .iload 3, .putfield 12340, .aload 0, .dup, .getfield 12350, .iconst 1, .iadd, .putfield 12350, .iconst 1, .freturn, .lload 1, .jsr 1, 
  .lcmp, .ifCond .ne 60, .aload 0, .getfield 12370, .ifCond .ne 55, .iconst 0, .freturn, .aload 0, .iconst 0, .putfield 12370, .iconst 1, .freturn, .lload 1, .jsr 100, .jsr 199, .invokestatic 1615932, 
  .ifCond .eq 74, .aload 0, .aload 0, .getfield 12330, .aload 0, .getfield 12370, .lload 1, .l2i, .invokevirtual 2344976, .goto 75, .iconst (-1), .istore 3, .iload 3, .iconst (-1), .if_icmp .eq 100, 
  .aload 0, .getfield 12350, .aload 0, .getfield 12212, .iload 3, .iconst 3, .iadd, .iaload, .iadd, .aload 0, .getfield 12012, .iconst 8, .iaload, .if_icmp .gt 100, .aload 0, .iload 3, .aload 0, 
  .getfield 12340, .invokevirtual 2016972, .iconst (-1), .if_icmp .ne 102, .iconst 0, .freturn, .aload 0, .aload 0, .iload 3, .aload 0, .getfield 12340, .invokevirtual 2016972, .putfield 12340, .aload 0, 
  .dup, .getfield 12350, .aload 0, .getfield 12212, .iload 3, .iconst 3, .iadd, .iaload, .iadd, .putfield 12350, .aload 0, .aload 0, .getfield 12212, .iload 3, .iconst 2, .iadd, .iaload, .putfield 12330, 
  .aload 0, .aload 0, .iconst 100, .invokevirtual 2408968, .aload 0, .aload 0, .getfield 12330, .invokevirtual 1960968, .if_icmp .ge 139, .iconst 1, .goto 140, .iconst 0, .putfield 12360, .iconst 1, 
  .freturn]
def ps_303 : List Nat := [0, 1, 4, 5, 8, 9, 10, 11, 12, 13, 16, 17, 18, 21, 22, 25, 26, 29, 32, 33, 34, 37, 40, 41, 44, 45, 48, 50, 51, 54, 55, 56, 59, 62, 63, 64, 65, 66, 69, 70, 71, 74, 75, 76, 79, 80, 81, 82, 83, 84, 87, 88, 
  91, 94, 95, 96, 97, 98, 101, 102, 103, 104, 107, 110, 113, 116, 117, 118, 121, 122, 125, 126, 127, 130, 133, 134, 135, 136, 137, 140, 141, 144, 145, 148, 149, 150, 151, 152, 153, 154, 157, 159, 160, 
  163, 164, 165, 166, 169, 172, 173, 176, 177, 178, 179, 180, 181, 182, 185, 188, 191, 192, 193, 196, 197, 200, 201, 202, 203, 204, 205, 208, 209, 210, 213, 214, 215, 216, 217, 220, 221, 222, 224, 227, 
  228, 229, 232, 235, 238, 239, 242, 243, 246, 247]
theorem ck_303 : xChkM 12 false (some .boolean) prog_14_method_104_code cd_303 ps_303 = true := by decide +kernel
/-- LastCloudModel.flies(II)V -/
def cd_304 : List Instr := [.aload 0, .iload 1, .invokevirtual 2192971, .aload 0, .iload 2, .invokevirtual 2416971, .iconst 0, .istore 3, .iload 3, .iconst (-1), .if_icmp .eq 87, .aload 0, .getfield 12380, .iconst 100, 
  .if_icmp .ne 17, .iconst (-1), .goto 31, .aload 0, .getfield 12272, .aload 0, .getfield 12330, .aload 0, .getfield 12340, .aload 0, .getfield 12350, .aload 0, .getfield 12360, .aload 0, 
  .getfield 12370, .invokestatic 2143940, .iaload, .istore 3, .iconst 5, .aload 0, .getfield 12380, .imul, .istore 4, .aload 0, .getfield 12392, .iload 4, .iload 3, .iastore, .aload 0, .getfield 12392, 
  .iload 4, .iconst 1, .iadd, .aload 0, .getfield 12330, .iastore, .aload 0, .getfield 12392, .iload 4, .iconst 2, .iadd, .aload 0, .getfield 12340, .iastore, .aload 0, .getfield 12392, .iload 4, 
  .iconst 3, .iadd, .aload 0, .getfield 12350, .iastore, .aload 0, .getfield 12392, .iload 4, .iconst 4, .iadd, .aload 0, .getfield 12360, .iastore, .aload 0, .dup, .getfield 12380, .iconst 1, .iadd, 
  .putfield 12380, .aload 0, .iload 3, .i2l, .invokevirtual 2424968, .ifCond .ne 86, .return_, .goto 8, .return_]
def ps_304 : List Nat := [0, 1, 2, 5, 6, 7, 10, 11, 12, 13, 14, 17, 18, 21, 23, 26, 27, 30, 31, 34, 35, 38, 39, 42, 43, 46, 47, 50, 51, 54, 57, 58, 59, 60, 61, 64, 65, 67, 68, 71, 73, 74, 75, 76, 79, 81, 82, 83, 84, 87, 88, 89, 
  92, 94, 95, 96, 97, 100, 101, 102, 105, 107, 108, 109, 110, 113, 114, 115, 118, 120, 121, 122, 123, 126, 127, 128, 129, 132, 133, 134, 137, 138, 139, 140, 143, 146, 147, 150]
theorem ck_304 : xChkM 12 false none prog_14_method_105_code cd_304 ps_304 = true := by decide +kernel
/-- LastCloudModel.canFly(II)Z -/
def cd_305 : List Instr := [.iload 1, .invokestatic 2207924, .ifCond .eq 14, .iload 2, .i2l, .jsr 0, .jsr 2000000000, .invokestatic 1615932, .ifCond .eq 14, .aload 0, .invokevirtual 2248964, .ifCond .eq 14, .iconst 1, .goto 15, 
  .iconst 0, .freturn]
def ps_305 : List Nat := [0, 1, 4, 7, 8, 9, 10, 13, 16, 19, 20, 23, 26, 27, 30, 31]
theorem ck_305 : xChkM 12 false (some .boolean) prog_14_method_106_code cd_305 ps_305 = true := by decide +kernel
/-- LastCloudModel.fly(II)I -/
def cd_306 : List Instr := [.aload 0, .iload 1, .iload 2, .invokevirtual 2440972, .ifCond .ne 7, .iconst (-2), .ireturn, .aload 0, .iload 1, .iload 2, .invokevirtual 2432975, .aload 0, .aload 0, .getfield 12380, .putfield 12400, 
  .iconst 0, .istore 3, .iload 3, .iconst 5, .aload 0, .getfield 12380, .imul, .if_icmp .ge 33, .aload 0, .getfield 12412, .iload 3, .aload 0, .getfield 12392, .iload 3, .iaload, .iastore, .iinc 3 1, 
  .goto 17, .aload 0, .getfield 12422, .iconst 0, .aload 0, .getfield 12330, .iastore, .aload 0, .getfield 12422, .iconst 1, .aload 0, .getfield 12340, .iastore, .aload 0, .getfield 12422, .iconst 2, 
  .aload 0, .getfield 12350, .iastore, .aload 0, .getfield 12422, .iconst 3, .aload 0, .aload 0, .getfield 12330, .aload 0, .getfield 12350, .invokevirtual 2144972, .iastore, .aload 0, .getfield 12422, 
  .iconst 4, .aload 0, .aload 0, .getfield 12330, .iconst 1, .invokevirtual 1664972, .iconst 2, .if_icmp .ne 73, .iconst 1, .goto 83, .aload 0, .aload 0, .getfield 12330, .iconst 1, 
  .invokevirtual 1664972, .iconst 1, .if_icmp .ne 82, .iconst 2, .goto 83, .iconst 3, .iastore, .aload 0, .getfield 12380, .ireturn]
def ps_306 : List Nat := [0, 1, 2, 3, 6, 9, 11, 12, 13, 14, 15, 18, 19, 20, 23, 26, 27, 28, 29, 30, 31, 34, 35, 38, 39, 42, 43, 44, 47, 48, 49, 50, 53, 56, 57, 60, 61, 62, 65, 66, 67, 70, 71, 72, 75, 76, 77, 80, 81, 82, 85, 86, 
  87, 90, 91, 92, 93, 96, 97, 100, 103, 104, 105, 108, 109, 110, 111, 114, 115, 118, 119, 122, 123, 126, 127, 128, 131, 132, 135, 136, 139, 140, 143, 144, 145, 146, 149]
theorem ck_306 : xChkM 12 false (some .int) prog_14_method_107_code cd_306 ps_306 = true := by decide +kernel
/-- LastCloudModel.flown(II)I -/
def cd_307 : List Instr := [.iload 1, .i2l, .jsr 0, .aload 0, .getfield 12400, .iconst 1, .isub, .i2l, .invokestatic 1615932, .ifCond .eq 25, .iload 2, .i2l, .jsr 0, .jsr 4, .invokestatic 1615932, .ifCond .eq 25, .aload 0, 
  .getfield 12412, .iconst 5, .iload 1, .imul, .iload 2, .iadd, .iaload, .goto 26, .iconst (-1), .ireturn]
def ps_307 : List Nat := [0, 1, 2, 3, 4, 7, 8, 9, 10, 13, 16, 17, 18, 19, 22, 25, 28, 29, 32, 33, 34, 35, 36, 37, 38, 41, 42]
theorem ck_307 : xChkM 12 false (some .int) prog_14_method_108_code cd_307 ps_307 = true := by decide +kernel
/-- LastCloudModel.landed(I)I -/
def cd_308 : List Instr := [.iload 1, .i2l, .jsr 0, .jsr 4, .invokestatic 1615932, .ifCond .eq 11, .aload 0, .getfield 12422, .iload 1, .iaload, .goto 12, .iconst (-1), .ireturn]
def ps_308 : List Nat := [0, 1, 2, 3, 6, 9, 12, 13, 16, 17, 18, 21, 22]
theorem ck_308 : xChkM 12 false (some .int) prog_14_method_109_code cd_308 ps_308 = true := by decide +kernel
/-- LastCloudModel.judge(II)I -/
def cd_309 : List Instr := [.iload 1, .invokestatic 2623924, .ifCond .eq 12, .iload 2, .i2l, .jsr 0, .jsr 2000000000, .invokestatic 1615932, .ifCond .eq 12, .aload 0, .invokevirtual 2248964, .ifCond .ne 14, .iconst (-2), 
  .ireturn, .aload 0, .getfield 12492, .iload 1, .iaload, .iconst (-1), .if_icmp .ne 22, .iconst (-6), .ireturn, .aload 0, .invokevirtual 2000967, .aload 0, .iload 2, .invokevirtual 2416971, .iconst 0, 
  .istore 3, .iload 3, .aload 0, .getfield 12492, .iload 1, .iaload, .if_icmp .ge 60, .aload 0, .getfield 12512, .iconst 60, .iload 1, .imul, .iload 3, .iadd, .laload, .lstore 4, .aload 0, .lload 4, 
  .invokevirtual 2424968, .ifCond .ne 50, .iload 3, .ireturn, .lload 4, .jsr (-1), .lcmp, .ifCond .ne 58, .iload 3, .iconst 1, .iadd, .ireturn, .iinc 3 1, .goto 29, .aload 0, .getfield 12492, .iload 1, 
  .iaload, .ireturn]
def ps_309 : List Nat := [0, 1, 4, 7, 8, 9, 10, 13, 16, 19, 20, 23, 26, 28, 29, 30, 33, 34, 35, 36, 39, 41, 42, 43, 46, 47, 48, 51, 52, 53, 54, 55, 58, 59, 60, 63, 64, 67, 69, 70, 71, 72, 73, 74, 76, 77, 79, 82, 85, 86, 87, 89, 
  92, 93, 96, 97, 98, 99, 100, 103, 106, 107, 110, 111, 112]
theorem ck_309 : xChkM 12 false (some .int) prog_14_method_110_code cd_309 ps_309 = true := by decide +kernel
/-- LastCloudModel.fliesAll(III)V -/
def cd_310 : List Instr := [.aload 0, .iconst 0, .putfield 12430, .aload 0, .iconst 0, .putfield 12440, .iconst 0, .istore 4, .iload 4, .iconst 5, .if_icmp .ge 18, .aload 0, .getfield 12452, .iload 4, .iconst 0, .iastore, 
  .iinc 4 1, .goto 8, .iconst 0, .istore 4, .iload 4, .iload 3, .if_icmp .ge 123, .aload 0, .iload 1, .iload 2, .iload 4, .iadd, .invokevirtual 2432975, .aload 0, .aload 0, .getfield 12330, .aload 0, 
  .getfield 12350, .invokevirtual 2144972, .istore 5, .aload 0, .dup, .getfield 12430, .aload 0, .aload 0, .getfield 12330, .iconst 1, .invokevirtual 1664972, .iconst 2, .if_icmp .ne 48, .iconst 1, 
  .goto 49, .iconst 0, .iadd, .putfield 12430, .aload 0, .dup, .getfield 12440, .iload 5, .iadd, .putfield 12440, .aload 0, .getfield 12452, .iconst 0, .iload 4, .ifCond .ne 64, .iload 5, .goto 70, 
  .aload 0, .getfield 12452, .iconst 0, .iaload, .iload 5, .dsub, .iastore, .aload 0, .getfield 12452, .iconst 1, .iload 4, .ifCond .ne 78, .iload 5, .goto 84, .aload 0, .getfield 12452, .iconst 1, 
  .iaload, .iload 5, .dadd, .iastore, .aload 0, .getfield 12452, .iconst 2, .dup2, .iaload, .aload 0, .aload 0, .getfield 12330, .iconst 1, .invokevirtual 1664972, .ifCond .ne 98, .iconst 1, .goto 99, 
  .iconst 0, .iadd, .iastore, .aload 0, .getfield 12452, .iconst 3, .dup2, .iaload, .aload 0, .getfield 12350, .iadd, .iastore, .aload 0, .getfield 12452, .iconst 4, .aload 0, .getfield 12452, .iconst 4, 
  .iaload, .aload 0, .getfield 12380, .dadd, .iastore, .iinc 4 1, .goto 20, .return_]
def ps_310 : List Nat := [0, 1, 2, 5, 6, 7, 10, 11, 13, 15, 16, 19, 20, 23, 25, 26, 27, 30, 33, 34, 36, 38, 39, 42, 43, 44, 45, 47, 48, 51, 52, 53, 56, 57, 60, 63, 65, 66, 67, 70, 71, 72, 75, 76, 79, 80, 83, 84, 87, 88, 89, 92, 
  93, 94, 97, 99, 100, 103, 104, 107, 108, 110, 113, 115, 118, 119, 122, 123, 124, 126, 129, 130, 131, 134, 135, 137, 140, 142, 145, 146, 149, 150, 151, 153, 156, 157, 158, 161, 162, 163, 164, 165, 166, 
  169, 170, 173, 176, 177, 180, 181, 182, 183, 184, 187, 188, 189, 190, 191, 194, 195, 196, 197, 200, 201, 202, 205, 206, 207, 208, 211, 214, 215, 218, 221]
theorem ck_310 : xChkM 12 false none prog_14_method_111_code cd_310 ps_310 = true := by decide +kernel
/-- LastCloudModel.canFlyAll(III)Z -/
def cd_311 : List Instr := [.aload 0, .iload 1, .iload 2, .invokevirtual 2440972, .ifCond .eq 13, .iload 3, .i2l, .jsr 1, .jsr 40, .invokestatic 1615932, .ifCond .eq 13, .iconst 1, .goto 14, .iconst 0, .freturn]
def ps_311 : List Nat := [0, 1, 2, 3, 6, 9, 10, 11, 12, 15, 18, 21, 22, 25, 26]
theorem ck_311 : xChkM 12 false (some .boolean) prog_14_method_112_code cd_311 ps_311 = true := by decide +kernel
/-- LastCloudModel.flights(III)I -/
def cd_312 : List Instr := [.aload 0, .iload 1, .iload 2, .iload 3, .invokevirtual 2488976, .ifCond .ne 8, .iconst (-2), .ireturn, .aload 0, .iload 1, .iload 2, .iload 3, .invokevirtual 2480979, .aload 0, .getfield 12430, 
  .ireturn]
def ps_312 : List Nat := [0, 1, 2, 3, 4, 7, 10, 12, 13, 14, 15, 16, 17, 20, 21, 24]
theorem ck_312 : xChkM 12 false (some .int) prog_14_method_113_code cd_312 ps_312 = true := by decide +kernel
/-- LastCloudModel.sum(III)I -/
def cd_313 : List Instr := [.aload 0, .iload 1, .iload 2, .iload 3, .invokevirtual 2488976, .ifCond .ne 8, .iconst (-2000000000), .ireturn, .aload 0, .iload 1, .iload 2, .iload 3, .invokevirtual 2480979, .aload 0, 
  .getfield 12440, .ireturn]
def ps_313 : List Nat := [0, 1, 2, 3, 4, 7, 10, 13, 14, 15, 16, 17, 18, 21, 22, 25]
theorem ck_313 : xChkM 12 false (some .int) prog_14_method_114_code cd_313 ps_313 = true := by decide +kernel
/-- LastCloudModel.spread(IIII)I -/
def cd_314 : List Instr := [.aload 0, .iload 1, .iload 2, .iload 3, .invokevirtual 2488976, .ifCond .eq 12, .iload 4, .i2l, .jsr 0, .jsr 4, .invokestatic 1615932, .ifCond .ne 14, .iconst (-2000000000), .ireturn, .aload 0, 
  .iload 1, .iload 2, .iload 3, .invokevirtual 2480979, .aload 0, .getfield 12452, .iload 4, .iaload, .ireturn]
def ps_314 : List Nat := [0, 1, 2, 3, 4, 7, 10, 12, 13, 14, 17, 20, 23, 26, 27, 28, 29, 30, 31, 34, 35, 38, 40, 41]
theorem ck_314 : xChkM 12 false (some .int) prog_14_method_115_code cd_314 ps_314 = true := by decide +kernel
/-- LastCloudModel.spot(III)I -/
def cd_315 : List Instr := [.iconst 8, .iload 0, .imul, .iload 1, .iadd, .iconst 61, .imul, .iload 2, .iadd, .ireturn]
def ps_315 : List Nat := [0, 2, 3, 4, 5, 6, 8, 9, 10, 11]
theorem ck_315 : xChkM 12 false (some .int) prog_14_method_116_code cd_315 ps_315 = true := by decide +kernel
/-- LastCloudModel.reckons(I)V -/
def cd_316 : List Instr := [.aload 0, .invokevirtual 2000967, .iconst 0, .istore 2, .iconst 0, .istore 3, .iload 3, .iconst 8, .if_icmp .ge 40, .aload 0, .getfield 12472, .iload 3, .aload 0, .getfield 12012, .iconst 15, .iaload, 
  .iload 3, .invokestatic 1623928, .ifCond .eq 23, .iconst 1, .iload 2, .ishl, .goto 24, .iconst 0, .iastore, .iload 2, .aload 0, .getfield 12012, .iconst 15, .iaload, .iload 3, .invokestatic 1623928, 
  .ifCond .eq 35, .iconst 1, .goto 36, .iconst 0, .iadd, .istore 2, .iinc 3 1, .goto 6, .aload 0, .iconst 1, .iload 2, .ishl, .iconst 1, .isub, .putfield 12480, .iconst 0, .istore 3, .iload 3, 
  .iconst 3904, .if_icmp .ge 59, .aload 0, .getfield 12462, .iload 3, .iconst 1000, .iastore, .iinc 3 1, .goto 49, .iconst 0, .istore 3, .iload 3, .aload 0, .getfield 12012, .iconst 8, .iaload, 
  .if_icmp .gt 124, .iconst 0, .istore 4, .iload 4, .aload 0, .getfield 12480, .if_icmp .gt 122, .iconst 0, .istore 5, .iload 5, .aload 0, .getfield 12012, .iconst 1, .iaload, .if_icmp .ge 120, .aload 0, 
  .iload 5, .iconst 0, .invokevirtual 1664972, .istore 6, .iload 6, .aload 0, .getfield 12012, .iconst 7, .iaload, .if_icmp .gt 118, .iload 4, .iload 5, .iload 6, .invokestatic 2527932, .istore 7, 
  .aload 0, .getfield 12462, .iload 7, .iaload, .iconst 1000, .if_icmp .ne 116, .aload 0, .iload 4, .iload 5, .iload 6, .iload 3, .iload 1, .invokevirtual 2536984, .ifCond .eq 116, .aload 0, 
  .getfield 12462, .iload 7, .iload 3, .iastore, .iinc 6 1, .goto 86, .iinc 5 1, .goto 75, .iinc 4 1, .goto 69, .iinc 3 1, .goto 61, .return_]
def ps_316 : List Nat := [0, 1, 4, 5, 6, 7, 8, 9, 11, 14, 15, 18, 19, 20, 23, 25, 26, 27, 30, 33, 34, 35, 36, 39, 40, 41, 42, 43, 46, 48, 49, 50, 53, 56, 57, 60, 61, 62, 63, 66, 69, 70, 71, 72, 73, 74, 75, 78, 79, 80, 81, 84, 
  87, 88, 91, 92, 95, 96, 99, 102, 103, 104, 105, 106, 109, 111, 112, 115, 116, 118, 120, 121, 124, 127, 128, 130, 132, 133, 136, 137, 138, 141, 142, 144, 145, 148, 150, 152, 153, 156, 158, 159, 162, 
  164, 166, 168, 171, 173, 174, 177, 179, 180, 183, 186, 187, 189, 191, 193, 194, 195, 198, 201, 202, 205, 207, 208, 209, 212, 215, 218, 221, 224, 227, 230, 233]
theorem ck_316 : xChkM 12 false none prog_14_method_117_code cd_316 ps_316 = true := by decide +kernel
/-- LastCloudModel.isIn(IIIII)Z -/
def cd_317 : List Instr := [.iload 4, .ifCond .ne 16, .iload 1, .aload 0, .getfield 12480, .if_icmp .ne 14, .aload 0, .iload 2, .iconst 1, .invokevirtual 1664972, .iconst 2, .if_icmp .ne 14, .iconst 1, .goto 15, .iconst 0, 
  .freturn, .aload 0, .iload 1, .iload 2, .iload 3, .iload 4, .iload 5, .invokevirtual 2544984, .ifCond .eq 26, .iconst 1, .freturn, .iconst 2, .iload 2, .imul, .aload 0, .invokevirtual 2256964, .iadd, 
  .istore 6, .iconst 0, .istore 7, .iload 7, .aload 0, .getfield 12202, .iload 6, .iaload, .if_icmp .ge 58, .aload 0, .iload 1, .iconst 300, .iload 6, .imul, .iconst 5, .iload 7, .imul, .iadd, .iload 3, 
  .iload 4, .invokevirtual 2552980, .ifCond .eq 56, .iconst 1, .freturn, .iinc 7 1, .goto 35, .iconst 0, .freturn]
def ps_317 : List Nat := [0, 2, 5, 6, 7, 10, 13, 14, 15, 16, 19, 20, 23, 24, 27, 28, 29, 30, 31, 32, 33, 35, 37, 40, 43, 44, 45, 46, 47, 48, 49, 52, 53, 55, 56, 58, 60, 61, 64, 66, 67, 70, 71, 72, 75, 77, 78, 79, 81, 82, 83, 
  84, 86, 89, 92, 93, 94, 97, 100, 101]
theorem ck_317 : xChkM 12 false (some .boolean) prog_14_method_118_code cd_317 ps_317 = true := by decide +kernel
/-- LastCloudModel.climbsIn(IIIII)Z -/
def cd_318 : List Instr := [.aload 0, .iload 2, .iload 3, .aload 0, .invokevirtual 2256964, .invokevirtual 2152976, .istore 6, .iload 5, .iload 2, .invokestatic 1623928, .ifCond .eq 27, .iload 6, .iload 3, .if_icmp .le 27, 
  .aload 0, .getfield 12462, .iload 1, .iload 2, .iload 6, .invokestatic 2527932, .iaload, .iload 4, .iconst 1, .isub, .if_icmp .ne 27, .iconst 1, .goto 28, .iconst 0, .freturn]
def ps_318 : List Nat := [0, 1, 2, 3, 4, 7, 10, 12, 14, 15, 18, 21, 23, 24, 27, 28, 31, 32, 33, 35, 38, 39, 41, 42, 43, 46, 47, 50, 51]
theorem ck_318 : xChkM 12 false (some .boolean) prog_14_method_119_code cd_318 ps_318 = true := by decide +kernel
/-- LastCloudModel.goesIn(IIII)Z -/
def cd_319 : List Instr := [.aload 0, .getfield 12212, .iload 2, .iconst 3, .iadd, .iaload, .iload 4, .if_icmp .le 10, .iconst 0, .freturn, .aload 0, .iload 2, .iload 3, .invokevirtual 2016972, .istore 5, .iload 5, .iconst (-1), 
  .if_icmp .eq 51, .aload 0, .getfield 12462, .iload 1, .aload 0, .getfield 12472, .aload 0, .getfield 12212, .iload 2, .iconst 2, .iadd, .iaload, .iaload, .ior, .aload 0, .getfield 12212, .iload 2, 
  .iconst 2, .iadd, .iaload, .iload 5, .invokestatic 2527932, .iaload, .iload 4, .aload 0, .getfield 12212, .iload 2, .iconst 3, .iadd, .iaload, .isub, .if_icmp .ne 51, .iconst 1, .goto 52, .iconst 0, 
  .freturn]
def ps_319 : List Nat := [0, 1, 4, 5, 6, 7, 8, 10, 13, 14, 15, 16, 17, 18, 21, 23, 25, 26, 29, 30, 33, 34, 35, 38, 39, 42, 43, 44, 45, 46, 47, 48, 49, 52, 53, 54, 55, 56, 58, 61, 62, 64, 65, 68, 69, 70, 71, 72, 73, 76, 77, 80, 
  81]
theorem ck_319 : xChkM 12 false (some .boolean) prog_14_method_120_code cd_319 ps_319 = true := by decide +kernel
/-- LastCloudModel.liftSet()I -/
def cd_320 : List Instr := [.iconst 0, .istore 1, .iconst 0, .istore 2, .iload 2, .aload 0, .getfield 12012, .iconst 1, .iaload, .if_icmp .ge 26, .iload 1, .aload 0, .iload 2, .iconst 3, .invokevirtual 1664972, .iconst 1, 
  .if_icmp .ne 21, .iconst 1, .iload 2, .ishl, .goto 22, .iconst 0, .ior, .istore 1, .iinc 2 1, .goto 4, .iload 1, .ireturn]
def ps_320 : List Nat := [0, 1, 2, 3, 4, 5, 6, 9, 10, 11, 14, 15, 16, 17, 18, 21, 22, 25, 26, 27, 28, 31, 32, 33, 34, 37, 40, 41]
theorem ck_320 : xChkM 12 false (some .int) prog_14_method_121_code cd_320 ps_320 = true := by decide +kernel
/-- LastCloudModel.soonBy(I)I -/
def cd_321 : List Instr := [.aload 0, .iload 1, .invokevirtual 2528971, .aload 0, .getfield 12462, .aload 0, .getfield 12472, .aload 0, .getfield 12012, .iconst 12, .iaload, .iaload, .aload 0, .getfield 12012, .iconst 12, 
  .iaload, .aload 0, .getfield 12012, .iconst 13, .iaload, .invokestatic 2527932, .iaload, .istore 2, .iload 2, .iconst 1000, .if_icmp .ne 28, .iconst (-1), .goto 29, .iload 2, .ireturn]
def ps_321 : List Nat := [0, 1, 2, 5, 6, 9, 10, 13, 14, 17, 19, 20, 21, 22, 25, 27, 28, 29, 32, 34, 35, 38, 39, 40, 41, 44, 47, 48, 51, 52]
theorem ck_321 : xChkM 12 false (some .int) prog_14_method_122_code cd_321 ps_321 = true := by decide +kernel
/-- LastCloudModel.soon()I -/
def cd_322 : List Instr := [.aload 0, .invokevirtual 2248964, .ifCond .eq 8, .aload 0, .aload 0, .invokevirtual 2560964, .invokevirtual 2568968, .goto 9, .iconst (-2), .ireturn]
def ps_322 : List Nat := [0, 1, 4, 7, 8, 9, 12, 15, 18, 20]
theorem ck_322 : xChkM 12 false (some .int) prog_14_method_123_code cd_322 ps_322 = true := by decide +kernel
/-- LastCloudModel.way(I)I -/
def cd_323 : List Instr := [.aload 0, .invokevirtual 2248964, .ifCond .ne 5, .iconst (-2), .ireturn, .aload 0, .aload 0, .invokevirtual 2560964, .invokevirtual 2568968, .istore 2, .iload 2, .iconst (-1), .if_icmp .eq 15, 
  .iload 1, .ifCond .ge 17, .iconst (-1), .ireturn, .aload 0, .getfield 12012, .iconst 12, .iaload, .istore 3, .aload 0, .getfield 12012, .iconst 13, .iaload, .istore 4, .aload 0, .getfield 12472, 
  .iload 3, .iaload, .istore 5, .iconst 0, .istore 6, .iload 2, .ifCond .le 105, .iload 6, .iload 1, .if_icmp .ge 105, .aload 0, .iload 5, .iload 3, .iload 4, .iload 2, .aload 0, .invokevirtual 2560964, 
  .invokevirtual 2544984, .ifCond .eq 57, .aload 0, .iload 3, .iload 4, .aload 0, .invokevirtual 2256964, .invokevirtual 2152976, .istore 4, .iinc 2 (-1), .goto 34, .iconst 300, .iconst 2, .iload 3, 
  .imul, .aload 0, .invokevirtual 2256964, .iadd, .imul, .istore 7, .aload 0, .iload 5, .iload 7, .iload 4, .iload 2, .invokevirtual 2552980, .ifCond .ne 75, .iinc 7 5, .goto 66, .aload 0, .iload 7, 
  .iload 4, .invokevirtual 2016972, .istore 4, .iload 2, .aload 0, .getfield 12212, .iload 7, .iconst 3, .iadd, .iaload, .isub, .istore 2, .aload 0, .getfield 12212, .iload 7, .iconst 2, .iadd, .iaload, 
  .istore 3, .iload 5, .aload 0, .getfield 12472, .iload 3, .iaload, .ior, .istore 5, .iinc 6 1, .goto 34, .iload 6, .iload 1, .if_icmp .ne 110, .iload 3, .goto 111, .iconst (-1), .ireturn]
def ps_323 : List Nat := [0, 1, 4, 7, 9, 10, 11, 12, 15, 18, 19, 20, 21, 24, 25, 28, 29, 30, 31, 34, 36, 37, 38, 39, 42, 44, 45, 47, 48, 51, 52, 53, 55, 56, 58, 59, 62, 64, 65, 68, 69, 71, 72, 74, 75, 76, 79, 82, 85, 86, 87, 
  89, 90, 93, 96, 98, 101, 104, 107, 108, 109, 110, 111, 114, 115, 116, 118, 119, 121, 123, 125, 126, 129, 132, 135, 138, 139, 141, 143, 146, 148, 149, 150, 153, 155, 156, 157, 158, 159, 160, 161, 164, 
  166, 167, 168, 169, 170, 172, 173, 176, 177, 178, 179, 181, 184, 187, 189, 190, 193, 194, 197, 198]
theorem ck_323 : xChkM 12 false (some .int) prog_14_method_124_code cd_323 ps_323 = true := by decide +kernel
