/-- LastCloud.soonest(I)I -/
def cd_189 : List Instr := [.aload 0, .getfield 11052, .invokevirtual 944804, .ifCond .eq 11, .iload 1, .ifCond .lt 11, .iload 1, .aload 0, .getfield 11052, .invokevirtual 968804, .if_icmp .le 13, .iconst (-2), .ireturn, 
  .aload 0, .getfield 11142, .aload 0, .getfield 11052, .aload 0, .getfield 11092, .iload 1, .invokevirtual 792656, .ireturn]
def ps_189 : List Nat := [0, 1, 4, 7, 10, 11, 14, 15, 16, 19, 22, 25, 27, 28, 29, 32, 33, 36, 37, 40, 41, 44]
theorem ck_189 : xChkM 11 false (some .int) prog_1_method_58_code cd_189 ps_189 = true := by decide +kernel
/-- LastCloud.key()I -/
def cd_190 : List Instr := [.aload 0, .getfield 11052, .invokevirtual 944804, .ifCond .ne 6, .iconst (-2), .ireturn, .aload 0, .getfield 11052, .invokevirtual 968804, .istore 1, .aload 0, .getfield 11142, .aload 0, 
  .getfield 11052, .aload 0, .getfield 11092, .iload 1, .invokevirtual 792656, .istore 2, .iload 2, .iconst (-1), .if_icmp .ne 24, .iconst (-1), .ireturn, .iconst (-1), .istore 3, .iconst 0, .istore 4, 
  .iload 4, .aload 0, .getfield 11052, .getfield 10040, .if_icmp .ge 64, .aload 0, .getfield 11142, .aload 0, .getfield 11052, .aload 0, .getfield 11092, .iload 1, .iconst 1, .iload 4, .ishl, 
  .iconst (-1), .ixor, .iand, .invokevirtual 792656, .istore 5, .iload 5, .iconst (-1), .if_icmp .ne 53, .iconst 1000000, .goto 54, .iload 5, .istore 6, .iload 6, .iload 2, .if_icmp .le 62, .iload 6, 
  .istore 2, .iload 4, .istore 3, .iinc 4 1, .goto 28, .iload 3, .ireturn]
def ps_190 : List Nat := [0, 1, 4, 7, 10, 12, 13, 14, 17, 20, 21, 22, 25, 26, 29, 30, 33, 34, 37, 38, 39, 40, 43, 44, 45, 46, 47, 48, 50, 52, 53, 56, 59, 62, 63, 66, 67, 70, 71, 74, 75, 76, 78, 79, 80, 81, 82, 85, 87, 89, 90, 
  93, 95, 98, 100, 102, 104, 105, 108, 110, 111, 113, 114, 117, 120, 121]
theorem ck_190 : xChkM 11 false (some .int) prog_1_method_59_code cd_190 ps_190 = true := by decide +kernel
/-- LastCloud.count(I)I -/
def cd_191 : List Instr := [.iload 1, .tableswitch 47 0 10 #[2, 6, 10, 15, 20, 24, 29, 33, 36, 40, 44], .aload 0, .getfield 11052, .getfield 10040, .ireturn, .aload 0, .getfield 11052, .getfield 10050, .ireturn, .aload 0, 
  .getfield 11052, .invokevirtual 976804, .invokestatic 2663924, .ireturn, .aload 0, .getfield 11052, .getfield 10022, .getfield 6000, .ireturn, .aload 0, .getfield 11052, .getfield 10060, .ireturn, 
  .aload 0, .getfield 11052, .getfield 10032, .getfield 9000, .ireturn, .aload 0, .getfield 11052, .getfield 10150, .ireturn, .aload 0, .getfield 11010, .ireturn, .aload 0, .getfield 11052, 
  .getfield 10100, .ireturn, .aload 0, .getfield 11052, .getfield 10090, .ireturn, .aload 0, .invokevirtual 1536884, .ireturn, .iconst (-1), .ireturn]
def ps_191 : List Nat := [0, 1, 60, 61, 64, 67, 68, 69, 72, 75, 76, 77, 80, 83, 86, 87, 88, 91, 94, 97, 98, 99, 102, 105, 106, 107, 110, 113, 116, 117, 118, 121, 124, 125, 126, 129, 130, 131, 134, 137, 138, 139, 142, 145, 146, 
  147, 150, 151, 152]
theorem ck_191 : xChkM 11 false (some .int) prog_1_method_60_code cd_191 ps_191 = true := by decide +kernel
/-- LastCloud.slotsWithRow()I -/
def cd_192 : List Instr := [.iconst 0, .istore 1, .iconst 0, .istore 2, .iload 2, .iconst 4, .if_icmp .ge 16, .aload 0, .getfield 11162, .iload 2, .iaload, .iconst (-1), .if_icmp .eq 14, .iinc 1 1, .iinc 2 1, .goto 4, .iload 1, 
  .ireturn]
def ps_192 : List Nat := [0, 1, 2, 3, 4, 5, 6, 9, 10, 13, 14, 15, 16, 19, 22, 25, 28, 29]
theorem ck_192 : xChkM 11 false (some .int) prog_1_method_61_code cd_192 ps_192 = true := by decide +kernel
/-- LastCloud.keep(I)I -/
def cd_193 : List Instr := [.iload 1, .ifCond .lt 5, .iload 1, .iconst 3, .if_icmp .lt 7, .iconst (-2), .ireturn, .aload 0, .getfield 11072, .iload 1, .aaload, .aload 0, .getfield 11052, .invokevirtual 896811, .aload 0, 
  .getfield 11082, .iload 1, .iconst 1, .castore, .iconst 0, .ireturn]
def ps_193 : List Nat := [0, 1, 4, 5, 6, 9, 11, 12, 13, 16, 17, 18, 19, 22, 25, 26, 29, 30, 31, 32, 33]
theorem ck_193 : xChkM 11 false (some .int) prog_1_method_62_code cd_193 ps_193 = true := by decide +kernel
/-- LastCloud.back(I)I -/
def cd_194 : List Instr := [.iload 1, .ifCond .lt 5, .iload 1, .iconst 3, .if_icmp .lt 7, .iconst (-2), .ireturn, .aload 0, .getfield 11082, .iload 1, .caload, .ifCond .ne 14, .iconst (-6), .ireturn, .aload 0, .getfield 11052, 
  .aload 0, .getfield 11072, .iload 1, .aaload, .invokevirtual 896811, .aload 0, .getfield 11092, .aload 0, .getfield 11052, .invokevirtual 136091, .aload 0, .invokevirtual 1104887, .iconst 0, .ireturn]
def ps_194 : List Nat := [0, 1, 4, 5, 6, 9, 11, 12, 13, 16, 17, 18, 21, 23, 24, 25, 28, 29, 32, 33, 34, 37, 38, 41, 42, 45, 48, 49, 52, 53]
theorem ck_194 : xChkM 11 false (some .int) prog_1_method_63_code cd_194 ps_194 = true := by decide +kernel
/-- LastCloud.isSlot(I)Z -/
def cd_195 : List Instr := [.iload 0, .ifCond .lt 7, .iload 0, .iconst 4, .if_icmp .ge 7, .iconst 1, .goto 8, .iconst 0, .freturn]
def ps_195 : List Nat := [0, 1, 4, 5, 6, 9, 10, 13, 14]
theorem ck_195 : xChkM 11 false (some .boolean) prog_1_method_64_code cd_195 ps_195 = true := by decide +kernel
/-- LastCloud.row(III)I -/
def cd_196 : List Instr := [.iload 1, .invokestatic 1567924, .ifCond .eq 11, .iload 2, .ifCond .lt 11, .iload 2, .iconst 3, .if_icmp .gt 11, .iload 3, .iconst 60, .if_icmp .le 13, .iconst (-2), .ireturn, .iload 3, .ifCond .ge 17, 
  .iconst (-3), .ireturn, .aload 0, .getfield 11152, .iload 1, .aaload, .jsr 0, .invokestatic 2671931, .aload 0, .getfield 11162, .iload 1, .iload 3, .iastore, .aload 0, .getfield 11172, .iload 1, 
  .iload 2, .iastore, .iconst 0, .ireturn]
def ps_196 : List Nat := [0, 1, 4, 7, 8, 11, 12, 13, 16, 17, 19, 22, 24, 25, 26, 29, 31, 32, 33, 36, 37, 38, 39, 42, 43, 46, 47, 48, 49, 50, 53, 54, 55, 56, 57]
theorem ck_196 : xChkM 11 false (some .int) prog_1_method_65_code cd_196 ps_196 = true := by decide +kernel
/-- LastCloud.write(IIJ)I -/
def cd_197 : List Instr := [.iload 1, .invokestatic 1567924, .ifCond .ne 5, .iconst (-2), .ireturn, .aload 0, .getfield 11162, .iload 1, .iaload, .iconst (-1), .if_icmp .ne 13, .iconst (-6), .ireturn, .iload 2, .ifCond .lt 21, 
  .iload 2, .aload 0, .getfield 11162, .iload 1, .iaload, .if_icmp .lt 23, .iconst (-7), .ireturn, .aload 0, .getfield 11152, .iload 1, .aaload, .iload 2, .aload 0, .getfield 11172, .iload 1, .iaload, 
  .lload 3, .invokestatic 1591929, .lastore, .iconst 0, .ireturn]
def ps_197 : List Nat := [0, 1, 4, 7, 9, 10, 11, 14, 15, 16, 17, 20, 22, 23, 24, 27, 28, 29, 32, 33, 34, 37, 39, 40, 41, 44, 45, 46, 47, 48, 51, 52, 53, 54, 57, 58, 59]
theorem ck_197 : xChkM 11 false (some .int) prog_1_method_66_code cd_197 ps_197 = true := by decide +kernel
/-- LastCloud.cutTo(IJ)J -/
def cd_198 : List Instr := [.iload 0, .tableswitch 16 0 2 #[2, 7, 12], .lload 1, .l2i, .i2b, .i2l, .lreturn, .lload 1, .l2i, .i2s, .i2l, .lreturn, .lload 1, .l2i, .i2l, .lreturn, .lload 1, .lreturn]
def ps_198 : List Nat := [0, 1, 28, 29, 30, 31, 32, 33, 34, 35, 36, 37, 38, 39, 40, 41, 42, 43]
theorem ck_198 : xChkM 11 false (some .long) prog_1_method_67_code cd_198 ps_198 = true := by decide +kernel
/-- LastCloud.paste(IIIII)I -/
def cd_199 : List Instr := [.iload 1, .invokestatic 1567924, .ifCond .eq 6, .iload 3, .invokestatic 1567924, .ifCond .ne 8, .iconst (-2), .ireturn, .aload 0, .getfield 11162, .iload 1, .iaload, .iconst (-1), .if_icmp .eq 20, 
  .aload 0, .getfield 11162, .iload 3, .iaload, .iconst (-1), .if_icmp .ne 22, .iconst (-6), .ireturn, .aload 0, .getfield 11172, .iload 1, .iaload, .aload 0, .getfield 11172, .iload 3, .iaload, 
  .if_icmp .eq 33, .iconst (-8), .ireturn, .iload 2, .iload 5, .aload 0, .getfield 11162, .iload 1, .iaload, .invokestatic 1607932, .ifCond .eq 49, .iload 4, .iload 5, .aload 0, .getfield 11162, 
  .iload 3, .iaload, .invokestatic 1607932, .ifCond .ne 51, .iconst (-7), .ireturn, .aload 0, .getfield 11152, .iload 1, .aaload, .iload 2, .aload 0, .getfield 11152, .iload 3, .aaload, .iload 4, 
  .iload 5, .ddiv, .iconst 0, .ireturn]
def ps_199 : List Nat := [0, 1, 4, 7, 8, 11, 14, 16, 17, 18, 21, 22, 23, 24, 27, 28, 31, 32, 33, 34, 37, 39, 40, 41, 44, 45, 46, 47, 50, 51, 52, 55, 57, 58, 59, 61, 62, 65, 66, 67, 70, 73, 75, 77, 78, 81, 82, 83, 86, 89, 91, 
  92, 93, 96, 97, 98, 99, 100, 103, 104, 105, 107, 109, 112, 113]
theorem ck_199 : xChkM 11 false (some .int) prog_1_method_68_code cd_199 ps_199 = true := by decide +kernel
/-- LastCloud.isPart(III)Z -/
def cd_200 : List Instr := [.iload 0, .ifCond .lt 14, .iload 1, .ifCond .lt 14, .iload 0, .iload 2, .if_icmp .gt 14, .iload 1, .iload 2, .iload 0, .isub, .if_icmp .gt 14, .iconst 1, .goto 15, .iconst 0, .freturn]
def ps_200 : List Nat := [0, 1, 4, 5, 8, 9, 10, 13, 14, 15, 16, 17, 20, 21, 24, 25]
theorem ck_200 : xChkM 11 false (some .boolean) prog_1_method_69_code cd_200 ps_200 = true := by decide +kernel
/-- LastCloudModel.in(JJJ)Z -/
def cd_201 : List Instr := [.lload 0, .lload 2, .lcmp, .ifCond .lt 10, .lload 0, .lload 4, .lcmp, .ifCond .gt 10, .iconst 1, .goto 11, .iconst 0, .freturn]
def ps_201 : List Nat := [0, 1, 2, 3, 6, 7, 9, 10, 13, 14, 17, 18]
theorem ck_201 : xChkM 12 false (some .boolean) prog_14_method_2_code cd_201 ps_201 = true := by decide +kernel
/-- LastCloudModel.holds(II)Z -/
def cd_202 : List Instr := [.iload 0, .iload 1, .ishr, .iconst 1, .iand, .iconst 1, .if_icmp .ne 9, .iconst 1, .goto 10, .iconst 0, .freturn]
def ps_202 : List Nat := [0, 1, 2, 3, 4, 5, 6, 9, 10, 13, 14]
theorem ck_202 : xChkM 12 false (some .boolean) prog_14_method_3_code cd_202 ps_202 = true := by decide +kernel
/-- LastCloudModel.<init>()V -/
def cd_203 : List Instr := [.aload 0, .dneg, .aload 0, .iconst 196, .newarray .int, .putfield 12012, .aload 0, .iconst 588, .newarray .int, .putfield 12022, .aload 0, .iconst 3, .newarray .boolean, .putfield 12032, .aload 0, 
  .iconst 1600, .newarray .byte, .putfield 12042, .aload 0, .iconst 5, .newarray .int, .putfield 12062, .aload 0, .iconst (-1), .putfield 12130, .aload 0, .iconst 196, .newarray .int, .putfield 12142, 
  .aload 0, .iconst (-1), .putfield 12160, .aload 0, .iconst (-1), .putfield 12180, .aload 0, .iconst 16, .newarray .int, .putfield 12202, .aload 0, .iconst 4800, .newarray .int, .putfield 12212, 
  .aload 0, .iconst 8, .newarray .int, .putfield 12232, .aload 0, .iconst 976, .newarray .int, .putfield 12242, .aload 0, .iconst 2048, .newarray .boolean, .putfield 12252, .aload 0, .iconst 93696, 
  .newarray .int, .putfield 12262, .aload 0, .iconst 93696, .newarray .int, .putfield 12272, .aload 0, .iconst 93696, .newarray .int, .putfield 12282, .aload 0, .iconst (-1), .putfield 12290, .aload 0, 
  .iconst 8, .newarray .int, .putfield 12302, .aload 0, .iconst 93696, .newarray .int, .putfield 12312, .aload 0, .iconst 505, .newarray .int, .putfield 12392, .aload 0, .iconst 505, .newarray .int, 
  .putfield 12412, .aload 0, .iconst 5, .newarray .int, .dup, .iconst 0, .iconst (-1), .iastore, .dup, .iconst 1, .iconst (-1), .iastore, .dup, .iconst 2, .iconst (-1), .iastore, .dup, .iconst 3, 
  .iconst (-1), .iastore, .dup, .iconst 4, .iconst (-1), .iastore, .putfield 12422, .aload 0, .iconst 5, .newarray .int, .putfield 12452, .aload 0, .iconst 3904, .newarray .int, .putfield 12462, 
  .aload 0, .iconst 8, .newarray .int, .putfield 12472, .aload 0, .iconst 4, .newarray .int, .dup, .iconst 0, .iconst (-1), .iastore, .dup, .iconst 1, .iconst (-1), .iastore, .dup, .iconst 2, 
  .iconst (-1), .iastore, .dup, .iconst 3, .iconst (-1), .iastore, .putfield 12492, .aload 0, .iconst 4, .newarray .int, .putfield 12502, .aload 0, .iconst 240, .newarray .long, .putfield 12512, 
  .aload 0, .iconst 60, .newarray .long, .putfield 12522, .aload 0, .getfield 12012, .invokestatic 1639927, .aload 0, .invokevirtual 2128967, .return_]
def ps_203 : List Nat := [0, 1, 4, 5, 8, 10, 13, 14, 17, 19, 22, 23, 24, 26, 29, 30, 33, 35, 38, 39, 40, 42, 45, 46, 47, 50, 51, 54, 56, 59, 60, 61, 64, 65, 66, 69, 70, 72, 74, 77, 78, 81, 83, 86, 87, 89, 91, 94, 95, 98, 100, 
  103, 104, 107, 109, 112, 113, 115, 117, 120, 121, 123, 125, 128, 129, 131, 133, 136, 137, 138, 141, 142, 144, 146, 149, 150, 152, 154, 157, 158, 161, 163, 166, 167, 170, 172, 175, 176, 177, 179, 180, 
  181, 182, 183, 184, 185, 186, 187, 188, 189, 190, 191, 192, 193, 194, 195, 196, 197, 198, 199, 202, 203, 204, 206, 209, 210, 213, 215, 218, 219, 221, 223, 226, 227, 228, 230, 231, 232, 233, 234, 235, 
  236, 237, 238, 239, 240, 241, 242, 243, 244, 245, 246, 249, 250, 251, 253, 256, 257, 260, 262, 265, 266, 268, 270, 273, 274, 277, 280, 281, 284]
theorem ck_203 : xChkM 12 true none prog_14_method_4_code cd_203 ps_203 = true := by decide +kernel
/-- LastCloudModel.empties([I)V -/
def cd_204 : List Instr := [.iconst 0, .istore 1, .iload 1, .iconst 196, .if_icmp .ge 11, .aload 0, .iload 1, .iconst 0, .iastore, .iinc 1 1, .goto 2, .aload 0, .iconst 7, .iconst 40, .iastore, .aload 0, .iconst 8, .iconst 40, 
  .iastore, .aload 0, .iconst 9, .iconst 1000, .iastore, .aload 0, .iconst 12, .iconst (-1), .iastore, .return_]
def ps_204 : List Nat := [0, 1, 2, 3, 6, 9, 10, 11, 12, 13, 16, 19, 20, 22, 24, 25, 26, 28, 30, 31, 32, 34, 37, 38, 39, 41, 42, 43]
theorem ck_204 : xChkM 12 false none prog_14_method_5_code cd_204 ps_204 = true := by decide +kernel
/-- LastCloudModel.keep(I)I -/
def cd_205 : List Instr := [.iload 1, .i2l, .jsr 0, .jsr 2, .invokestatic 1615932, .ifCond .ne 8, .iconst (-2), .ireturn, .iconst 0, .istore 2, .iload 2, .iconst 196, .if_icmp .ge 27, .aload 0, .getfield 12022, .iconst 196, 
  .iload 1, .imul, .iload 2, .iadd, .aload 0, .getfield 12012, .iload 2, .iaload, .iastore, .iinc 2 1, .goto 10, .aload 0, .getfield 12032, .iload 1, .iconst 1, .castore, .iconst 0, .ireturn]
def ps_205 : List Nat := [0, 1, 2, 3, 6, 9, 12, 14, 15, 16, 17, 18, 21, 24, 25, 28, 31, 32, 33, 34, 35, 36, 39, 40, 41, 42, 45, 48, 49, 52, 53, 54, 55, 56]
theorem ck_205 : xChkM 12 false (some .int) prog_14_method_6_code cd_205 ps_205 = true := by decide +kernel
/-- LastCloudModel.back(I)I -/
def cd_206 : List Instr := [.iload 1, .i2l, .jsr 0, .jsr 2, .invokestatic 1615932, .ifCond .ne 8, .iconst (-2), .ireturn, .aload 0, .getfield 12032, .iload 1, .caload, .ifCond .ne 15, .iconst (-6), .ireturn, .iconst 0, .istore 2, 
  .iload 2, .iconst 196, .if_icmp .ge 34, .aload 0, .getfield 12012, .iload 2, .aload 0, .getfield 12022, .iconst 196, .iload 1, .imul, .iload 2, .iadd, .iaload, .iastore, .iinc 2 1, .goto 17, .aload 0, 
  .invokevirtual 2128967, .iconst 0, .ireturn]
def ps_206 : List Nat := [0, 1, 2, 3, 6, 9, 12, 14, 15, 16, 19, 20, 21, 24, 26, 27, 28, 29, 30, 33, 36, 37, 40, 41, 42, 45, 48, 49, 50, 51, 52, 53, 54, 57, 60, 61, 64, 65]
theorem ck_206 : xChkM 12 false (some .int) prog_14_method_7_code cd_206 ps_206 = true := by decide +kernel
/-- LastCloudModel.isPlace(I)Z -/
def cd_207 : List Instr := [.iload 1, .i2l, .jsr 0, .aload 0, .getfield 12012, .iconst 1, .iaload, .iconst 1, .isub, .i2l, .invokestatic 1615932, .freturn]
def ps_207 : List Nat := [0, 1, 2, 3, 4, 7, 8, 9, 10, 11, 12, 15]
theorem ck_207 : xChkM 12 false (some .boolean) prog_14_method_8_code cd_207 ps_207 = true := by decide +kernel
/-- LastCloudModel.ofPlace(II)I -/
def cd_208 : List Instr := [.aload 0, .getfield 12012, .iconst 20, .iconst 8, .iload 1, .imul, .iadd, .iload 2, .iadd, .iaload, .ireturn]
def ps_208 : List Nat := [0, 1, 4, 6, 8, 9, 10, 11, 12, 13, 14]
theorem ck_208 : xChkM 12 false (some .int) prog_14_method_9_code cd_208 ps_208 = true := by decide +kernel
/-- LastCloudModel.ofLeg(II)I -/
def cd_209 : List Instr := [.aload 0, .getfield 12012, .iconst 84, .iconst 6, .iload 1, .imul, .iadd, .iload 2, .iadd, .iaload, .ireturn]
def ps_209 : List Nat := [0, 1, 4, 6, 8, 9, 10, 11, 12, 13, 14]
theorem ck_209 : xChkM 12 false (some .int) prog_14_method_10_code cd_209 ps_209 = true := by decide +kernel
/-- LastCloudModel.feed(IIIII)I -/
def cd_210 : List Instr := [.aload 0, .getfield 12050, .iconst 20, .iadd, .iconst 1600, .if_icmp .le 8, .iconst (-1), .ireturn, .aload 0, .getfield 12062, .iconst 0, .iload 1, .iastore, .aload 0, .getfield 12062, .iconst 1, 
  .iload 2, .iastore, .aload 0, .getfield 12062, .iconst 2, .iload 3, .iastore, .aload 0, .getfield 12062, .iconst 3, .iload 4, .iastore, .aload 0, .getfield 12062, .iconst 4, .iload 5, .iastore, 
  .iconst 0, .istore 6, .iload 6, .iconst 20, .if_icmp .ge 62, .aload 0, .getfield 12042, .aload 0, .getfield 12050, .iload 6, .iadd, .aload 0, .getfield 12062, .iload 6, .iconst 4, .idiv, .iaload, 
  .iconst 24, .iconst 8, .iload 6, .iconst 4, .irem, .imul, .isub, .ishr, .i2b, .bastore, .iinc 6 1, .goto 35, .aload 0, .dup, .getfield 12050, .iconst 20, .iadd, .putfield 12050, .aload 0, 
  .getfield 12050, .ireturn]
def ps_210 : List Nat := [0, 1, 4, 6, 7, 10, 13, 14, 15, 16, 19, 20, 21, 22, 23, 26, 27, 28, 29, 30, 33, 34, 35, 36, 37, 40, 41, 43, 44, 45, 48, 49, 51, 52, 53, 55, 57, 59, 62, 63, 66, 67, 70, 72, 73, 74, 77, 79, 80, 81, 82, 
  84, 86, 88, 89, 90, 91, 92, 93, 94, 95, 98, 101, 102, 103, 106, 108, 109, 112, 113, 116]
theorem ck_210 : xChkM 12 false (some .int) prog_14_method_11_code cd_210 ps_210 = true := by decide +kernel
/-- LastCloudModel.end(I)I -/
def cd_211 : List Instr := [.iload 1, .i2l, .jsr 0, .aload 0, .getfield 12050, .i2l, .invokestatic 1615932, .ifCond .ne 10, .iconst (-1), .ireturn, .aload 0, .iload 1, .putfield 12050, .iload 1, .ireturn]
def ps_211 : List Nat := [0, 1, 2, 3, 4, 7, 8, 11, 14, 15, 16, 17, 18, 21, 22]
theorem ck_211 : xChkM 12 false (some .int) prog_14_method_12_code cd_211 ps_211 = true := by decide +kernel
/-- LastCloudModel.see(I)I -/
def cd_212 : List Instr := [.iload 1, .aload 0, .getfield 12070, .if_icmp .ge 11, .aload 0, .getfield 12042, .iload 1, .baload, .iconst 255, .iand, .goto 12, .iconst (-1), .ireturn]
def ps_212 : List Nat := [0, 1, 2, 5, 8, 9, 12, 13, 14, 17, 18, 21, 22]
theorem ck_212 : xChkM 12 false (some .int) prog_14_method_13_code cd_212 ps_212 = true := by decide +kernel
/-- LastCloudModel.advance()V -/
def cd_213 : List Instr := [.aload 0, .aload 0, .getfield 12080, .invokevirtual 1696968, .iconst 32, .if_icmp .eq 12, .aload 0, .aload 0, .getfield 12080, .invokevirtual 1696968, .iconst 10, .if_icmp .ne 19, .aload 0, .dup, 
  .getfield 12080, .iconst 1, .iadd, .putfield 12080, .goto 0, .aload 0, .aload 0, .getfield 12080, .putfield 12090, .aload 0, .aload 0, .getfield 12080, .invokevirtual 1696968, .istore 1, .iload 1, 
  .iconst (-1), .if_icmp .ne 35, .aload 0, .iconst 0, .putfield 12100, .goto 119, .iload 1, .i2l, .jsr 97, .jsr 122, .invokestatic 1615932, .ifCond .eq 61, .aload 0, .aload 0, .getfield 12080, 
  .invokevirtual 1696968, .i2l, .jsr 97, .jsr 122, .invokestatic 1615932, .ifCond .eq 57, .aload 0, .dup, .getfield 12080, .iconst 1, .iadd, .putfield 12080, .goto 41, .aload 0, .iconst 1, 
  .putfield 12100, .goto 119, .iload 1, .i2l, .jsr 48, .jsr 57, .invokestatic 1615932, .ifCond .eq 105, .aload 0, .iconst 0, .putfield 12110, .aload 0, .aload 0, .getfield 12080, .invokevirtual 1696968, 
  .i2l, .jsr 48, .jsr 57, .invokestatic 1615932, .ifCond .eq 101, .aload 0, .iconst 99999, .iconst 10, .aload 0, .getfield 12110, .imul, .aload 0, .aload 0, .getfield 12080, .invokevirtual 1696968, 
  .iadd, .iconst 48, .isub, .dsub, .putfield 12110, .aload 0, .dup, .getfield 12080, .iconst 1, .iadd, .putfield 12080, .goto 70, .aload 0, .iconst 2, .putfield 12100, .goto 119, .aload 0, .iload 1, 
  .iconst 59, .if_icmp .ne 111, .iconst 3, .goto 112, .iconst 4, .putfield 12100, .aload 0, .dup, .getfield 12080, .iconst 1, .iadd, .putfield 12080, .return_]
def ps_213 : List Nat := [0, 1, 2, 5, 8, 10, 13, 14, 15, 18, 21, 23, 26, 27, 28, 31, 32, 33, 36, 39, 40, 41, 44, 47, 48, 49, 52, 55, 56, 57, 58, 61, 62, 63, 66, 69, 70, 71, 74, 77, 80, 83, 84, 85, 88, 91, 92, 95, 98, 101, 104, 
  105, 106, 109, 110, 111, 114, 117, 118, 119, 122, 125, 126, 127, 130, 133, 136, 139, 140, 141, 144, 145, 146, 149, 152, 153, 156, 159, 162, 165, 166, 168, 170, 171, 174, 175, 176, 177, 180, 183, 184, 
  186, 187, 190, 193, 194, 195, 198, 199, 200, 203, 206, 207, 208, 211, 214, 215, 216, 218, 221, 222, 225, 226, 229, 230, 231, 234, 235, 236, 239]
theorem ck_213 : xChkM 12 false none prog_14_method_14_code cd_213 ps_213 = true := by decide +kernel
/-- LastCloudModel.good()Z -/
def cd_214 : List Instr := [.aload 0, .getfield 12120, .ifCond .ne 5, .iconst 1, .goto 6, .iconst 0, .freturn]
def ps_214 : List Nat := [0, 1, 4, 7, 8, 11, 12]
theorem ck_214 : xChkM 12 false (some .boolean) prog_14_method_15_code cd_214 ps_214 = true := by decide +kernel
/-- LastCloudModel.errs(I)V -/
def cd_215 : List Instr := [.aload 0, .invokevirtual 1712964, .ifCond .ne 4, .return_, .aload 0, .iload 1, .putfield 12120, .aload 0, .aload 0, .getfield 12090, .putfield 12130, .return_]
def ps_215 : List Nat := [0, 1, 4, 7, 8, 9, 10, 13, 14, 15, 18, 21]
theorem ck_215 : xChkM 12 false none prog_14_method_16_code cd_215 ps_215 = true := by decide +kernel
