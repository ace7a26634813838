/-- LastCloud$Flight.<init>()V -/
def cd_0 : List Instr := [.aload 0, .dneg, .aload 0, .iconst 100, .newarray .int, .putfield 2, .aload 0, .iconst 100, .newarray .int, .putfield 12, .aload 0, .iconst 100, .newarray .int, .putfield 22, .aload 0, .iconst 100, 
  .newarray .int, .putfield 32, .aload 0, .iconst 100, .newarray .boolean, .putfield 42, .aload 0, .iconst 8, .newarray .int, .putfield 52, .return_]
def ps_0 : List Nat := [0, 1, 4, 5, 7, 9, 12, 13, 15, 17, 20, 21, 23, 25, 28, 29, 31, 33, 36, 37, 39, 41, 44, 45, 47, 49, 52]
theorem ck_0 : xChkM 0 true none prog_2_method_1_code cd_0 ps_0 = true := by decide +kernel
/-- LastCloud$Flight.begin(LLastCloud$Sky;I)V -/
def cd_1 : List Instr := [.aload 0, .iconst 0, .putfield 93, .aload 0, .iload 2, .i2l, .putfield 81, .aload 0, .aload 1, .invokevirtual 24011, .return_]
def ps_1 : List Nat := [0, 1, 2, 5, 6, 7, 8, 11, 12, 13, 16]
theorem ck_1 : xChkM 0 false none prog_2_method_2_code cd_1 ps_1 = true := by decide +kernel
/-- LastCloud$Flight.beginUnderAllLifts(LLastCloud$Sky;)V -/
def cd_2 : List Instr := [.aload 0, .iconst 1, .putfield 93, .aload 0, .aload 1, .invokevirtual 24011, .return_]
def ps_2 : List Nat := [0, 1, 2, 5, 6, 7, 10]
theorem ck_2 : xChkM 0 false none prog_2_method_3_code cd_2 ps_2 = true := by decide +kernel
/-- LastCloud$Flight.takeOff(LLastCloud$Sky;)V -/
def cd_3 : List Instr := [.aload 0, .aload 1, .putfield 72, .iconst 0, .istore 2, .iload 2, .aload 0, .getfield 72, .getfield 10040, .if_icmp .ge 20, .aload 0, .getfield 52, .iload 2, .aload 0, .getfield 72, .iload 2, 
  .invokevirtual 1032808, .iastore, .iinc 2 1, .goto 5, .aload 0, .iconst 0, .putfield 60, .aload 0, .aload 0, .getfield 72, .getfield 10150, .putfield 100, .aload 0, .aload 0, .getfield 72, 
  .getfield 10160, .putfield 110, .aload 0, .iconst 0, .putfield 120, .aload 0, .aload 0, .getfield 72, .invokevirtual 952804, .putfield 143, .aload 0, .iconst 0, .putfield 153, .aload 0, 
  .invokevirtual 32007, .return_]
def ps_3 : List Nat := [0, 1, 2, 5, 6, 7, 8, 9, 12, 15, 18, 19, 22, 23, 24, 27, 28, 31, 32, 35, 38, 39, 40, 43, 44, 45, 48, 51, 54, 55, 56, 59, 62, 65, 66, 67, 70, 71, 72, 75, 78, 81, 82, 83, 86, 87, 90]
theorem ck_3 : xChkM 0 false none prog_2_method_4_code cd_3 ps_3 = true := by decide +kernel
/-- LastCloud$Flight.meetLift()V -/
def cd_4 : List Instr := [.aload 0, .aload 0, .getfield 90, .ifCond .ne 12, .aload 0, .invokevirtual 40004, .aload 0, .getfield 52, .aload 0, .getfield 100, .iaload, .if_icmp .ge 14, .iconst 1, .goto 15, .iconst 0, 
  .putfield 133, .return_]
def ps_4 : List Nat := [0, 1, 2, 5, 8, 9, 12, 13, 16, 17, 20, 21, 24, 25, 28, 29, 32]
theorem ck_4 : xChkM 0 false none prog_2_method_5_code cd_4 ps_4 = true := by decide +kernel
/-- LastCloud$Flight.drawOfHundred()I -/
def cd_5 : List Instr := [.aload 0, .jsr 1103515245, .aload 0, .getfield 81, .lmul, .jsr 12345, .ladd, .jsr 2147483648, .lrem, .putfield 81, .aload 0, .getfield 81, .jsr 65536, .ldiv, .jsr 100, .lrem, .l2i, .ireturn]
def ps_5 : List Nat := [0, 1, 4, 5, 8, 9, 12, 13, 16, 17, 20, 21, 24, 27, 28, 31, 32, 33]
theorem ck_5 : xChkM 0 false (some .int) prog_2_method_6_code cd_5 ps_5 = true := by decide +kernel
/-- LastCloud$Flight.follow(LLastCloud$Plan;LLastCloud$Sky;I)V -/
def cd_6 : List Instr := [.aload 0, .aload 2, .iload 3, .invokevirtual 8015, .iconst 0, .istore 4, .iload 4, .iconst 100, .if_icmp .ge 26, .aload 0, .getfield 150, .ifCond .ne 26, .aload 0, .aload 1, .invokevirtual 56008, 
  .istore 5, .aload 0, .iload 5, .invokevirtual 64011, .aload 0, .iload 5, .i2l, .invokevirtual 72008, .pop, .iinc 4 1, .goto 6, .aload 0, .aload 0, .getfield 72, .aload 1, .getfield 5120, .aload 0, 
  .getfield 100, .aload 0, .getfield 120, .invokevirtual 1048816, .putfield 170, .aload 0, .getfield 100, .aload 0, .getfield 72, .getfield 10140, .if_icmp .ne 47, .aload 0, .iconst 1, .putfield 160, 
  .goto 58, .aload 0, .aload 0, .getfield 72, .aload 0, .getfield 100, .invokevirtual 960808, .ifCond .eq 56, .iconst 2, .goto 57, .iconst 3, .putfield 160, .return_]
def ps_6 : List Nat := [0, 1, 2, 3, 6, 7, 9, 11, 13, 16, 17, 20, 23, 24, 25, 28, 30, 31, 33, 36, 37, 39, 40, 43, 44, 47, 50, 51, 52, 55, 56, 59, 60, 63, 64, 67, 70, 73, 74, 77, 78, 81, 84, 87, 88, 89, 92, 95, 96, 97, 100, 
  101, 104, 107, 110, 111, 114, 115, 118]
theorem ck_6 : xChkM 0 false none prog_2_method_7_code cd_6 ps_6 = true := by decide +kernel
/-- LastCloud$Flight.deedBy(LLastCloud$Plan;)I -/
def cd_7 : List Instr := [.aload 1, .aload 0, .getfield 120, .aload 0, .getfield 140, .aload 0, .getfield 100, .aload 0, .getfield 110, .invokestatic 375936, .aload 0, .getfield 130, .invokevirtual 448412, .ireturn]
def ps_7 : List Nat := [0, 1, 2, 5, 6, 9, 10, 13, 14, 17, 20, 21, 24, 27]
theorem ck_7 : xChkM 0 false (some .int) prog_2_method_8_code cd_7 ps_7 = true := by decide +kernel
/-- LastCloud$Flight.note(I)V -/
def cd_8 : List Instr := [.aload 0, .getfield 60, .iconst 100, .if_icmp .ge 44, .aload 0, .getfield 2, .aload 0, .getfield 60, .iload 1, .iastore, .aload 0, .getfield 12, .aload 0, .getfield 60, .aload 0, .getfield 100, 
  .iastore, .aload 0, .getfield 22, .aload 0, .getfield 60, .aload 0, .getfield 110, .iastore, .aload 0, .getfield 32, .aload 0, .getfield 60, .aload 0, .getfield 120, .iastore, .aload 0, .getfield 42, 
  .aload 0, .getfield 60, .aload 0, .getfield 130, .castore, .aload 0, .dup, .getfield 60, .iconst 1, .iadd, .putfield 60, .return_]
def ps_8 : List Nat := [0, 1, 4, 6, 9, 10, 13, 14, 17, 18, 19, 20, 23, 24, 27, 28, 31, 32, 33, 36, 37, 40, 41, 44, 45, 46, 49, 50, 53, 54, 57, 58, 59, 62, 63, 66, 67, 70, 71, 72, 73, 76, 77, 78, 81]
theorem ck_8 : xChkM 0 false none prog_2_method_9_code cd_8 ps_8 = true := by decide +kernel
/-- LastCloud$Flight.tryDeed(J)Z -/
def cd_9 : List Instr := [.aload 0, .getfield 150, .ifCond .eq 5, .iconst 0, .freturn, .lload 1, .jsr (-1), .lcmp, .ifCond .ne 14, .aload 0, .iconst 1, .putfield 153, .iconst 1, .freturn, .lload 1, .jsr 0, .lcmp, 
  .ifCond .ne 21, .aload 0, .invokevirtual 80004, .freturn, .lload 1, .jsr 1, .lcmp, .ifCond .ne 33, .aload 0, .getfield 140, .istore 3, .aload 0, .iconst 0, .putfield 143, .iload 3, .freturn, .lload 1, 
  .jsr 100, .lcmp, .ifCond .lt 41, .lload 1, .jsr 200, .lcmp, .ifCond .lt 43, .iconst 0, .freturn, .lload 1, .l2i, .iconst 100, .isub, .istore 3, .aload 0, .iload 3, .iconst 10, .idiv, .iload 3, 
  .iconst 10, .irem, .invokevirtual 88012, .freturn]
def ps_9 : List Nat := [0, 1, 4, 7, 8, 9, 10, 13, 14, 17, 18, 19, 22, 23, 24, 25, 26, 27, 30, 31, 34, 35, 36, 37, 38, 41, 42, 45, 46, 47, 48, 51, 52, 53, 54, 57, 58, 61, 62, 65, 66, 69, 70, 71, 72, 73, 75, 76, 77, 78, 79, 81, 
  82, 83, 85, 86, 89]
theorem ck_9 : xChkM 0 false (some .boolean) prog_2_method_10_code cd_9 ps_9 = true := by decide +kernel
/-- LastCloud$Flight.tryClimb()Z -/
def cd_10 : List Instr := [.aload 0, .getfield 72, .aload 0, .getfield 110, .aload 0, .getfield 72, .aload 0, .getfield 100, .aload 0, .getfield 140, .invokevirtual 1008812, .iadd, .invokevirtual 1024808, .istore 1, .aload 0, 
  .getfield 130, .ifCond .eq 27, .iload 1, .aload 0, .getfield 110, .if_icmp .le 27, .aload 0, .getfield 120, .aload 0, .getfield 72, .getfield 10100, .if_icmp .lt 29, .iconst 0, .freturn, .aload 0, 
  .iload 1, .putfield 110, .aload 0, .dup, .getfield 120, .iconst 1, .iadd, .putfield 120, .iconst 1, .freturn]
def ps_10 : List Nat := [0, 1, 4, 5, 8, 9, 12, 13, 16, 17, 20, 23, 24, 27, 28, 29, 32, 35, 36, 37, 40, 43, 44, 47, 48, 51, 54, 57, 58, 59, 60, 61, 64, 65, 66, 69, 70, 71, 74, 75]
theorem ck_10 : xChkM 0 false (some .boolean) prog_2_method_11_code cd_10 ps_10 = true := by decide +kernel
/-- LastCloud$Flight.tryLeg(II)Z -/
def cd_11 : List Instr := [.aload 0, .getfield 72, .iload 1, .invokevirtual 912808, .ifCond .eq 10, .aload 0, .getfield 72, .iload 2, .invokevirtual 920808, .ifCond .ne 12, .iconst 0, .freturn, .aload 0, .getfield 72, 
  .getfield 10012, .iload 1, .aaload, .astore 3, .aload 3, .getfield 2000, .aload 0, .getfield 100, .if_icmp .eq 30, .aload 3, .getfield 2010, .aload 0, .getfield 100, .if_icmp .eq 30, .iconst 0, 
  .freturn, .aload 3, .getfield 2010, .aload 0, .getfield 100, .if_icmp .ne 37, .iconst 1, .goto 38, .iconst 0, .istore 4, .aload 0, .getfield 72, .iload 1, .iload 4, .iload 2, .aload 0, .getfield 140, 
  .invokevirtual 992820, .istore 5, .iload 5, .iconst (-1), .if_icmp .eq 59, .aload 0, .getfield 120, .iload 5, .iadd, .aload 0, .getfield 72, .getfield 10100, .if_icmp .le 61, .iconst 0, .freturn, 
  .iload 4, .ifCond .eq 66, .aload 3, .getfield 2000, .goto 68, .aload 3, .getfield 2010, .istore 6, .aload 0, .getfield 72, .iload 1, .iload 4, .iload 2, .aload 0, .getfield 140, .invokevirtual 1000820, 
  .istore 7, .aload 0, .getfield 72, .aload 0, .getfield 110, .iload 7, .isub, .invokevirtual 1024808, .istore 8, .aload 0, .getfield 110, .iload 7, .iconst 2, .idiv, .isub, .aload 3, .getfield 2050, 
  .if_icmp .lt 101, .aload 0, .getfield 72, .iload 6, .iload 8, .invokevirtual 928812, .ifCond .ne 103, .iconst 0, .freturn, .aload 0, .iload 6, .putfield 100, .aload 0, .iload 8, .putfield 110, 
  .aload 0, .dup, .getfield 120, .iload 5, .iadd, .putfield 120, .aload 0, .invokevirtual 32007, .iconst 1, .freturn]
def ps_11 : List Nat := [0, 1, 4, 5, 8, 11, 12, 15, 16, 19, 22, 23, 24, 25, 28, 31, 32, 33, 34, 35, 38, 39, 42, 45, 46, 49, 50, 53, 56, 57, 58, 59, 62, 63, 66, 69, 70, 73, 74, 76, 77, 80, 81, 83, 84, 85, 88, 91, 93, 95, 96, 
  99, 100, 103, 105, 106, 107, 110, 113, 116, 117, 118, 120, 123, 124, 127, 130, 131, 134, 136, 137, 140, 141, 143, 144, 145, 148, 151, 153, 154, 157, 158, 161, 163, 164, 167, 169, 170, 173, 175, 176, 
  177, 178, 179, 182, 185, 186, 189, 191, 193, 196, 199, 200, 201, 202, 204, 207, 208, 210, 213, 214, 215, 218, 220, 221, 224, 225, 228, 229]
theorem ck_11 : xChkM 0 false (some .boolean) prog_2_method_12_code cd_11 ps_11 = true := by decide +kernel
/-- LastCloud$Flight.noted(II)I -/
def cd_12 : List Instr := [.iload 1, .ifCond .lt 6, .iload 1, .aload 0, .getfield 60, .if_icmp .lt 8, .iconst (-1), .ireturn, .iload 2, .tableswitch 39 0 4 #[10, 15, 20, 25, 30], .aload 0, .getfield 2, .iload 1, .iaload, 
  .ireturn, .aload 0, .getfield 12, .iload 1, .iaload, .ireturn, .aload 0, .getfield 22, .iload 1, .iaload, .ireturn, .aload 0, .getfield 32, .iload 1, .iaload, .ireturn, .aload 0, .getfield 42, 
  .iload 1, .caload, .ifCond .eq 37, .iconst 1, .goto 38, .iconst 0, .ireturn, .iconst (-1), .ireturn]
def ps_12 : List Nat := [0, 1, 4, 5, 6, 9, 12, 13, 14, 15, 48, 49, 52, 53, 54, 55, 56, 59, 60, 61, 62, 63, 66, 67, 68, 69, 70, 73, 74, 75, 76, 77, 80, 81, 82, 85, 86, 89, 90, 91, 92]
theorem ck_12 : xChkM 0 false (some .int) prog_2_method_13_code cd_12 ps_12 = true := by decide +kernel
/-- LastCloud$Flight.endOf(I)I -/
def cd_13 : List Instr := [.aload 0, .getfield 60, .ifCond .ne 5, .iconst (-1), .ireturn, .iload 1, .tableswitch 22 0 4 #[7, 10, 13, 16, 19], .aload 0, .getfield 100, .ireturn, .aload 0, .getfield 110, .ireturn, .aload 0, 
  .getfield 120, .ireturn, .aload 0, .getfield 170, .ireturn, .aload 0, .getfield 160, .ireturn, .iconst (-1), .ireturn]
def ps_13 : List Nat := [0, 1, 4, 7, 8, 9, 10, 44, 45, 48, 49, 50, 53, 54, 55, 58, 59, 60, 63, 64, 65, 68, 69, 70]
theorem ck_13 : xChkM 0 false (some .int) prog_2_method_14_code cd_13 ps_13 = true := by decide +kernel
/-- LastCloud$Flight.spreadValue(I)I -/
def cd_14 : List Instr := [.iload 1, .tableswitch 16 2 4 #[2, 10, 13], .aload 0, .getfield 160, .iconst 3, .if_icmp .ne 8, .iconst 1, .goto 9, .iconst 0, .ireturn, .aload 0, .getfield 120, .ireturn, .aload 0, .getfield 60, 
  .ireturn, .aload 0, .getfield 170, .ireturn]
def ps_14 : List Nat := [0, 1, 28, 29, 32, 33, 36, 37, 40, 41, 42, 43, 46, 47, 48, 51, 52, 53, 56]
theorem ck_14 : xChkM 0 false (some .int) prog_2_method_15_code cd_14 ps_14 = true := by decide +kernel
/-- LastCloud$Hops.<init>()V -/
def cd_15 : List Instr := [.aload 0, .dneg, .aload 0, .iconst 17, .newarray .int, .putfield 1002, .aload 0, .iconst 240, .newarray .int, .putfield 1012, .aload 0, .iconst 240, .newarray .int, .putfield 1022, .aload 0, 
  .iconst 240, .newarray .int, .putfield 1032, .aload 0, .iconst 240, .newarray .int, .putfield 1042, .aload 0, .iconst 240, .newarray .int, .putfield 1052, .aload 0, .iconst 16, .newarray .int, 
  .putfield 1072, .aload 0, .iconst 8, .newarray .int, .putfield 1082, .aload 0, .iconst 256, .newarray .int, .putfield 1092, .return_]
def ps_15 : List Nat := [0, 1, 4, 5, 7, 9, 12, 13, 16, 18, 21, 22, 25, 27, 30, 31, 34, 36, 39, 40, 43, 45, 48, 49, 52, 54, 57, 58, 60, 62, 65, 66, 68, 70, 73, 74, 77, 79, 82]
theorem ck_15 : xChkM 1 true none prog_3_method_1_code cd_15 ps_15 = true := by decide +kernel
/-- LastCloud$Hops.group(IZ)I -/
def cd_16 : List Instr := [.iload 1, .ifCond .eq 6, .iconst 8, .iload 0, .iadd, .goto 7, .iload 0, .ireturn]
def ps_16 : List Nat := [0, 1, 4, 6, 7, 8, 11, 12]
theorem ck_16 : xChkM 1 false (some .int) prog_3_method_2_code cd_16 ps_16 = true := by decide +kernel
/-- LastCloud$Hops.build(LLastCloud$Sky;)V -/
def cd_17 : List Instr := [.aload 0, .iconst 0, .putfield 1060, .iconst 0, .istore 2, .iload 2, .iconst 16, .if_icmp .ge 34, .aload 0, .getfield 1002, .iload 2, .aload 0, .getfield 1060, .iastore, .iload 2, .iconst 8, .irem, 
  .istore 3, .iload 3, .aload 1, .getfield 10040, .if_icmp .ge 32, .aload 0, .aload 1, .iload 3, .iload 2, .iconst 8, .if_icmp .lt 30, .iconst 1, .goto 31, .iconst 0, .invokevirtual 144099, .iinc 2 1, 
  .goto 5, .aload 0, .getfield 1002, .iconst 16, .aload 0, .getfield 1060, .iastore, .aload 0, .aload 1, .iconst 0, .invokevirtual 184095, .aload 0, .aload 1, .iconst 1, .invokevirtual 184095, .return_]
def ps_17 : List Nat := [0, 1, 2, 5, 6, 7, 8, 10, 13, 14, 17, 18, 19, 22, 23, 24, 26, 27, 28, 29, 30, 33, 36, 37, 38, 39, 40, 42, 45, 46, 49, 50, 53, 56, 59, 60, 63, 65, 66, 69, 70, 71, 72, 73, 76, 77, 78, 79, 82]
theorem ck_17 : xChkM 1 false none prog_3_method_3_code cd_17 ps_17 = true := by decide +kernel
/-- LastCloud$Hops.addFrom(LLastCloud$Sky;IZ)V -/
def cd_18 : List Instr := [.iconst 0, .istore 4, .iload 4, .aload 1, .getfield 10050, .if_icmp .ge 43, .aload 1, .getfield 10012, .iload 4, .aaload, .astore 5, .aload 5, .getfield 2000, .iload 2, .if_icmp .eq 19, .aload 5, 
  .getfield 2010, .iload 2, .if_icmp .ne 41, .iconst 0, .istore 6, .iload 6, .aload 1, .getfield 10022, .getfield 6000, .if_icmp .ge 41, .aload 0, .aload 1, .iload 4, .aload 5, .getfield 2010, .iload 2, 
  .if_icmp .ne 35, .iconst 1, .goto 36, .iconst 0, .iload 6, .iload 3, .invokevirtual 152107, .iinc 6 1, .goto 21, .iinc 4 1, .goto 2, .return_]
def ps_18 : List Nat := [0, 1, 3, 5, 6, 9, 12, 13, 16, 18, 19, 21, 23, 26, 27, 30, 32, 35, 36, 39, 40, 42, 44, 45, 48, 51, 54, 55, 56, 58, 60, 63, 64, 67, 68, 71, 72, 74, 75, 78, 81, 84, 87, 90]
theorem ck_18 : xChkM 1 false none prog_3_method_4_code cd_18 ps_18 = true := by decide +kernel
/-- LastCloud$Hops.add(LLastCloud$Sky;IZIZ)V -/
def cd_19 : List Instr := [.aload 1, .iload 2, .iload 3, .iload 4, .iload 5, .invokevirtual 992820, .istore 6, .iload 6, .iconst (-1), .if_icmp .eq 14, .aload 0, .getfield 1060, .iconst 240, .if_icmp .lt 15, .return_, .aload 1, 
  .getfield 10012, .iload 2, .aaload, .astore 7, .iload 3, .ifCond .eq 25, .aload 7, .getfield 2010, .goto 27, .aload 7, .getfield 2000, .istore 8, .iload 3, .ifCond .eq 33, .aload 7, .getfield 2000, 
  .goto 35, .aload 7, .getfield 2010, .istore 9, .aload 1, .iload 2, .iload 3, .iload 4, .iload 5, .invokevirtual 1000820, .istore 10, .aload 7, .getfield 2050, .iload 10, .iconst 2, .idiv, .iadd, 
  .aload 1, .getfield 10002, .iload 9, .aaload, .getfield 4000, .iload 10, .iadd, .dadd, .istore 11, .aload 0, .getfield 1012, .aload 0, .getfield 1060, .iload 9, .iastore, .aload 0, .getfield 1022, 
  .aload 0, .getfield 1060, .iload 6, .iastore, .aload 0, .getfield 1032, .aload 0, .getfield 1060, .iload 10, .iastore, .aload 0, .getfield 1042, .aload 0, .getfield 1060, .iload 11, .aload 1, 
  .getfield 10002, .iload 8, .aaload, .getfield 4000, .dadd, .iastore, .aload 0, .getfield 1052, .aload 0, .getfield 1060, .iconst 100, .iconst 10, .iload 2, .imul, .iadd, .iload 4, .iadd, .iastore, 
  .aload 0, .dup, .getfield 1060, .iconst 1, .iadd, .putfield 1060, .return_]
def ps_19 : List Nat := [0, 1, 2, 3, 5, 7, 10, 12, 14, 15, 18, 19, 22, 25, 28, 29, 30, 33, 34, 35, 37, 38, 41, 43, 46, 49, 51, 54, 56, 57, 60, 62, 65, 68, 70, 73, 75, 76, 77, 78, 80, 82, 85, 87, 89, 92, 94, 95, 96, 97, 98, 
  101, 103, 104, 107, 109, 110, 113, 115, 116, 119, 120, 123, 125, 126, 127, 130, 131, 134, 136, 137, 138, 141, 142, 145, 147, 148, 149, 152, 153, 156, 158, 159, 162, 164, 165, 168, 171, 172, 173, 176, 
  177, 180, 182, 184, 185, 186, 187, 189, 190, 191, 192, 193, 196, 197, 198, 201]
theorem ck_19 : xChkM 1 false none prog_3_method_5_code cd_19 ps_19 = true := by decide +kernel
/-- LastCloud$Hops.edgeAt(IZ)I -/
def cd_20 : List Instr := [.iload 1, .iload 2, .invokestatic 135928, .istore 3, .iload 3, .ifCond .lt 14, .iload 3, .iconst 16, .if_icmp .ge 14, .aload 0, .getfield 1072, .iload 3, .iaload, .goto 15, .iconst 1000000, .ireturn]
def ps_20 : List Nat := [0, 1, 2, 5, 6, 7, 10, 11, 13, 16, 17, 20, 21, 22, 25, 27]
theorem ck_20 : xChkM 1 false (some .int) prog_3_method_6_code cd_20 ps_20 = true := by decide +kernel
/-- LastCloud$Hops.heightAt(I)I -/
def cd_21 : List Instr := [.iload 1, .ifCond .lt 10, .iload 1, .iconst 8, .if_icmp .ge 10, .aload 0, .getfield 1082, .iload 1, .iaload, .goto 11, .iconst (-1), .ireturn]
def ps_21 : List Nat := [0, 1, 4, 5, 7, 10, 11, 14, 15, 16, 19, 20]
theorem ck_21 : xChkM 1 false (some .int) prog_3_method_7_code cd_21 ps_21 = true := by decide +kernel
/-- LastCloud$Hops.speedOf(I)I -/
def cd_22 : List Instr := [.aload 0, .getfield 1052, .iload 1, .iaload, .iconst 100, .isub, .iconst 10, .irem, .ireturn]
def ps_22 : List Nat := [0, 1, 4, 5, 6, 8, 9, 11, 12]
theorem ck_22 : xChkM 1 false (some .int) prog_3_method_8_code cd_22 ps_22 = true := by decide +kernel
/-- LastCloud$Hops.findEdges(LLastCloud$Sky;Z)V -/
def cd_23 : List Instr := [.iconst 0, .istore 3, .iload 3, .aload 1, .getfield 10040, .if_icmp .ge 25, .aload 0, .getfield 1072, .iload 3, .iload 2, .invokestatic 135928, .aload 1, .iload 3, .invokevirtual 960808, 
  .ifCond .eq 21, .aload 1, .getfield 10002, .iload 3, .aaload, .getfield 4000, .goto 22, .iconst 1000000, .iastore, .iinc 3 1, .goto 2, .iconst 1, .istore 3, .iconst 0, .istore 4, .iload 4, .iconst 496, 
  .if_icmp .gt 67, .iload 3, .ifCond .eq 67, .iconst 0, .istore 3, .iconst 0, .istore 5, .iload 5, .aload 1, .getfield 10040, .if_icmp .ge 65, .aload 0, .aload 1, .iload 5, .iload 2, 
  .invokevirtual 192096, .istore 6, .iload 6, .aload 0, .iload 5, .iload 2, .invokevirtual 160092, .if_icmp .ge 63, .aload 0, .getfield 1072, .iload 5, .iload 2, .invokestatic 135928, .iload 6, .iastore, 
  .iconst 1, .istore 3, .iinc 5 1, .goto 38, .iinc 4 1, .goto 29, .return_]
def ps_23 : List Nat := [0, 1, 2, 3, 4, 7, 10, 11, 14, 15, 16, 19, 20, 21, 24, 27, 28, 31, 32, 33, 36, 39, 41, 42, 45, 48, 49, 50, 51, 53, 55, 58, 61, 62, 65, 66, 67, 68, 70, 72, 73, 76, 79, 80, 81, 83, 84, 87, 89, 91, 92, 94, 
  95, 98, 101, 102, 105, 107, 108, 111, 113, 114, 115, 116, 119, 122, 125, 128]
theorem ck_23 : xChkM 1 false none prog_3_method_9_code cd_23 ps_23 = true := by decide +kernel
/-- LastCloud$Hops.leastByHop(LLastCloud$Sky;IZ)I -/
def cd_24 : List Instr := [.iconst 1000000, .istore 4, .iload 2, .iload 3, .invokestatic 135928, .istore 5, .aload 0, .getfield 1002, .iload 5, .iaload, .istore 6, .iload 6, .aload 0, .getfield 1002, .iload 5, .iconst 1, .iadd, 
  .iaload, .if_icmp .ge 52, .aload 0, .aload 0, .getfield 1012, .iload 6, .iaload, .iload 3, .invokevirtual 160092, .istore 7, .iload 7, .iconst 1000000, .if_icmp .eq 50, .aload 0, .getfield 1042, 
  .iload 6, .iaload, .iload 7, .aload 0, .getfield 1032, .iload 6, .iaload, .iadd, .dadd, .istore 8, .iload 8, .aload 1, .getfield 10090, .if_icmp .gt 50, .iload 4, .iload 8, .dsub, .istore 4, .iinc 6 1, 
  .goto 11, .iload 4, .ireturn]
def ps_24 : List Nat := [0, 2, 4, 5, 6, 9, 11, 12, 15, 17, 18, 20, 22, 23, 26, 28, 29, 30, 31, 34, 35, 36, 39, 41, 42, 43, 46, 48, 50, 52, 55, 56, 59, 61, 62, 64, 65, 68, 70, 71, 72, 75, 77, 79, 80, 83, 86, 88, 90, 93, 95, 98, 
  101, 103]
theorem ck_24 : xChkM 1 false (some .int) prog_3_method_10_code cd_24 ps_24 = true := by decide +kernel
/-- LastCloud$Hops.glide(LLastCloud$Sky;IIZ)V -/
def cd_25 : List Instr := [.aload 0, .getfield 1082, .iconst (-1), .invokestatic 2679931, .aload 0, .getfield 1082, .iload 2, .iload 3, .iastore, .iconst 1, .istore 5, .iconst 0, .istore 6, .iload 6, .iconst 496, 
  .if_icmp .gt 46, .iload 5, .ifCond .eq 46, .iconst 0, .istore 5, .iconst 0, .istore 7, .iload 7, .aload 1, .getfield 10040, .if_icmp .ge 44, .aload 0, .getfield 1082, .iload 7, .iaload, .iconst (-1), 
  .if_icmp .eq 42, .aload 0, .aload 1, .iload 7, .iload 7, .iload 4, .invokestatic 135928, .invokevirtual 208096, .ifCond .eq 42, .iconst 1, .istore 5, .iinc 7 1, .goto 22, .iinc 6 1, .goto 13, .return_]
def ps_25 : List Nat := [0, 1, 4, 5, 8, 9, 12, 13, 14, 15, 16, 18, 19, 21, 23, 26, 29, 31, 34, 35, 37, 38, 40, 42, 43, 46, 49, 50, 53, 55, 56, 57, 60, 61, 62, 64, 66, 68, 71, 74, 77, 78, 80, 83, 86, 89, 92]
theorem ck_25 : xChkM 1 false none prog_3_method_11_code cd_25 ps_25 = true := by decide +kernel
/-- LastCloud$Hops.raiseFrom(LLastCloud$Sky;II)Z -/
def cd_26 : List Instr := [.iconst 0, .istore 4, .aload 0, .getfield 1002, .iload 3, .iaload, .istore 5, .iload 5, .aload 0, .getfield 1002, .iload 3, .iconst 1, .iadd, .iaload, .if_icmp .ge 48, .aload 1, .aload 0, 
  .getfield 1082, .iload 2, .iaload, .aload 0, .getfield 1032, .iload 5, .iaload, .isub, .invokevirtual 1024808, .istore 6, .aload 0, .getfield 1082, .iload 2, .iaload, .aload 0, .getfield 1042, 
  .iload 5, .iaload, .if_icmp .lt 46, .aload 0, .aload 0, .getfield 1012, .iload 5, .iaload, .iload 6, .invokevirtual 216092, .ifCond .eq 46, .iconst 1, .istore 4, .iinc 5 1, .goto 7, .iload 4, .freturn]
def ps_26 : List Nat := [0, 1, 3, 4, 7, 8, 9, 11, 13, 14, 17, 18, 19, 20, 21, 24, 25, 26, 29, 30, 31, 32, 35, 37, 38, 39, 42, 44, 45, 48, 49, 50, 51, 54, 56, 57, 60, 61, 62, 65, 67, 68, 70, 73, 76, 77, 79, 82, 85, 87]
theorem ck_26 : xChkM 1 false (some .boolean) prog_3_method_12_code cd_26 ps_26 = true := by decide +kernel
