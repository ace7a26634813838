/-- LastCloud$Plan.settle(IIIIIZ)V -/
def cd_54 : List Instr := [.iload 1, .iconst 488, .idiv, .iconst 2, .irem, .iconst 1, .if_icmp .ne 9, .iconst 1, .goto 10, .iconst 0, .istore 7, .aload 0, .getfield 5102, .aload 0, .getfield 5120, .iload 3, .iload 2, 
  .invokevirtual 944816, .istore 8, .iconst (-1), .istore 9, .iload 3, .aload 0, .getfield 5102, .getfield 10140, .if_icmp .ne 28, .iconst 10000, .goto 29, .iconst 0, .istore 10, .aload 0, 
  .getfield 5102, .iload 4, .iload 7, .ifCond .eq 40, .aload 0, .getfield 5082, .iload 3, .iaload, .goto 44, .aload 0, .getfield 5072, .iload 3, .iaload, .iadd, .invokevirtual 920808, .istore 11, 
  .iload 6, .ifCond .eq 83, .iload 11, .iload 4, .if_icmp .le 83, .iload 2, .aload 0, .getfield 5102, .getfield 10100, .if_icmp .ge 83, .iload 2, .iconst 1, .iadd, .iload 7, .iload 3, .iload 11, 
  .invokestatic 335936, .istore 12, .aload 0, .getfield 5002, .iload 12, .iaload, .iload 8, .if_icmp .le 83, .aload 0, .getfield 5002, .iload 12, .iaload, .istore 8, .iconst 0, .istore 9, .aload 0, 
  .iload 12, .iconst 1, .invokevirtual 384412, .istore 10, .iload 7, .ifCond .eq 109, .iload 2, .iconst 0, .iload 3, .iload 4, .invokestatic 335936, .istore 12, .aload 0, .iload 12, .iload 6, 
  .invokevirtual 368412, .iload 8, .if_icmp .le 109, .aload 0, .iload 12, .iload 6, .invokevirtual 368412, .istore 8, .iconst 1, .istore 9, .aload 0, .iload 12, .iload 6, .invokevirtual 384412, 
  .istore 10, .iload 5, .iconst (-1), .if_icmp .eq 154, .aload 0, .iload 5, .iload 2, .iload 7, .iload 4, .invokevirtual 424420, .istore 12, .aload 0, .getfield 5022, .iload 12, .iaload, .iload 8, 
  .if_icmp .le 154, .aload 0, .getfield 5022, .iload 12, .iaload, .istore 8, .aload 0, .getfield 5112, .getfield 1052, .iload 5, .iaload, .istore 9, .aload 0, .getfield 5062, .aload 0, .getfield 5112, 
  .getfield 1012, .iload 5, .iaload, .iaload, .aload 0, .iload 12, .iconst 1, .invokevirtual 384412, .aload 0, .iload 12, .iconst 0, .invokevirtual 384412, .invokestatic 1295932, .istore 10, .iload 6, 
  .ifCond .eq 173, .aload 0, .getfield 5002, .iload 1, .iload 8, .iastore, .aload 0, .getfield 5032, .iload 1, .iload 10, .iconst 1000, .imul, .iload 9, .iadd, .iconst 1, .iadd, .iastore, .goto 189, 
  .aload 0, .getfield 5012, .iload 1, .iload 8, .iastore, .aload 0, .getfield 5042, .iload 1, .iload 10, .iconst 1000, .imul, .iload 9, .iadd, .iconst 1, .iadd, .iastore, .return_]
def ps_54 : List Nat := [0, 1, 4, 5, 6, 7, 8, 11, 12, 15, 16, 18, 19, 22, 23, 26, 27, 28, 31, 33, 34, 36, 37, 38, 41, 44, 47, 50, 53, 54, 56, 57, 60, 62, 64, 67, 68, 71, 72, 73, 76, 77, 80, 81, 82, 83, 86, 88, 90, 93, 95, 97, 
  100, 101, 102, 105, 108, 111, 112, 113, 114, 116, 117, 119, 122, 124, 125, 128, 130, 131, 133, 136, 137, 140, 142, 143, 145, 146, 148, 149, 151, 152, 155, 157, 159, 162, 163, 164, 165, 167, 170, 172, 
  173, 175, 177, 180, 182, 185, 186, 188, 190, 193, 195, 196, 198, 199, 201, 203, 206, 208, 210, 211, 214, 215, 217, 218, 220, 222, 225, 227, 228, 231, 233, 234, 236, 239, 240, 243, 245, 246, 248, 249, 
  252, 255, 257, 258, 260, 261, 264, 265, 268, 271, 273, 274, 275, 276, 278, 279, 282, 283, 285, 286, 289, 292, 294, 296, 299, 300, 303, 304, 306, 307, 308, 311, 312, 314, 317, 318, 320, 321, 322, 323, 
  324, 327, 328, 331, 332, 334, 335, 336, 339, 340, 342, 345, 346, 348, 349, 350, 351, 352]
theorem ck_54 : xChkM 5 false none prog_7_method_15_code cd_54 ps_54 = true := by decide +kernel
/-- LastCloud$Polar.<init>()V -/
def cd_55 : List Instr := [.aload 0, .dneg, .aload 0, .iconst 6, .newarray .int, .putfield 6012, .aload 0, .iconst 6, .newarray .int, .putfield 6022, .return_]
def ps_55 : List Nat := [0, 1, 4, 5, 7, 9, 12, 13, 15, 17, 20]
theorem ck_55 : xChkM 6 true none prog_8_method_1_code cd_55 ps_55 = true := by decide +kernel
/-- LastCloud$Polar.add(II)V -/
def cd_56 : List Instr := [.aload 0, .getfield 6000, .iconst 6, .if_icmp .ge 22, .aload 0, .getfield 6012, .aload 0, .getfield 6000, .iload 1, .iastore, .aload 0, .getfield 6022, .aload 0, .getfield 6000, .iload 2, .iastore, 
  .aload 0, .dup, .getfield 6000, .iconst 1, .iadd, .putfield 6000, .return_]
def ps_56 : List Nat := [0, 1, 4, 6, 9, 10, 13, 14, 17, 18, 19, 20, 23, 24, 27, 28, 29, 30, 31, 34, 35, 36, 39]
theorem ck_56 : xChkM 6 false none prog_8_method_2_code cd_56 ps_56 = true := by decide +kernel
/-- LastCloud$Polar.copyFrom(LLastCloud$Polar;)V -/
def cd_57 : List Instr := [.aload 0, .aload 1, .getfield 6000, .putfield 6000, .aload 1, .getfield 6012, .iconst 0, .aload 0, .getfield 6012, .iconst 0, .iconst 6, .dmul, .aload 1, .getfield 6022, .iconst 0, .aload 0, 
  .getfield 6022, .iconst 0, .iconst 6, .dmul, .return_]
def ps_57 : List Nat := [0, 1, 2, 5, 8, 9, 12, 13, 14, 17, 18, 20, 23, 24, 27, 28, 29, 32, 33, 35, 38]
theorem ck_57 : xChkM 6 false none prog_8_method_3_code cd_57 ps_57 = true := by decide +kernel
/-- LastCloud$Polar.fastest(I)I -/
def cd_58 : List Instr := [.iconst (-1), .istore 2, .iconst 0, .istore 3, .iload 3, .aload 0, .getfield 6000, .if_icmp .ge 38, .iload 2, .iconst (-1), .if_icmp .eq 34, .aload 0, .getfield 6012, .iload 3, .iaload, .iload 1, 
  .aload 0, .getfield 6022, .iload 2, .iaload, .iadd, .imul, .aload 0, .getfield 6012, .iload 2, .iaload, .iload 1, .aload 0, .getfield 6022, .iload 3, .iaload, .iadd, .imul, .if_icmp .le 36, .iload 3, 
  .istore 2, .iinc 3 1, .goto 4, .iload 2, .ireturn]
def ps_58 : List Nat := [0, 1, 2, 3, 4, 5, 6, 9, 12, 13, 14, 17, 18, 21, 22, 23, 24, 25, 28, 29, 30, 31, 32, 33, 36, 37, 38, 39, 40, 43, 44, 45, 46, 47, 50, 51, 52, 55, 58, 59]
theorem ck_58 : xChkM 6 false (some .int) prog_8_method_4_code cd_58 ps_58 = true := by decide +kernel
/-- LastCloud$Polar.tenHours(II)I -/
def cd_59 : List Instr := [.iconst 10, .aload 0, .getfield 6012, .iload 1, .iaload, .imul, .iload 2, .imul, .iload 2, .aload 0, .getfield 6022, .iload 1, .iaload, .iadd, .idiv, .ireturn]
def ps_59 : List Nat := [0, 2, 3, 6, 7, 8, 9, 10, 11, 12, 13, 16, 17, 18, 19, 20]
theorem ck_59 : xChkM 6 false (some .int) prog_8_method_5_code cd_59 ps_59 = true := by decide +kernel
/-- LastCloud$Polar.flattest()I -/
def cd_60 : List Instr := [.iconst (-1), .istore 1, .iconst 0, .istore 2, .iload 2, .aload 0, .getfield 6000, .if_icmp .ge 34, .iload 1, .iconst (-1), .if_icmp .eq 30, .aload 0, .getfield 6012, .iload 2, .iaload, .aload 0, 
  .getfield 6022, .iload 1, .iaload, .imul, .aload 0, .getfield 6012, .iload 1, .iaload, .aload 0, .getfield 6022, .iload 2, .iaload, .imul, .if_icmp .le 32, .iload 2, .istore 1, .iinc 2 1, .goto 4, 
  .iload 1, .ireturn]
def ps_60 : List Nat := [0, 1, 2, 3, 4, 5, 6, 9, 12, 13, 14, 17, 18, 21, 22, 23, 24, 27, 28, 29, 30, 31, 34, 35, 36, 37, 40, 41, 42, 43, 46, 47, 48, 51, 54, 55]
theorem ck_60 : xChkM 6 false (some .int) prog_8_method_6_code cd_60 ps_60 = true := by decide +kernel
/-- LastCloud$Reader.<init>([B)V -/
def cd_61 : List Instr := [.aload 0, .dneg, .aload 0, .iconst 1601, .newarray .int, .putfield 7012, .aload 0, .iconst 1601, .newarray .int, .putfield 7022, .aload 0, .iconst 1601, .newarray .int, .putfield 7032, .aload 0, 
  .aload 1, .putfield 7002, .return_]
def ps_61 : List Nat := [0, 1, 4, 5, 8, 10, 13, 14, 17, 19, 22, 23, 26, 28, 31, 32, 33, 36]
theorem ck_61 : xChkM 7 true none prog_9_method_1_code cd_61 ps_61 = true := by decide +kernel
/-- LastCloud$Reader.readAll(ILLastCloud$Sky;)I -/
def cd_62 : List Instr := [.aload 0, .aload 2, .putfield 7092, .aload 0, .iconst 0, .putfield 7050, .aload 0, .iconst 0, .putfield 7060, .aload 0, .iconst (-1), .putfield 7070, .aload 0, .iconst 0, .putfield 7080, .aload 0, 
  .iload 1, .iconst 1600, .dsub, .invokevirtual 504571, .iconst 0, .istore 3, .iload 3, .aload 0, .getfield 7040, .if_icmp .ge 39, .aload 0, .getfield 7060, .ifCond .ne 39, .aload 0, .getfield 7012, 
  .aload 0, .getfield 7050, .iaload, .ifCond .eq 39, .aload 0, .invokevirtual 592567, .iinc 3 1, .goto 22, .aload 0, .getfield 7060, .ifCond .ne 67, .aload 0, .getfield 7092, .invokevirtual 840804, 
  .ifCond .eq 67, .aload 0, .getfield 7092, .getfield 10090, .aload 0, .getfield 7092, .getfield 10160, .dsub, .istore 3, .aload 0, .getfield 7092, .aload 0, .getfield 7092, .getfield 10002, .aload 0, 
  .getfield 7092, .getfield 10150, .aaload, .getfield 4000, .iload 3, .dadd, .putfield 10160, .aload 0, .getfield 7060, .ireturn]
def ps_62 : List Nat := [0, 1, 2, 5, 6, 7, 10, 11, 12, 15, 16, 17, 20, 21, 22, 25, 26, 27, 30, 33, 36, 37, 38, 39, 40, 43, 46, 47, 50, 53, 54, 57, 58, 61, 62, 65, 66, 69, 72, 75, 76, 79, 82, 83, 86, 89, 92, 93, 96, 99, 100, 
  103, 106, 109, 110, 111, 114, 115, 118, 121, 122, 125, 128, 129, 132, 133, 136, 139, 140, 143]
theorem ck_62 : xChkM 7 false (some .int) prog_9_method_2_code cd_62 ps_62 = true := by decide +kernel
/-- LastCloud$Reader.splitText(I)V -/
def cd_63 : List Instr := [.aload 0, .iconst 0, .putfield 7040, .iconst 0, .istore 2, .iload 2, .iload 1, .if_icmp .ge 56, .aload 0, .getfield 7002, .iload 2, .baload, .invokestatic 527924, .istore 3, .iload 2, .iconst 1, .iadd, 
  .istore 4, .iload 3, .iconst 1, .if_icmp .eq 24, .iload 3, .iconst 2, .if_icmp .ne 36, .iload 4, .iload 1, .if_icmp .ge 36, .aload 0, .getfield 7002, .iload 4, .baload, .invokestatic 527924, .iload 3, 
  .if_icmp .ne 36, .iinc 4 1, .goto 24, .aload 0, .getfield 7002, .iload 2, .baload, .iconst 32, .if_icmp .eq 53, .aload 0, .getfield 7002, .iload 2, .baload, .iconst 10, .if_icmp .eq 53, .aload 0, 
  .iload 3, .iload 2, .iload 4, .invokevirtual 512579, .iload 4, .istore 2, .goto 5, .aload 0, .iconst 0, .iload 1, .iload 1, .invokevirtual 512579, .return_]
def ps_63 : List Nat := [0, 1, 2, 5, 6, 7, 8, 9, 12, 13, 16, 17, 18, 21, 22, 23, 24, 25, 27, 28, 29, 32, 33, 34, 37, 39, 40, 43, 44, 47, 49, 50, 53, 54, 57, 60, 63, 64, 67, 68, 69, 71, 74, 75, 78, 79, 80, 82, 85, 86, 87, 88, 
  90, 93, 95, 96, 99, 100, 101, 102, 103, 106]
theorem ck_63 : xChkM 7 false none prog_9_method_3_code cd_63 ps_63 = true := by decide +kernel
/-- LastCloud$Reader.addToken(III)V -/
def cd_64 : List Instr := [.aload 0, .getfield 7040, .iconst 1600, .if_icmp .gt 28, .aload 0, .getfield 7012, .aload 0, .getfield 7040, .iload 1, .iastore, .aload 0, .getfield 7022, .aload 0, .getfield 7040, .iload 2, .iastore, 
  .aload 0, .getfield 7032, .aload 0, .getfield 7040, .iload 3, .iastore, .aload 0, .dup, .getfield 7040, .iconst 1, .iadd, .putfield 7040, .return_]
def ps_64 : List Nat := [0, 1, 4, 7, 10, 11, 14, 15, 18, 19, 20, 21, 24, 25, 28, 29, 30, 31, 34, 35, 38, 39, 40, 41, 42, 45, 46, 47, 50]
theorem ck_64 : xChkM 7 false none prog_9_method_4_code cd_64 ps_64 = true := by decide +kernel
/-- LastCloud$Reader.kindOf(I)I -/
def cd_65 : List Instr := [.iload 0, .iconst 97, .if_icmp .lt 8, .iload 0, .iconst 122, .if_icmp .gt 8, .iconst 1, .ireturn, .iload 0, .iconst 48, .if_icmp .lt 16, .iload 0, .iconst 57, .if_icmp .gt 16, .iconst 2, .ireturn, 
  .iload 0, .iconst 59, .if_icmp .ne 21, .iconst 3, .goto 22, .iconst 4, .ireturn]
def ps_65 : List Nat := [0, 1, 3, 6, 7, 9, 12, 13, 14, 15, 17, 20, 21, 23, 26, 27, 28, 29, 31, 34, 35, 38, 39]
theorem ck_65 : xChkM 7 false (some .int) prog_9_method_5_code cd_65 ps_65 = true := by decide +kernel
/-- LastCloud$Reader.fail(I)V -/
def cd_66 : List Instr := [.aload 0, .getfield 7060, .ifCond .ne 13, .aload 0, .iload 1, .putfield 7060, .aload 0, .aload 0, .getfield 7022, .aload 0, .getfield 7050, .iaload, .putfield 7070, .return_]
def ps_66 : List Nat := [0, 1, 4, 7, 8, 9, 12, 13, 14, 17, 18, 21, 22, 25]
theorem ck_66 : xChkM 7 false none prog_9_method_6_code cd_66 ps_66 = true := by decide +kernel
/-- LastCloud$Reader.goOn()V -/
def cd_67 : List Instr := [.aload 0, .getfield 7050, .iconst 1, .iadd, .aload 0, .getfield 7040, .if_icmp .ge 13, .aload 0, .dup, .getfield 7050, .iconst 1, .iadd, .putfield 7050, .return_]
def ps_67 : List Nat := [0, 1, 4, 5, 6, 7, 10, 13, 14, 15, 18, 19, 20, 23]
theorem ck_67 : xChkM 7 false none prog_9_method_7_code cd_67 ps_67 = true := by decide +kernel
/-- LastCloud$Reader.isWord(Ljava/lang/String;)Z -/
def cd_68 : List Instr := [.aload 0, .getfield 7012, .aload 0, .getfield 7050, .iaload, .iconst 1, .if_icmp .ne 21, .aload 0, .getfield 7032, .aload 0, .getfield 7050, .iaload, .aload 0, .getfield 7022, .aload 0, .getfield 7050, 
  .iaload, .isub, .aload 1, .d2i, .if_icmp .eq 23, .iconst 0, .freturn, .iconst 0, .istore 2, .iload 2, .aload 1, .d2i, .if_icmp .ge 47, .aload 0, .getfield 7002, .aload 0, .getfield 7022, .aload 0, 
  .getfield 7050, .iaload, .iload 2, .iadd, .baload, .aload 1, .iload 2, .d2l, .if_icmp .eq 45, .iconst 0, .freturn, .iinc 2 1, .goto 25, .iconst 1, .freturn]
def ps_68 : List Nat := [0, 1, 4, 5, 8, 9, 10, 13, 14, 17, 18, 21, 22, 23, 26, 27, 30, 31, 32, 33, 36, 39, 40, 41, 42, 43, 44, 45, 48, 51, 52, 55, 56, 59, 60, 63, 64, 65, 66, 67, 68, 69, 72, 75, 76, 77, 80, 83, 84]
theorem ck_68 : xChkM 7 false (some .boolean) prog_9_method_8_code cd_68 ps_68 = true := by decide +kernel
/-- LastCloud$Reader.takeIf(Ljava/lang/String;)Z -/
def cd_69 : List Instr := [.aload 0, .getfield 7060, .ifCond .ne 7, .aload 0, .aload 1, .invokevirtual 544568, .ifCond .ne 9, .iconst 0, .freturn, .aload 0, .invokevirtual 536567, .iconst 1, .freturn]
def ps_69 : List Nat := [0, 1, 4, 7, 8, 9, 12, 15, 16, 17, 18, 21, 22]
theorem ck_69 : xChkM 7 false (some .boolean) prog_9_method_9_code cd_69 ps_69 = true := by decide +kernel
/-- LastCloud$Reader.takeWord(Ljava/lang/String;)V -/
def cd_70 : List Instr := [.aload 0, .getfield 7060, .ifCond .eq 4, .return_, .aload 0, .aload 1, .invokevirtual 544568, .ifCond .eq 11, .aload 0, .invokevirtual 536567, .goto 14, .aload 0, .iconst 1, .invokevirtual 528571, 
  .return_]
def ps_70 : List Nat := [0, 1, 4, 7, 8, 9, 10, 13, 16, 17, 20, 23, 24, 25, 28]
theorem ck_70 : xChkM 7 false none prog_9_method_10_code cd_70 ps_70 = true := by decide +kernel
/-- LastCloud$Reader.takeNumber(II)I -/
def cd_71 : List Instr := [.aload 0, .getfield 7060, .ifCond .eq 5, .iconst 0, .ireturn, .aload 0, .getfield 7012, .aload 0, .getfield 7050, .iaload, .iconst 2, .if_icmp .eq 17, .aload 0, .iconst 1, .invokevirtual 528571, 
  .iconst 0, .ireturn, .iconst 0, .istore 3, .aload 0, .getfield 7022, .aload 0, .getfield 7050, .iaload, .istore 4, .iload 4, .aload 0, .getfield 7032, .aload 0, .getfield 7050, .iaload, 
  .if_icmp .ge 47, .iconst 1000000, .iload 3, .iconst 10, .imul, .aload 0, .getfield 7002, .iload 4, .baload, .iadd, .iconst 48, .isub, .dsub, .istore 3, .iinc 4 1, .goto 25, .iload 3, .iload 1, 
  .if_icmp .lt 53, .iload 3, .iload 2, .if_icmp .le 58, .aload 0, .iconst 2, .invokevirtual 528571, .iconst 0, .ireturn, .aload 0, .invokevirtual 536567, .iload 3, .ireturn]
def ps_71 : List Nat := [0, 1, 4, 7, 8, 9, 10, 13, 14, 17, 18, 19, 22, 23, 24, 27, 28, 29, 30, 31, 32, 35, 36, 39, 40, 42, 44, 45, 48, 49, 52, 53, 56, 58, 59, 61, 62, 63, 66, 68, 69, 70, 72, 73, 76, 77, 80, 83, 84, 85, 88, 89, 
  90, 93, 94, 95, 98, 99, 100, 101, 104, 105]
theorem ck_71 : xChkM 7 false (some .int) prog_9_method_11_code cd_71 ps_71 = true := by decide +kernel
/-- LastCloud$Reader.takeSigned(I)I -/
def cd_72 : List Instr := [.aload 0, .iconst 0, .iload 1, .invokevirtual 568572, .istore 2, .aload 0, .getfield 7060, .ifCond .ne 17, .aload 0, .ldc 16, .invokevirtual 544568, .ifCond .eq 17, .aload 0, .invokevirtual 536567, 
  .iload 2, .ineg, .istore 2, .iload 2, .ireturn]
def ps_72 : List Nat := [0, 1, 2, 3, 6, 7, 8, 11, 14, 15, 17, 20, 23, 24, 27, 28, 29, 30, 31]
theorem ck_72 : xChkM 7 false (some .int) prog_9_method_12_code cd_72 ps_72 = true := by decide +kernel
/-- LastCloud$Reader.takePlace(I)I -/
def cd_73 : List Instr := [.aload 0, .getfield 7050, .istore 2, .aload 0, .iconst 0, .aload 0, .getfield 7092, .getfield 10040, .iconst 1, .isub, .invokevirtual 568572, .istore 3, .aload 0, .getfield 7060, .ifCond .ne 27, 
  .iload 1, .iload 3, .ishr, .iconst 1, .iand, .ifCond .eq 27, .aload 0, .iload 2, .putfield 7050, .aload 0, .iconst 2, .invokevirtual 528571, .iload 3, .ireturn]
def ps_73 : List Nat := [0, 1, 4, 5, 6, 7, 8, 11, 14, 15, 16, 19, 20, 21, 24, 27, 28, 29, 30, 31, 32, 35, 36, 37, 40, 41, 42, 45, 46]
theorem ck_73 : xChkM 7 false (some .int) prog_9_method_13_code cd_73 ps_73 = true := by decide +kernel
/-- LastCloud$Reader.readLine()V -/
def cd_74 : List Instr := [.aload 0, .invokevirtual 600564, .istore 1, .iload 1, .iconst (-1), .if_icmp .ne 10, .aload 0, .iconst 1, .invokevirtual 528571, .goto 61, .aload 0, .getfield 7080, .iload 1, .ishr, .iconst 1, .iand, 
  .ifCond .eq 21, .aload 0, .iconst 2, .invokevirtual 528571, .goto 61, .aload 0, .getfield 7092, .getfield 10060, .iconst 60, .if_icmp .ge 30, .aload 0, .iload 1, .invokevirtual 608568, .ifCond .eq 34, 
  .aload 0, .iconst 3, .invokevirtual 528571, .goto 61, .aload 0, .invokevirtual 536567, .aload 0, .iload 1, .invokevirtual 616571, .aload 0, .getfield 7012, .aload 0, .getfield 7050, .iaload, .iconst 3, 
  .if_icmp .eq 49, .aload 0, .iconst 1, .invokevirtual 528571, .aload 0, .getfield 7060, .ifCond .ne 61, .aload 0, .invokevirtual 536567, .aload 0, .getfield 7092, .dup, .getfield 10060, .iconst 1, 
  .iadd, .putfield 10060, .return_]
def ps_74 : List Nat := [0, 1, 4, 5, 6, 7, 10, 11, 12, 15, 18, 19, 22, 23, 24, 25, 26, 29, 30, 31, 34, 37, 38, 41, 44, 46, 49, 50, 51, 54, 57, 58, 59, 62, 65, 66, 69, 70, 71, 74, 75, 78, 79, 82, 83, 84, 87, 88, 89, 92, 93, 96, 
  99, 100, 103, 104, 107, 108, 111, 112, 113, 116]
theorem ck_74 : xChkM 7 false none prog_9_method_14_code cd_74 ps_74 = true := by decide +kernel
/-- LastCloud$Reader.lineKind()I -/
def cd_75 : List Instr := [.aload 0, .ldc 0, .invokevirtual 544568, .ifCond .eq 6, .iconst 0, .ireturn, .aload 0, .ldc 1, .invokevirtual 544568, .ifCond .eq 12, .iconst 1, .ireturn, .aload 0, .ldc 2, .invokevirtual 544568, 
  .ifCond .eq 18, .iconst 2, .ireturn, .aload 0, .ldc 3, .invokevirtual 544568, .ifCond .eq 24, .iconst 3, .ireturn, .aload 0, .ldc 4, .invokevirtual 544568, .ifCond .eq 30, .iconst 4, .ireturn, 
  .aload 0, .ldc 5, .invokevirtual 544568, .ifCond .eq 36, .iconst 5, .ireturn, .aload 0, .ldc 6, .invokevirtual 544568, .ifCond .eq 42, .iconst 6, .ireturn, .aload 0, .ldc 7, .invokevirtual 544568, 
  .ifCond .eq 48, .iconst 7, .ireturn, .aload 0, .ldc 8, .invokevirtual 544568, .ifCond .eq 54, .iconst 8, .ireturn, .aload 0, .ldc 9, .invokevirtual 544568, .ifCond .eq 60, .iconst 9, .ireturn, 
  .aload 0, .ldc 10, .invokevirtual 544568, .ifCond .eq 66, .iconst 10, .goto 67, .iconst (-1), .ireturn]
def ps_75 : List Nat := [0, 1, 3, 6, 9, 10, 11, 12, 14, 17, 20, 21, 22, 23, 25, 28, 31, 32, 33, 34, 36, 39, 42, 43, 44, 45, 47, 50, 53, 54, 55, 56, 58, 61, 64, 65, 66, 67, 69, 72, 75, 77, 78, 79, 81, 84, 87, 89, 90, 91, 93, 
  96, 99, 101, 102, 103, 105, 108, 111, 113, 114, 115, 117, 120, 123, 125, 128, 129]
theorem ck_75 : xChkM 7 false (some .int) prog_9_method_15_code cd_75 ps_75 = true := by decide +kernel
/-- LastCloud$Reader.isFull(I)Z -/
def cd_76 : List Instr := [.iload 1, .tableswitch 40 0 4 #[2, 11, 40, 20, 30], .aload 0, .getfield 7092, .getfield 10040, .iconst 8, .if_icmp .lt 9, .iconst 1, .goto 10, .iconst 0, .freturn, .aload 0, .getfield 7092, 
  .getfield 10050, .iconst 10, .if_icmp .lt 18, .iconst 1, .goto 19, .iconst 0, .freturn, .aload 0, .getfield 7092, .getfield 10022, .getfield 6000, .iconst 6, .if_icmp .lt 28, .iconst 1, .goto 29, 
  .iconst 0, .freturn, .aload 0, .getfield 7092, .getfield 10180, .invokestatic 2559924, .iconst 3, .if_icmp .lt 38, .iconst 1, .goto 39, .iconst 0, .freturn, .iconst 0, .freturn]
def ps_76 : List Nat := [0, 1, 36, 37, 40, 43, 45, 48, 49, 52, 53, 54, 55, 58, 61, 63, 66, 67, 70, 71, 72, 73, 76, 79, 82, 84, 87, 88, 91, 92, 93, 94, 97, 100, 103, 104, 107, 108, 111, 112, 113, 114]
theorem ck_76 : xChkM 7 false (some .boolean) prog_9_method_16_code cd_76 ps_76 = true := by decide +kernel
/-- LastCloud$Reader.readRest(I)V -/
def cd_77 : List Instr := [.iload 1, .iconst 5, .if_icmp .lt 11, .aload 0, .dup, .getfield 7080, .iconst 1, .iload 1, .ishl, .ior, .putfield 7080, .iload 1, .tableswitch 74 0 9 #[13, 16, 19, 22, 25, 39, 47, 55, 63, 71], 
  .aload 0, .invokevirtual 624567, .goto 76, .aload 0, .invokevirtual 632567, .goto 76, .aload 0, .invokevirtual 640567, .goto 76, .aload 0, .invokevirtual 648567, .goto 76, .aload 0, .getfield 7092, 
  .dup, .getfield 10180, .iconst 1, .aload 0, .aload 0, .getfield 7092, .getfield 10180, .invokevirtual 584568, .ishl, .ior, .putfield 10180, .goto 76, .aload 0, .getfield 7092, .aload 0, .iconst 0, 
  .iconst 999, .invokevirtual 568572, .putfield 10070, .goto 76, .aload 0, .getfield 7092, .aload 0, .iconst 0, .iconst 50, .invokevirtual 568572, .putfield 10080, .goto 76, .aload 0, .getfield 7092, 
  .aload 0, .iconst 31, .iconst 60, .invokevirtual 568572, .putfield 10090, .goto 76, .aload 0, .getfield 7092, .aload 0, .iconst 1, .iconst 47, .invokevirtual 568572, .putfield 10100, .goto 76, 
  .aload 0, .invokevirtual 656567, .goto 76, .aload 0, .invokevirtual 664567, .return_]
def ps_77 : List Nat := [0, 1, 2, 5, 6, 7, 10, 11, 12, 13, 14, 17, 18, 72, 73, 76, 79, 80, 83, 86, 87, 90, 93, 94, 97, 100, 101, 104, 105, 108, 109, 110, 111, 114, 117, 120, 121, 122, 125, 128, 129, 132, 133, 134, 137, 140, 
  143, 146, 147, 150, 151, 152, 154, 157, 160, 163, 164, 167, 168, 170, 172, 175, 178, 181, 182, 185, 186, 187, 189, 192, 195, 198, 199, 202, 205, 206, 209]
theorem ck_77 : xChkM 7 false none prog_9_method_17_code cd_77 ps_77 = true := by decide +kernel
/-- LastCloud$Reader.readPlace()V -/
def cd_78 : List Instr := [.aload 0, .ldc 11, .invokevirtual 560571, .aload 0, .iconst 0, .iconst 30, .invokevirtual 568572, .istore 1, .iconst (-1), .istore 2, .iconst 0, .istore 3, .aload 0, .ldc 12, .invokevirtual 544568, 
  .ifCond .eq 25, .aload 0, .getfield 7092, .getfield 10140, .iconst (-1), .if_icmp .eq 25, .aload 0, .iconst 2, .invokevirtual 528571, .goto 41, .aload 0, .ldc 12, .invokevirtual 552568, .ifCond .eq 32, 
  .iconst 1, .istore 3, .goto 41, .aload 0, .ldc 13, .invokevirtual 552568, .ifCond .eq 41, .aload 0, .iconst 0, .iconst 999, .invokevirtual 568572, .istore 2, .aload 0, .getfield 7060, .ifCond .ne 82, 
  .aload 0, .getfield 7092, .getfield 10040, .iconst 8, .if_icmp .ge 82, .aload 0, .getfield 7092, .getfield 10002, .aload 0, .getfield 7092, .getfield 10040, .aaload, .iload 1, .putfield 4000, .aload 0, 
  .getfield 7092, .getfield 10002, .aload 0, .getfield 7092, .getfield 10040, .aaload, .iload 2, .putfield 4010, .iload 3, .ifCond .eq 75, .aload 0, .getfield 7092, .aload 0, .getfield 7092, 
  .getfield 10040, .putfield 10140, .aload 0, .getfield 7092, .dup, .getfield 10040, .iconst 1, .iadd, .putfield 10040, .return_]
def ps_78 : List Nat := [0, 1, 3, 6, 7, 8, 10, 13, 14, 15, 16, 17, 18, 19, 21, 24, 27, 28, 31, 34, 35, 38, 39, 40, 43, 46, 47, 49, 52, 55, 56, 57, 60, 61, 63, 66, 69, 70, 71, 74, 77, 78, 79, 82, 85, 86, 89, 92, 94, 97, 98, 
  101, 104, 105, 108, 111, 112, 113, 116, 117, 120, 123, 124, 127, 130, 131, 132, 135, 136, 139, 140, 143, 144, 147, 150, 153, 154, 157, 158, 161, 162, 163, 166]
theorem ck_78 : xChkM 7 false none prog_9_method_18_code cd_78 ps_78 = true := by decide +kernel
/-- LastCloud$Reader.readLeg()V -/
def cd_79 : List Instr := [.aload 0, .iconst 0, .invokevirtual 584568, .istore 1, .aload 0, .iconst 1, .iload 1, .ishl, .invokevirtual 584568, .istore 2, .aload 0, .ldc 14, .invokevirtual 560571, .aload 0, .iconst 1, .iconst 60, 
  .invokevirtual 568572, .istore 3, .aload 0, .ldc 15, .invokevirtual 560571, .aload 0, .iconst 999, .invokevirtual 576568, .istore 4, .aload 0, .ldc 17, .invokevirtual 560571, .aload 0, .iconst 60, 
  .invokevirtual 576568, .istore 5, .aload 0, .ldc 18, .invokevirtual 552568, .ifCond .eq 41, .aload 0, .iconst 0, .iconst 40, .invokevirtual 568572, .goto 42, .iconst 0, .istore 6, .aload 0, 
  .getfield 7060, .ifCond .ne 84, .aload 0, .getfield 7092, .getfield 10050, .iconst 10, .if_icmp .ge 84, .aload 0, .getfield 7092, .getfield 10012, .aload 0, .getfield 7092, .getfield 10050, .aaload, 
  .astore 7, .aload 7, .iload 1, .putfield 2000, .aload 7, .iload 2, .putfield 2010, .aload 7, .iload 3, .putfield 2020, .aload 7, .iload 4, .putfield 2030, .aload 7, .iload 5, .putfield 2040, .aload 7, 
  .iload 6, .putfield 2050, .aload 0, .getfield 7092, .dup, .getfield 10050, .iconst 1, .iadd, .putfield 10050, .return_]
def ps_79 : List Nat := [0, 1, 2, 5, 6, 7, 8, 9, 10, 13, 14, 15, 17, 20, 21, 22, 24, 27, 28, 29, 31, 34, 35, 38, 41, 43, 44, 46, 49, 50, 52, 55, 57, 58, 60, 63, 66, 67, 68, 70, 73, 76, 77, 79, 80, 83, 86, 87, 90, 93, 95, 98, 
  99, 102, 105, 106, 109, 112, 113, 115, 117, 118, 121, 123, 124, 127, 129, 130, 133, 135, 137, 140, 142, 144, 147, 149, 151, 154, 155, 158, 159, 162, 163, 164, 167]
theorem ck_79 : xChkM 7 false none prog_9_method_19_code cd_79 ps_79 = true := by decide +kernel
/-- LastCloud$Reader.readLift()V -/
def cd_80 : List Instr := [.aload 0, .aload 0, .getfield 7092, .invokevirtual 872804, .invokevirtual 584568, .istore 1, .aload 0, .ldc 19, .invokevirtual 560571, .aload 0, .iconst 0, .iconst 100, .invokevirtual 568572, 
  .istore 2, .aload 0, .ldc 20, .invokevirtual 560571, .aload 0, .iconst 0, .iconst 2000, .invokevirtual 568572, .istore 3, .iconst 0, .istore 4, .iconst 0, .istore 5, .aload 0, .ldc 21, 
  .invokevirtual 552568, .ifCond .eq 40, .aload 0, .iconst 0, .iconst 100, .invokevirtual 568572, .istore 4, .aload 0, .iconst 0, .iconst 100, .invokevirtual 568572, .istore 5, .aload 0, .getfield 7060, 
  .ifCond .ne 69, .aload 0, .getfield 7092, .iload 1, .invokevirtual 800808, .ifCond .eq 69, .aload 0, .getfield 7092, .getfield 10002, .iload 1, .aaload, .astore 6, .aload 6, .iconst 1, .putfield 4023, 
  .aload 6, .iload 2, .putfield 4030, .aload 6, .iload 3, .putfield 4040, .aload 6, .iload 4, .putfield 4050, .aload 6, .iload 5, .putfield 4060, .return_]
def ps_80 : List Nat := [0, 1, 2, 5, 8, 11, 12, 13, 15, 18, 19, 20, 22, 25, 26, 27, 30, 33, 34, 35, 38, 41, 42, 43, 45, 46, 48, 49, 52, 55, 58, 59, 60, 62, 65, 67, 68, 69, 71, 74, 76, 77, 80, 83, 84, 87, 88, 91, 94, 95, 98, 
  101, 102, 103, 105, 107, 108, 111, 113, 114, 117, 119, 120, 123, 125, 127, 130, 132, 134, 137]
theorem ck_80 : xChkM 7 false none prog_9_method_20_code cd_80 ps_80 = true := by decide +kernel
