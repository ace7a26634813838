/-- LastCloud$Reader.readSpeed()V -/
def cd_81 : List Instr := [.aload 0, .iconst 20, .iconst 150, .invokevirtual 568572, .istore 1, .aload 0, .ldc 22, .invokevirtual 560571, .aload 0, .iconst 1, .iconst 999, .invokevirtual 568572, .istore 2, .aload 0, 
  .getfield 7060, .ifCond .ne 22, .aload 0, .getfield 7092, .getfield 10022, .iload 1, .iload 2, .invokevirtual 448495, .return_]
def ps_81 : List Nat := [0, 1, 3, 6, 9, 10, 11, 14, 17, 18, 19, 22, 25, 26, 27, 30, 33, 34, 37, 40, 41, 42, 45]
theorem ck_81 : xChkM 7 false none prog_9_method_21_code cd_81 ps_81 = true := by decide +kernel
/-- LastCloud$Reader.readWorth()V -/
def cd_82 : List Instr := [.aload 0, .ldc 12, .invokevirtual 560571, .aload 0, .getfield 7092, .aload 0, .iconst 0, .iconst 9999, .invokevirtual 568572, .putfield 10110, .aload 0, .ldc 23, .invokevirtual 560571, .aload 0, 
  .getfield 7092, .aload 0, .iconst 0, .iconst 99, .invokevirtual 568572, .putfield 10120, .aload 0, .ldc 24, .invokevirtual 560571, .aload 0, .getfield 7092, .aload 0, .iconst 0, .iconst 9999, 
  .invokevirtual 568572, .putfield 10130, .return_]
def ps_82 : List Nat := [0, 1, 3, 6, 7, 10, 11, 12, 15, 18, 21, 22, 25, 28, 29, 32, 33, 34, 36, 39, 42, 43, 46, 49, 50, 53, 54, 55, 58, 61, 64]
theorem ck_82 : xChkM 7 false none prog_9_method_22_code cd_82 ps_82 = true := by decide +kernel
/-- LastCloud$Reader.readStart()V -/
def cd_83 : List Instr := [.aload 0, .iconst 0, .invokevirtual 584568, .istore 1, .aload 0, .ldc 25, .invokevirtual 560571, .aload 0, .iconst 0, .iconst 60, .invokevirtual 568572, .istore 2, .aload 0, .ldc 26, 
  .invokevirtual 552568, .istore 3, .aload 0, .getfield 7060, .ifCond .ne 31, .aload 0, .getfield 7092, .iload 1, .putfield 10150, .aload 0, .getfield 7092, .iload 2, .putfield 10160, .aload 0, 
  .getfield 7092, .iload 3, .putfield 10173, .return_]
def ps_83 : List Nat := [0, 1, 2, 5, 6, 7, 10, 13, 14, 15, 17, 20, 21, 22, 25, 28, 29, 30, 33, 36, 37, 40, 41, 44, 45, 48, 49, 52, 53, 56, 57, 60]
theorem ck_83 : xChkM 7 false none prog_9_method_23_code cd_83 ps_83 = true := by decide +kernel
/-- LastCloud$Route.<init>()V -/
def cd_84 : List Instr := [.aload 0, .dneg, .aload 0, .iconst 3072, .newarray .int, .putfield 8002, .aload 0, .iconst 8, .newarray .int, .putfield 8012, .aload 0, .iconst 8, .newarray .int, .putfield 8022, .aload 0, .iconst 49, 
  .newarray .int, .putfield 8032, .return_]
def ps_84 : List Nat := [0, 1, 4, 5, 8, 10, 13, 14, 16, 18, 21, 22, 24, 26, 29, 30, 32, 34, 37]
theorem ck_84 : xChkM 8 true none prog_10_method_1_code cd_84 ps_84 = true := by decide +kernel
/-- LastCloud$Route.spot(III)I -/
def cd_85 : List Instr := [.iload 0, .iconst 8, .imul, .iload 1, .iadd, .iconst 8, .imul, .iload 2, .iadd, .ireturn]
def ps_85 : List Nat := [0, 1, 3, 4, 5, 6, 8, 9, 10, 11]
theorem ck_85 : xChkM 8 false (some .int) prog_10_method_2_code cd_85 ps_85 = true := by decide +kernel
/-- LastCloud$Route.fewest(LLastCloud$Sky;LLastCloud$Hops;I)I -/
def cd_86 : List Instr := [.aload 0, .aload 1, .aload 2, .iload 3, .invokevirtual 696659, .aload 0, .getfield 8002, .iconst 1000000, .invokestatic 2575931, .aload 0, .getfield 8072, .getfield 10140, .iconst (-1), 
  .if_icmp .ne 16, .iconst (-1), .ireturn, .aload 0, .getfield 8002, .iconst 0, .aload 0, .getfield 8050, .aload 0, .getfield 8072, .getfield 10140, .invokestatic 687932, .aload 0, .getfield 8072, 
  .getfield 10002, .aload 0, .getfield 8072, .getfield 10140, .aaload, .getfield 4000, .iastore, .iconst 0, .aload 0, .getfield 8012, .aload 0, .getfield 8072, .getfield 10150, .iaload, .aload 0, 
  .getfield 8072, .getfield 10150, .invokestatic 687932, .istore 4, .iconst 0, .istore 5, .iload 5, .aload 0, .getfield 8072, .getfield 10100, .if_icmp .gt 75, .iload 5, .ifCond .le 58, .aload 0, 
  .iload 5, .invokevirtual 704651, .aload 0, .getfield 8002, .iload 4, .iload 5, .iconst 0, .iconst 0, .invokestatic 687932, .iadd, .iaload, .aload 0, .getfield 8072, .getfield 10160, .if_icmp .gt 73, 
  .iload 5, .ireturn, .iinc 5 1, .goto 48, .iconst (-1), .ireturn]
def ps_86 : List Nat := [0, 1, 2, 3, 4, 7, 8, 11, 13, 16, 17, 20, 23, 24, 27, 28, 29, 30, 33, 34, 35, 38, 39, 42, 45, 48, 49, 52, 55, 56, 59, 62, 63, 66, 67, 68, 69, 72, 73, 76, 79, 80, 81, 84, 87, 90, 92, 93, 95, 97, 98, 101, 
  104, 107, 109, 112, 113, 115, 118, 119, 122, 124, 126, 127, 128, 131, 132, 133, 134, 137, 140, 143, 145, 146, 149, 152, 153]
theorem ck_86 : xChkM 8 false (some .int) prog_10_method_3_code cd_86 ps_86 = true := by decide +kernel
/-- LastCloud$Route.begin(LLastCloud$Sky;LLastCloud$Hops;I)V -/
def cd_87 : List Instr := [.aload 0, .aload 1, .putfield 8072, .aload 0, .aload 2, .putfield 8082, .aload 0, .aload 0, .getfield 8072, .invokevirtual 848804, .putfield 8063, .iconst 0, .istore 4, .iconst 0, .istore 5, .iload 5, 
  .aload 0, .getfield 8072, .getfield 10040, .if_icmp .ge 71, .aload 0, .getfield 8072, .getfield 10180, .iload 5, .ishr, .iconst 1, .iand, .ifCond .eq 30, .iconst 1, .goto 31, .iconst 0, .istore 6, 
  .aload 0, .getfield 8012, .iload 5, .iload 6, .ifCond .eq 41, .iconst 1, .iload 4, .ishl, .goto 42, .iconst 0, .iastore, .iload 4, .iload 6, .ifCond .eq 48, .iconst 1, .goto 49, .iconst 0, .iadd, 
  .istore 4, .aload 0, .getfield 8022, .iload 5, .iload 3, .iload 5, .ishr, .iconst 1, .iand, .ifCond .eq 67, .aload 0, .getfield 8072, .iload 5, .aload 0, .getfield 8060, .invokevirtual 904812, 
  .goto 68, .iconst 0, .iastore, .iinc 5 1, .goto 15, .aload 0, .iconst 1, .iload 4, .ishl, .iconst 1, .isub, .putfield 8050, .return_]
def ps_87 : List Nat := [0, 1, 2, 5, 6, 7, 10, 11, 12, 15, 18, 21, 22, 24, 25, 27, 29, 30, 33, 36, 39, 40, 43, 46, 48, 49, 50, 51, 54, 55, 58, 59, 61, 62, 65, 67, 69, 72, 73, 75, 76, 79, 80, 81, 83, 85, 88, 89, 92, 93, 94, 96, 
  97, 100, 102, 103, 105, 106, 107, 108, 111, 112, 115, 117, 118, 121, 124, 127, 128, 129, 132, 135, 136, 137, 139, 140, 141, 142, 145]
theorem ck_87 : xChkM 8 false none prog_10_method_4_code cd_87 ps_87 = true := by decide +kernel
/-- LastCloud$Route.fillPeriods(I)V -/
def cd_88 : List Instr := [.iconst 0, .istore 2, .iload 2, .aload 0, .getfield 8050, .if_icmp .gt 67, .iconst 0, .istore 3, .iload 3, .aload 0, .getfield 8072, .getfield 10040, .if_icmp .ge 65, .aload 0, .getfield 8002, 
  .iload 1, .iconst 1, .isub, .iload 2, .iload 3, .invokestatic 687932, .iaload, .istore 4, .iload 4, .aload 0, .iload 1, .iload 2, .iload 3, .invokevirtual 712656, .dsub, .istore 5, .iload 4, 
  .iconst 1000000, .if_icmp .eq 55, .aload 0, .getfield 8022, .iload 3, .iaload, .ifCond .le 55, .iload 5, .aload 0, .getfield 8072, .getfield 10002, .iload 3, .aaload, .getfield 4000, .iload 4, 
  .aload 0, .getfield 8022, .iload 3, .iaload, .isub, .dadd, .dsub, .istore 5, .aload 0, .getfield 8002, .iload 1, .iload 2, .iload 3, .invokestatic 687932, .iload 5, .iastore, .iinc 3 1, .goto 8, 
  .iinc 2 1, .goto 2, .return_]
def ps_88 : List Nat := [0, 1, 2, 3, 4, 7, 10, 11, 12, 13, 14, 17, 20, 23, 24, 27, 28, 29, 30, 31, 32, 35, 36, 38, 40, 41, 42, 43, 44, 47, 50, 52, 54, 56, 59, 60, 63, 64, 65, 68, 70, 71, 74, 77, 78, 79, 82, 84, 85, 88, 89, 90, 
  91, 94, 97, 99, 100, 103, 104, 105, 106, 109, 111, 112, 115, 118, 121, 124]
theorem ck_88 : xChkM 8 false none prog_10_method_5_code cd_88 ps_88 = true := by decide +kernel
/-- LastCloud$Route.leastByHops(III)I -/
def cd_89 : List Instr := [.iconst 1000000, .istore 4, .iload 3, .aload 0, .getfield 8060, .invokestatic 135928, .istore 5, .aload 0, .getfield 8082, .getfield 1002, .iload 5, .iaload, .istore 6, .iload 6, .aload 0, 
  .getfield 8082, .getfield 1002, .iload 5, .iconst 1, .iadd, .iaload, .if_icmp .ge 66, .aload 0, .getfield 8082, .getfield 1022, .iload 6, .iaload, .iload 1, .if_icmp .gt 64, .aload 0, .getfield 8002, 
  .aload 0, .iload 6, .iload 1, .iload 2, .invokevirtual 720656, .iaload, .istore 7, .aload 0, .getfield 8082, .getfield 1042, .iload 6, .iaload, .iload 7, .aload 0, .getfield 8082, .getfield 1032, 
  .iload 6, .iaload, .iadd, .dadd, .istore 8, .iload 7, .iconst 1000000, .if_icmp .eq 64, .iload 8, .aload 0, .getfield 8072, .getfield 10090, .if_icmp .gt 64, .iload 4, .iload 8, .dsub, .istore 4, 
  .iinc 6 1, .goto 13, .iload 4, .ireturn]
def ps_89 : List Nat := [0, 2, 4, 5, 6, 9, 12, 14, 15, 18, 21, 23, 24, 26, 28, 29, 32, 35, 37, 38, 39, 40, 43, 44, 47, 50, 52, 53, 54, 57, 58, 61, 62, 64, 65, 66, 69, 70, 72, 73, 76, 79, 81, 82, 84, 85, 88, 91, 93, 94, 95, 98, 
  100, 102, 104, 107, 109, 110, 113, 116, 119, 121, 123, 126, 128, 131, 134, 136]
theorem ck_89 : xChkM 8 false (some .int) prog_10_method_6_code cd_89 ps_89 = true := by decide +kernel
/-- LastCloud$Route.behind(III)I -/
def cd_90 : List Instr := [.aload 0, .getfield 8082, .getfield 1012, .iload 1, .iaload, .istore 4, .iload 2, .aload 0, .getfield 8082, .getfield 1022, .iload 1, .iaload, .isub, .iload 3, .aload 0, .getfield 8012, .iload 4, 
  .iaload, .ior, .iload 4, .invokestatic 687932, .ireturn]
def ps_90 : List Nat := [0, 1, 4, 7, 8, 9, 11, 12, 13, 16, 19, 20, 21, 22, 23, 24, 27, 29, 30, 31, 33, 36]
theorem ck_90 : xChkM 8 false (some .int) prog_10_method_7_code cd_90 ps_90 = true := by decide +kernel
/-- LastCloud$Route.walk(I)V -/
def cd_91 : List Instr := [.iload 1, .istore 2, .aload 0, .getfield 8072, .getfield 10150, .istore 3, .aload 0, .getfield 8072, .getfield 10160, .istore 4, .aload 0, .getfield 8012, .iload 3, .iaload, .istore 5, .aload 0, 
  .iconst 0, .putfield 8040, .aload 0, .iload 3, .invokevirtual 744651, .iconst 0, .istore 6, .iload 6, .iconst 48, .if_icmp .ge 104, .iload 2, .ifCond .le 104, .aload 0, .getfield 8072, .iload 4, 
  .aload 0, .getfield 8022, .iload 3, .iaload, .iadd, .invokevirtual 920808, .istore 7, .iload 7, .iload 4, .if_icmp .le 56, .aload 0, .getfield 8002, .iload 2, .iconst 1, .isub, .iload 5, .iload 3, 
  .invokestatic 687932, .iaload, .iload 7, .if_icmp .gt 56, .iload 7, .istore 4, .iinc 2 (-1), .goto 102, .aload 0, .iload 2, .iload 5, .iload 3, .iload 4, .invokevirtual 736660, .istore 8, .iload 8, 
  .iconst (-1), .if_icmp .ne 67, .return_, .aload 0, .getfield 8082, .getfield 1012, .iload 8, .iaload, .istore 3, .aload 0, .getfield 8072, .iload 4, .aload 0, .getfield 8082, .getfield 1032, .iload 8, 
  .iaload, .isub, .invokevirtual 920808, .istore 4, .iload 5, .aload 0, .getfield 8012, .iload 3, .iaload, .ior, .istore 5, .iload 2, .aload 0, .getfield 8082, .getfield 1022, .iload 8, .iaload, .isub, 
  .istore 2, .aload 0, .iload 3, .invokevirtual 744651, .iinc 6 1, .goto 23, .return_]
def ps_91 : List Nat := [0, 1, 2, 3, 6, 9, 10, 11, 14, 17, 19, 20, 23, 24, 25, 27, 28, 29, 32, 33, 34, 37, 38, 40, 42, 44, 47, 48, 51, 52, 55, 57, 58, 61, 62, 63, 64, 67, 69, 71, 73, 76, 77, 80, 81, 82, 83, 85, 86, 89, 90, 92, 
  95, 97, 99, 102, 105, 106, 107, 109, 110, 112, 115, 117, 119, 120, 123, 124, 125, 128, 131, 133, 134, 135, 136, 139, 141, 142, 145, 148, 150, 151, 152, 155, 157, 159, 160, 163, 164, 165, 166, 168, 169, 
  170, 173, 176, 178, 179, 180, 181, 182, 183, 186, 189, 192]
theorem ck_91 : xChkM 8 false none prog_10_method_8_code cd_91 ps_91 = true := by decide +kernel
/-- LastCloud$Route.firstHop(IIII)I -/
def cd_92 : List Instr := [.iload 3, .aload 0, .getfield 8060, .invokestatic 135928, .istore 5, .aload 0, .getfield 8082, .getfield 1002, .iload 5, .iaload, .istore 6, .iload 6, .aload 0, .getfield 8082, .getfield 1002, 
  .iload 5, .iconst 1, .iadd, .iaload, .if_icmp .ge 57, .iload 4, .aload 0, .getfield 8082, .getfield 1042, .iload 6, .iaload, .if_icmp .lt 55, .aload 0, .getfield 8082, .getfield 1022, .iload 6, 
  .iaload, .iload 1, .if_icmp .gt 55, .aload 0, .getfield 8002, .aload 0, .iload 6, .iload 1, .iload 2, .invokevirtual 720656, .iaload, .aload 0, .getfield 8072, .iload 4, .aload 0, .getfield 8082, 
  .getfield 1032, .iload 6, .iaload, .isub, .invokevirtual 920808, .if_icmp .gt 55, .iload 6, .ireturn, .iinc 6 1, .goto 11, .iconst (-1), .ireturn]
def ps_92 : List Nat := [0, 1, 2, 5, 8, 10, 11, 14, 17, 19, 20, 22, 24, 25, 28, 31, 33, 34, 35, 36, 39, 41, 42, 45, 48, 50, 51, 54, 55, 58, 61, 63, 64, 65, 68, 69, 72, 73, 75, 76, 77, 80, 81, 82, 85, 87, 88, 91, 94, 96, 97, 
  98, 101, 104, 106, 107, 110, 113, 114]
theorem ck_92 : xChkM 8 false (some .int) prog_10_method_9_code cd_92 ps_92 = true := by decide +kernel
/-- LastCloud$Route.addToWay(I)V -/
def cd_93 : List Instr := [.aload 0, .getfield 8040, .aload 0, .getfield 8032, .arraylength, .if_icmp .ge 18, .aload 0, .getfield 8032, .aload 0, .getfield 8040, .iload 1, .iastore, .aload 0, .dup, .getfield 8040, .iconst 1, 
  .iadd, .putfield 8040, .return_]
def ps_93 : List Nat := [0, 1, 4, 5, 8, 9, 12, 13, 16, 17, 20, 21, 22, 23, 24, 27, 28, 29, 32]
theorem ck_93 : xChkM 8 false none prog_10_method_10_code cd_93 ps_93 = true := by decide +kernel
/-- LastCloud$Sights.<init>()V -/
def cd_94 : List Instr := [.aload 0, .dneg, .aload 0, .iconst 20, .newarray .int, .putfield 9012, .aload 0, .iconst 20, .newarray .int, .putfield 9022, .return_]
def ps_94 : List Nat := [0, 1, 4, 5, 7, 9, 12, 13, 15, 17, 20]
theorem ck_94 : xChkM 9 true none prog_11_method_1_code cd_94 ps_94 = true := by decide +kernel
/-- LastCloud$Sights.add(II)V -/
def cd_95 : List Instr := [.aload 0, .getfield 9000, .iconst 20, .if_icmp .ge 22, .aload 0, .getfield 9012, .aload 0, .getfield 9000, .iload 1, .iastore, .aload 0, .getfield 9022, .aload 0, .getfield 9000, .iload 2, .iastore, 
  .aload 0, .dup, .getfield 9000, .iconst 1, .iadd, .putfield 9000, .return_]
def ps_95 : List Nat := [0, 1, 4, 6, 9, 10, 13, 14, 17, 18, 19, 20, 23, 24, 27, 28, 29, 30, 31, 34, 35, 36, 39]
theorem ck_95 : xChkM 9 false none prog_11_method_2_code cd_95 ps_95 = true := by decide +kernel
/-- LastCloud$Sights.copyFrom(LLastCloud$Sights;)V -/
def cd_96 : List Instr := [.aload 0, .aload 1, .getfield 9000, .putfield 9000, .aload 1, .getfield 9012, .iconst 0, .aload 0, .getfield 9012, .iconst 0, .iconst 20, .dmul, .aload 1, .getfield 9022, .iconst 0, .aload 0, 
  .getfield 9022, .iconst 0, .iconst 20, .dmul, .return_]
def ps_96 : List Nat := [0, 1, 2, 5, 8, 9, 12, 13, 14, 17, 18, 20, 23, 24, 27, 28, 29, 32, 33, 35, 38]
theorem ck_96 : xChkM 9 false none prog_11_method_3_code cd_96 ps_96 = true := by decide +kernel
/-- LastCloud$Sky.<init>()V -/
def cd_97 : List Instr := [.aload 0, .dneg, .aload 0, .iconst 8, .anewarray 25, .putfield 10002, .aload 0, .iconst 10, .anewarray 26, .putfield 10012, .aload 0, .new 6, .dup, .invokespecial 440487, .putfield 10022, .aload 0, 
  .new 9, .dup, .invokespecial 752727, .putfield 10032, .iconst 0, .istore 1, .iload 1, .iconst 8, .if_icmp .ge 34, .aload 0, .getfield 10002, .iload 1, .new 4, .dup, .invokespecial 280327, .aastore, 
  .iinc 1 1, .goto 22, .iconst 0, .istore 1, .iload 1, .iconst 10, .if_icmp .ge 48, .aload 0, .getfield 10012, .iload 1, .new 2, .dup, .invokespecial 216167, .aastore, .iinc 1 1, .goto 36, .aload 0, 
  .invokevirtual 784807, .return_]
def ps_97 : List Nat := [0, 1, 4, 5, 7, 10, 13, 14, 16, 19, 22, 23, 26, 27, 30, 33, 34, 37, 38, 41, 44, 45, 46, 47, 49, 52, 53, 56, 57, 60, 61, 64, 65, 68, 71, 72, 73, 74, 76, 79, 80, 83, 84, 87, 88, 91, 92, 95, 98, 99, 102]
theorem ck_97 : xChkM 10 true none prog_12_method_1_code cd_97 ps_97 = true := by decide +kernel
/-- LastCloud$Sky.clear()V -/
def cd_98 : List Instr := [.iconst 0, .istore 1, .iload 1, .iconst 8, .if_icmp .ge 12, .aload 0, .getfield 10002, .iload 1, .aaload, .invokevirtual 288327, .iinc 1 1, .goto 2, .aload 0, .getfield 10022, .iconst 0, 
  .putfield 6000, .aload 0, .getfield 10032, .iconst 0, .putfield 9000, .aload 0, .iconst 0, .putfield 10040, .aload 0, .iconst 0, .putfield 10050, .aload 0, .iconst 0, .putfield 10060, .aload 0, 
  .iconst 0, .putfield 10070, .aload 0, .iconst 0, .putfield 10080, .aload 0, .iconst 40, .putfield 10090, .aload 0, .iconst 40, .putfield 10100, .aload 0, .iconst 1000, .putfield 10110, .aload 0, 
  .iconst 0, .putfield 10120, .aload 0, .iconst 0, .putfield 10130, .aload 0, .iconst (-1), .putfield 10140, .aload 0, .iconst (-1), .putfield 10150, .aload 0, .iconst 0, .putfield 10160, .aload 0, 
  .iconst 0, .putfield 10173, .aload 0, .iconst 0, .putfield 10180, .return_]
def ps_98 : List Nat := [0, 1, 2, 3, 5, 8, 9, 12, 13, 14, 17, 20, 23, 24, 27, 28, 31, 32, 35, 36, 39, 40, 41, 44, 45, 46, 49, 50, 51, 54, 55, 56, 59, 60, 61, 64, 65, 67, 70, 71, 73, 76, 77, 80, 83, 84, 85, 88, 89, 90, 93, 94, 
  95, 98, 99, 100, 103, 104, 105, 108, 109, 110, 113, 114, 115, 118]
theorem ck_98 : xChkM 10 false none prog_12_method_2_code cd_98 ps_98 = true := by decide +kernel
/-- LastCloud$Sky.copyFrom(LLastCloud$Sky;)V -/
def cd_99 : List Instr := [.iconst 0, .istore 2, .iload 2, .iconst 8, .if_icmp .ge 16, .aload 0, .getfield 10002, .iload 2, .aaload, .aload 1, .getfield 10002, .iload 2, .aaload, .invokevirtual 296331, .iinc 2 1, .goto 2, 
  .iconst 0, .istore 2, .iload 2, .iconst 10, .if_icmp .ge 32, .aload 0, .getfield 10012, .iload 2, .aaload, .aload 1, .getfield 10012, .iload 2, .aaload, .invokevirtual 224171, .iinc 2 1, .goto 18, 
  .aload 0, .getfield 10022, .aload 1, .getfield 10022, .invokevirtual 456491, .aload 0, .getfield 10032, .aload 1, .getfield 10032, .invokevirtual 768731, .aload 0, .aload 1, .getfield 10040, 
  .putfield 10040, .aload 0, .aload 1, .getfield 10050, .putfield 10050, .aload 0, .aload 1, .getfield 10060, .putfield 10060, .aload 0, .aload 1, .getfield 10070, .putfield 10070, .aload 0, .aload 1, 
  .getfield 10080, .putfield 10080, .aload 0, .aload 1, .getfield 10090, .putfield 10090, .aload 0, .aload 1, .getfield 10100, .putfield 10100, .aload 0, .aload 1, .getfield 10110, .putfield 10110, 
  .aload 0, .aload 1, .getfield 10120, .putfield 10120, .aload 0, .aload 1, .getfield 10130, .putfield 10130, .aload 0, .aload 1, .getfield 10140, .putfield 10140, .aload 0, .aload 1, .getfield 10150, 
  .putfield 10150, .aload 0, .aload 1, .getfield 10160, .putfield 10160, .aload 0, .aload 1, .getfield 10170, .putfield 10173, .aload 0, .aload 1, .getfield 10180, .putfield 10180, .return_]
def ps_99 : List Nat := [0, 1, 2, 3, 5, 8, 9, 12, 13, 14, 15, 18, 19, 20, 23, 26, 29, 30, 31, 32, 34, 37, 38, 41, 42, 43, 44, 47, 48, 49, 52, 55, 58, 59, 62, 63, 66, 69, 70, 73, 74, 77, 80, 81, 82, 85, 88, 89, 90, 93, 96, 97, 
  98, 101, 104, 105, 106, 109, 112, 113, 114, 117, 120, 121, 122, 125, 128, 129, 130, 133, 136, 137, 138, 141, 144, 145, 146, 149, 152, 153, 154, 157, 160, 161, 162, 165, 168, 169, 170, 173, 176, 177, 
  178, 181, 184, 185, 186, 189, 192, 193, 194, 197, 200]
theorem ck_99 : xChkM 10 false none prog_12_method_3_code cd_99 ps_99 = true := by decide +kernel
/-- LastCloud$Sky.hasPlace(I)Z -/
def cd_100 : List Instr := [.iload 1, .ifCond .lt 8, .iload 1, .aload 0, .getfield 10040, .if_icmp .ge 8, .iconst 1, .goto 9, .iconst 0, .freturn]
def ps_100 : List Nat := [0, 1, 4, 5, 6, 9, 12, 13, 16, 17]
theorem ck_100 : xChkM 10 false (some .boolean) prog_12_method_4_code cd_100 ps_100 = true := by decide +kernel
/-- LastCloud$Sky.hasLeg(I)Z -/
def cd_101 : List Instr := [.iload 1, .ifCond .lt 8, .iload 1, .aload 0, .getfield 10050, .if_icmp .ge 8, .iconst 1, .goto 9, .iconst 0, .freturn]
def ps_101 : List Nat := [0, 1, 4, 5, 6, 9, 12, 13, 16, 17]
theorem ck_101 : xChkM 10 false (some .boolean) prog_12_method_5_code cd_101 ps_101 = true := by decide +kernel
/-- LastCloud$Sky.hasSpeed(I)Z -/
def cd_102 : List Instr := [.iload 1, .ifCond .lt 9, .iload 1, .aload 0, .getfield 10022, .getfield 6000, .if_icmp .ge 9, .iconst 1, .goto 10, .iconst 0, .freturn]
def ps_102 : List Nat := [0, 1, 4, 5, 6, 9, 12, 15, 16, 19, 20]
theorem ck_102 : xChkM 10 false (some .boolean) prog_12_method_6_code cd_102 ps_102 = true := by decide +kernel
/-- LastCloud$Sky.hasHeight(I)Z -/
def cd_103 : List Instr := [.iload 1, .ifCond .lt 8, .iload 1, .aload 0, .getfield 10090, .if_icmp .gt 8, .iconst 1, .goto 9, .iconst 0, .freturn]
def ps_103 : List Nat := [0, 1, 4, 5, 6, 9, 12, 13, 16, 17]
theorem ck_103 : xChkM 10 false (some .boolean) prog_12_method_7_code cd_103 ps_103 = true := by decide +kernel
/-- LastCloud$Sky.hasState(IIIZ)Z -/
def cd_104 : List Instr := [.aload 0, .iload 1, .invokevirtual 800808, .ifCond .eq 28, .iload 2, .aload 0, .getfield 10002, .iload 1, .aaload, .getfield 4000, .if_icmp .lt 28, .iload 2, .aload 0, .getfield 10090, .if_icmp .gt 28, 
  .iload 3, .ifCond .lt 28, .iload 3, .aload 0, .getfield 10100, .if_icmp .gt 28, .iload 4, .ifCond .eq 26, .aload 0, .getfield 10080, .ifCond .le 28, .iconst 1, .goto 29, .iconst 0, .freturn]
def ps_104 : List Nat := [0, 1, 2, 5, 8, 9, 10, 13, 14, 15, 18, 21, 22, 23, 26, 29, 30, 33, 34, 35, 38, 41, 43, 46, 47, 50, 53, 54, 57, 58]
theorem ck_104 : xChkM 10 false (some .boolean) prog_12_method_8_code cd_104 ps_104 = true := by decide +kernel
/-- LastCloud$Sky.hasStart()Z -/
def cd_105 : List Instr := [.aload 0, .aload 0, .getfield 10150, .invokevirtual 800808, .freturn]
def ps_105 : List Nat := [0, 1, 2, 5, 8]
theorem ck_105 : xChkM 10 false (some .boolean) prog_12_method_9_code cd_105 ps_105 = true := by decide +kernel
/-- LastCloud$Sky.startsWet()Z -/
def cd_106 : List Instr := [.aload 0, .getfield 10170, .ifCond .eq 8, .aload 0, .getfield 10080, .ifCond .le 8, .iconst 1, .goto 9, .iconst 0, .freturn]
def ps_106 : List Nat := [0, 1, 4, 7, 8, 11, 14, 15, 18, 19]
theorem ck_106 : xChkM 10 false (some .boolean) prog_12_method_10_code cd_106 ps_106 = true := by decide +kernel
/-- LastCloud$Sky.isToLandAt(I)Z -/
def cd_107 : List Instr := [.iload 1, .aload 0, .getfield 10140, .if_icmp .eq 11, .aload 0, .getfield 10002, .iload 1, .aaload, .getfield 4010, .iconst (-1), .if_icmp .eq 13, .iconst 1, .goto 14, .iconst 0, .freturn]
def ps_107 : List Nat := [0, 1, 2, 5, 8, 9, 12, 13, 14, 17, 18, 21, 22, 25, 26]
theorem ck_107 : xChkM 10 false (some .boolean) prog_12_method_11_code cd_107 ps_107 = true := by decide +kernel
