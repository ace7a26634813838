/-- LastCloud$Sights.add(II)V -/
def cd_108 : List Instr := [.aload 0, .getfield 9000, .iconst 20, .if_icmp .ge 22, .aload 0, .getfield 9012, .aload 0, .getfield 9000, .iload 1, .iastore, .aload 0, .getfield 9022, .aload 0, .getfield 9000, .iload 2, .iastore, 
  .aload 0, .dup, .getfield 9000, .iconst 1, .iadd, .putfield 9000, .return_]
def ps_108 : List Nat := [0, 1, 4, 6, 9, 10, 13, 14, 17, 18, 19, 20, 23, 24, 27, 28, 29, 30, 31, 34, 35, 36, 39]
theorem ck_108 : xChkM 9 false none prog_11_method_2_code cd_108 ps_108 = true := by decide +kernel
/-- LastCloud$Sights.copyFrom(LLastCloud$Sights;)V -/
def cd_109 : List Instr := [.aload 0, .aload 1, .getfield 9000, .putfield 9000, .aload 1, .getfield 9012, .iconst 0, .aload 0, .getfield 9012, .iconst 0, .iconst 20, .dmul, .aload 1, .getfield 9022, .iconst 0, .aload 0, 
  .getfield 9022, .iconst 0, .iconst 20, .dmul, .return_]
def ps_109 : List Nat := [0, 1, 2, 5, 8, 9, 12, 13, 14, 17, 18, 20, 23, 24, 27, 28, 29, 32, 33, 35, 38]
theorem ck_109 : xChkM 9 false none prog_11_method_3_code cd_109 ps_109 = true := by decide +kernel
/-- LastCloud$Sky.<init>()V -/
def cd_110 : List Instr := [.aload 0, .dneg, .aload 0, .iconst 8, .anewarray 25, .putfield 10002, .aload 0, .iconst 10, .anewarray 26, .putfield 10012, .aload 0, .new 6, .dup, .invokespecial 512487, .putfield 10022, .aload 0, 
  .new 9, .dup, .invokespecial 856727, .putfield 10032, .iconst 0, .istore 1, .iload 1, .iconst 8, .if_icmp .ge 34, .aload 0, .getfield 10002, .iload 1, .new 4, .dup, .invokespecial 320327, .aastore, 
  .iinc 1 1, .goto 22, .iconst 0, .istore 1, .iload 1, .iconst 10, .if_icmp .ge 48, .aload 0, .getfield 10012, .iload 1, .new 2, .dup, .invokespecial 240167, .aastore, .iinc 1 1, .goto 36, .aload 0, 
  .invokevirtual 888807, .return_]
def ps_110 : List Nat := [0, 1, 4, 5, 7, 10, 13, 14, 16, 19, 22, 23, 26, 27, 30, 33, 34, 37, 38, 41, 44, 45, 46, 47, 49, 52, 53, 56, 57, 60, 61, 64, 65, 68, 71, 72, 73, 74, 76, 79, 80, 83, 84, 87, 88, 91, 92, 95, 98, 99, 102]
theorem ck_110 : xChkM 10 true none prog_12_method_1_code cd_110 ps_110 = true := by decide +kernel
/-- LastCloud$Sky.clear()V -/
def cd_111 : List Instr := [.iconst 0, .istore 1, .iload 1, .iconst 8, .if_icmp .ge 12, .aload 0, .getfield 10002, .iload 1, .aaload, .invokevirtual 328327, .iinc 1 1, .goto 2, .aload 0, .getfield 10022, .iconst 0, 
  .putfield 6000, .aload 0, .getfield 10032, .iconst 0, .putfield 9000, .aload 0, .iconst 0, .putfield 10040, .aload 0, .iconst 0, .putfield 10050, .aload 0, .iconst 0, .putfield 10060, .aload 0, 
  .iconst 0, .putfield 10070, .aload 0, .iconst 0, .putfield 10080, .aload 0, .iconst 40, .putfield 10090, .aload 0, .iconst 40, .putfield 10100, .aload 0, .iconst 1000, .putfield 10110, .aload 0, 
  .iconst 0, .putfield 10120, .aload 0, .iconst 0, .putfield 10130, .aload 0, .iconst (-1), .putfield 10140, .aload 0, .iconst (-1), .putfield 10150, .aload 0, .iconst 0, .putfield 10160, .aload 0, 
  .iconst 0, .putfield 10173, .aload 0, .iconst 0, .putfield 10180, .return_]
def ps_111 : List Nat := [0, 1, 2, 3, 5, 8, 9, 12, 13, 14, 17, 20, 23, 24, 27, 28, 31, 32, 35, 36, 39, 40, 41, 44, 45, 46, 49, 50, 51, 54, 55, 56, 59, 60, 61, 64, 65, 67, 70, 71, 73, 76, 77, 80, 83, 84, 85, 88, 89, 90, 93, 94, 
  95, 98, 99, 100, 103, 104, 105, 108, 109, 110, 113, 114, 115, 118]
theorem ck_111 : xChkM 10 false none prog_12_method_2_code cd_111 ps_111 = true := by decide +kernel
/-- LastCloud$Sky.copyFrom(LLastCloud$Sky;)V -/
def cd_112 : List Instr := [.iconst 0, .istore 2, .iload 2, .iconst 8, .if_icmp .ge 16, .aload 0, .getfield 10002, .iload 2, .aaload, .aload 1, .getfield 10002, .iload 2, .aaload, .invokevirtual 336331, .iinc 2 1, .goto 2, 
  .iconst 0, .istore 2, .iload 2, .iconst 10, .if_icmp .ge 32, .aload 0, .getfield 10012, .iload 2, .aaload, .aload 1, .getfield 10012, .iload 2, .aaload, .invokevirtual 248171, .iinc 2 1, .goto 18, 
  .aload 0, .getfield 10022, .aload 1, .getfield 10022, .invokevirtual 528491, .aload 0, .getfield 10032, .aload 1, .getfield 10032, .invokevirtual 872731, .aload 0, .aload 1, .getfield 10040, 
  .putfield 10040, .aload 0, .aload 1, .getfield 10050, .putfield 10050, .aload 0, .aload 1, .getfield 10060, .putfield 10060, .aload 0, .aload 1, .getfield 10070, .putfield 10070, .aload 0, .aload 1, 
  .getfield 10080, .putfield 10080, .aload 0, .aload 1, .getfield 10090, .putfield 10090, .aload 0, .aload 1, .getfield 10100, .putfield 10100, .aload 0, .aload 1, .getfield 10110, .putfield 10110, 
  .aload 0, .aload 1, .getfield 10120, .putfield 10120, .aload 0, .aload 1, .getfield 10130, .putfield 10130, .aload 0, .aload 1, .getfield 10140, .putfield 10140, .aload 0, .aload 1, .getfield 10150, 
  .putfield 10150, .aload 0, .aload 1, .getfield 10160, .putfield 10160, .aload 0, .aload 1, .getfield 10170, .putfield 10173, .aload 0, .aload 1, .getfield 10180, .putfield 10180, .return_]
def ps_112 : List Nat := [0, 1, 2, 3, 5, 8, 9, 12, 13, 14, 15, 18, 19, 20, 23, 26, 29, 30, 31, 32, 34, 37, 38, 41, 42, 43, 44, 47, 48, 49, 52, 55, 58, 59, 62, 63, 66, 69, 70, 73, 74, 77, 80, 81, 82, 85, 88, 89, 90, 93, 96, 97, 
  98, 101, 104, 105, 106, 109, 112, 113, 114, 117, 120, 121, 122, 125, 128, 129, 130, 133, 136, 137, 138, 141, 144, 145, 146, 149, 152, 153, 154, 157, 160, 161, 162, 165, 168, 169, 170, 173, 176, 177, 
  178, 181, 184, 185, 186, 189, 192, 193, 194, 197, 200]
theorem ck_112 : xChkM 10 false none prog_12_method_3_code cd_112 ps_112 = true := by decide +kernel
/-- LastCloud$Sky.hasPlace(I)Z -/
def cd_113 : List Instr := [.iload 1, .ifCond .lt 8, .iload 1, .aload 0, .getfield 10040, .if_icmp .ge 8, .iconst 1, .goto 9, .iconst 0, .freturn]
def ps_113 : List Nat := [0, 1, 4, 5, 6, 9, 12, 13, 16, 17]
theorem ck_113 : xChkM 10 false (some .boolean) prog_12_method_4_code cd_113 ps_113 = true := by decide +kernel
/-- LastCloud$Sky.hasLeg(I)Z -/
def cd_114 : List Instr := [.iload 1, .ifCond .lt 8, .iload 1, .aload 0, .getfield 10050, .if_icmp .ge 8, .iconst 1, .goto 9, .iconst 0, .freturn]
def ps_114 : List Nat := [0, 1, 4, 5, 6, 9, 12, 13, 16, 17]
theorem ck_114 : xChkM 10 false (some .boolean) prog_12_method_5_code cd_114 ps_114 = true := by decide +kernel
/-- LastCloud$Sky.hasSpeed(I)Z -/
def cd_115 : List Instr := [.iload 1, .ifCond .lt 9, .iload 1, .aload 0, .getfield 10022, .getfield 6000, .if_icmp .ge 9, .iconst 1, .goto 10, .iconst 0, .freturn]
def ps_115 : List Nat := [0, 1, 4, 5, 6, 9, 12, 15, 16, 19, 20]
theorem ck_115 : xChkM 10 false (some .boolean) prog_12_method_6_code cd_115 ps_115 = true := by decide +kernel
/-- LastCloud$Sky.hasSpot(II)Z -/
def cd_116 : List Instr := [.aload 0, .iload 1, .invokevirtual 904808, .ifCond .eq 17, .iload 2, .aload 0, .getfield 10002, .iload 1, .aaload, .getfield 4000, .if_icmp .lt 17, .iload 2, .aload 0, .getfield 10090, .if_icmp .gt 17, 
  .iconst 1, .goto 18, .iconst 0, .freturn]
def ps_116 : List Nat := [0, 1, 2, 5, 8, 9, 10, 13, 14, 15, 18, 21, 22, 23, 26, 29, 30, 33, 34]
theorem ck_116 : xChkM 10 false (some .boolean) prog_12_method_7_code cd_116 ps_116 = true := by decide +kernel
/-- LastCloud$Sky.hasState(IIIZ)Z -/
def cd_117 : List Instr := [.aload 0, .iload 1, .iload 2, .invokevirtual 928812, .ifCond .eq 18, .iload 3, .ifCond .lt 18, .iload 3, .aload 0, .getfield 10100, .if_icmp .gt 18, .iload 4, .ifCond .eq 16, .aload 0, .getfield 10080, 
  .ifCond .le 18, .iconst 1, .goto 19, .iconst 0, .freturn]
def ps_117 : List Nat := [0, 1, 2, 3, 6, 9, 10, 13, 14, 15, 18, 21, 23, 26, 27, 30, 33, 34, 37, 38]
theorem ck_117 : xChkM 10 false (some .boolean) prog_12_method_8_code cd_117 ps_117 = true := by decide +kernel
/-- LastCloud$Sky.hasStart()Z -/
def cd_118 : List Instr := [.aload 0, .aload 0, .getfield 10150, .invokevirtual 904808, .freturn]
def ps_118 : List Nat := [0, 1, 2, 5, 8]
theorem ck_118 : xChkM 10 false (some .boolean) prog_12_method_9_code cd_118 ps_118 = true := by decide +kernel
/-- LastCloud$Sky.startsWet()Z -/
def cd_119 : List Instr := [.aload 0, .getfield 10170, .ifCond .eq 8, .aload 0, .getfield 10080, .ifCond .le 8, .iconst 1, .goto 9, .iconst 0, .freturn]
def ps_119 : List Nat := [0, 1, 4, 7, 8, 11, 14, 15, 18, 19]
theorem ck_119 : xChkM 10 false (some .boolean) prog_12_method_10_code cd_119 ps_119 = true := by decide +kernel
/-- LastCloud$Sky.isToLandAt(I)Z -/
def cd_120 : List Instr := [.iload 1, .aload 0, .getfield 10140, .if_icmp .eq 11, .aload 0, .getfield 10002, .iload 1, .aaload, .getfield 4010, .iconst (-1), .if_icmp .eq 13, .iconst 1, .goto 14, .iconst 0, .freturn]
def ps_120 : List Nat := [0, 1, 2, 5, 8, 9, 12, 13, 14, 17, 18, 21, 22, 25, 26]
theorem ck_120 : xChkM 10 false (some .boolean) prog_12_method_11_code cd_120 ps_120 = true := by decide +kernel
/-- LastCloud$Sky.allPlaces()I -/
def cd_121 : List Instr := [.iconst 1, .aload 0, .getfield 10040, .ishl, .iconst 1, .isub, .ireturn]
def ps_121 : List Nat := [0, 1, 2, 5, 6, 7, 8]
theorem ck_121 : xChkM 10 false (some .int) prog_12_method_12_code cd_121 ps_121 = true := by decide +kernel
/-- LastCloud$Sky.liftBits()I -/
def cd_122 : List Instr := [.iconst 0, .istore 1, .iconst 0, .istore 2, .iload 2, .aload 0, .getfield 10040, .if_icmp .ge 22, .aload 0, .getfield 10002, .iload 2, .aaload, .getfield 4020, .ifCond .eq 20, .iload 1, .iconst 1, 
  .iload 2, .ishl, .ior, .istore 1, .iinc 2 1, .goto 4, .iload 1, .ireturn]
def ps_122 : List Nat := [0, 1, 2, 3, 4, 5, 6, 9, 12, 13, 16, 17, 18, 21, 24, 25, 26, 27, 28, 29, 30, 33, 36, 37]
theorem ck_122 : xChkM 10 false (some .int) prog_12_method_13_code cd_122 ps_122 = true := by decide +kernel
/-- LastCloud$Sky.overGround(IZIZ)I -/
def cd_123 : List Instr := [.aload 0, .getfield 10022, .getfield 6012, .iload 3, .iaload, .istore 5, .iload 4, .ifCond .eq 17, .iload 5, .iload 5, .aload 0, .getfield 10080, .imul, .iconst 100, .idiv, .iadd, .istore 5, .iload 2, 
  .ifCond .eq 27, .iload 5, .aload 0, .getfield 10012, .iload 1, .aaload, .getfield 2040, .isub, .goto 34, .iload 5, .aload 0, .getfield 10012, .iload 1, .aaload, .getfield 2040, .iadd, .ireturn]
def ps_123 : List Nat := [0, 1, 4, 7, 8, 9, 11, 13, 16, 18, 20, 21, 24, 25, 27, 28, 29, 31, 32, 35, 37, 38, 41, 42, 43, 46, 47, 50, 52, 53, 56, 57, 58, 61, 62]
theorem ck_123 : xChkM 10 false (some .int) prog_12_method_14_code cd_123 ps_123 = true := by decide +kernel
/-- LastCloud$Sky.takes(IZIZ)I -/
def cd_124 : List Instr := [.aload 0, .iload 1, .iload 2, .iload 3, .iload 4, .invokevirtual 984820, .istore 5, .iload 5, .iconst 1, .if_icmp .ge 12, .iconst (-1), .goto 23, .iconst 12, .aload 0, .getfield 10012, .iload 1, 
  .aaload, .getfield 2020, .imul, .iload 5, .idiv, .iconst 1, .iadd, .ireturn]
def ps_124 : List Nat := [0, 1, 2, 3, 4, 6, 9, 11, 13, 14, 17, 18, 21, 23, 24, 27, 28, 29, 32, 33, 35, 36, 37, 38]
theorem ck_124 : xChkM 10 false (some .int) prog_12_method_15_code cd_124 ps_124 = true := by decide +kernel
/-- LastCloud$Sky.loses(IZIZ)I -/
def cd_125 : List Instr := [.aload 0, .iload 1, .iload 2, .iload 3, .iload 4, .invokevirtual 992820, .istore 5, .iload 5, .iconst (-1), .if_icmp .ne 12, .iconst (-2000000000), .goto 29, .iconst 5, .iload 5, .imul, .aload 0, 
  .getfield 10022, .getfield 6022, .iload 3, .iaload, .aload 0, .getfield 10012, .iload 1, .aaload, .getfield 2030, .isub, .imul, .iconst 100, .idiv, .ireturn]
def ps_125 : List Nat := [0, 1, 2, 3, 4, 6, 9, 11, 13, 14, 17, 19, 22, 23, 25, 26, 27, 30, 33, 34, 35, 36, 39, 40, 41, 44, 45, 46, 48, 49]
theorem ck_125 : xChkM 10 false (some .int) prog_12_method_16_code cd_125 ps_125 = true := by decide +kernel
/-- LastCloud$Sky.wins(IZ)I -/
def cd_126 : List Instr := [.aload 0, .getfield 10002, .iload 1, .aaload, .getfield 4020, .ifCond .eq 15, .aload 0, .aload 0, .getfield 10002, .iload 1, .aaload, .getfield 4040, .iload 2, .invokevirtual 1016812, .goto 16, 
  .iconst 0, .ireturn]
def ps_126 : List Nat := [0, 1, 4, 5, 6, 9, 12, 13, 14, 17, 18, 19, 22, 23, 26, 29, 30]
theorem ck_126 : xChkM 10 false (some .int) prog_12_method_17_code cd_126 ps_126 = true := by decide +kernel
/-- LastCloud$Sky.winsBy(IZ)I -/
def cd_127 : List Instr := [.iload 2, .ifCond .eq 9, .iload 1, .aload 0, .getfield 10080, .imul, .iconst 100, .idiv, .goto 10, .iconst 0, .istore 3, .iconst 0, .iconst 5, .iload 1, .iload 3, .isub, .aload 0, .getfield 10070, 
  .isub, .imul, .iconst 100, .idiv, .dadd, .ireturn]
def ps_127 : List Nat := [0, 1, 4, 5, 6, 9, 10, 12, 13, 16, 17, 18, 19, 20, 21, 22, 23, 24, 27, 28, 29, 31, 32, 35]
theorem ck_127 : xChkM 10 false (some .int) prog_12_method_18_code cd_127 ps_127 = true := by decide +kernel
/-- LastCloud$Sky.capped(I)I -/
def cd_128 : List Instr := [.aload 0, .getfield 10090, .iload 1, .dsub, .ireturn]
def ps_128 : List Nat := [0, 1, 4, 5, 8]
theorem ck_128 : xChkM 10 false (some .int) prog_12_method_19_code cd_128 ps_128 = true := by decide +kernel
/-- LastCloud$Sky.chanceNow(I)I -/
def cd_129 : List Instr := [.aload 0, .getfield 10002, .iload 1, .aaload, .getfield 4030, .istore 2, .iconst 0, .istore 3, .iload 3, .aload 0, .getfield 10032, .getfield 9000, .if_icmp .ge 34, .aload 0, .getfield 10032, 
  .getfield 9012, .iload 3, .iaload, .iload 1, .if_icmp .ne 32, .aload 0, .getfield 10002, .iload 1, .aaload, .iload 2, .aload 0, .getfield 10032, .getfield 9022, .iload 3, .iaload, 
  .invokevirtual 344332, .istore 2, .iinc 3 1, .goto 8, .iload 2, .ireturn]
def ps_129 : List Nat := [0, 1, 4, 5, 6, 9, 10, 11, 12, 13, 14, 17, 20, 23, 24, 27, 30, 31, 32, 33, 36, 37, 40, 41, 42, 43, 44, 47, 50, 51, 52, 55, 56, 59, 62, 63]
theorem ck_129 : xChkM 10 false (some .int) prog_12_method_20_code cd_129 ps_129 = true := by decide +kernel
/-- LastCloud$Sky.fastSpeedTo(I)I -/
def cd_130 : List Instr := [.aload 0, .getfield 10002, .iload 1, .aaload, .astore 2, .aload 0, .getfield 10022, .aload 2, .getfield 4020, .ifCond .eq 18, .iconst 1, .aload 2, .getfield 4040, .aload 0, .getfield 10070, .isub, 
  .dadd, .goto 19, .iconst 100, .invokevirtual 536488, .ireturn]
def ps_130 : List Nat := [0, 1, 4, 5, 6, 7, 8, 11, 12, 15, 18, 19, 20, 23, 24, 27, 28, 31, 34, 36, 39]
theorem ck_130 : xChkM 10 false (some .int) prog_12_method_21_code cd_130 ps_130 = true := by decide +kernel
/-- LastCloud$Sky.landingWorth(III)I -/
def cd_131 : List Instr := [.iload 1, .iconst 2, .if_icmp .ne 13, .iload 2, .aload 0, .getfield 10140, .if_icmp .ne 11, .iconst 10000, .iload 3, .isub, .goto 12, .iconst 0, .ireturn, .iload 2, .aload 0, .getfield 10140, 
  .if_icmp .ne 25, .aload 0, .getfield 10110, .aload 0, .getfield 10120, .iload 3, .imul, .isub, .ireturn, .aload 0, .getfield 10002, .iload 2, .aaload, .getfield 4010, .istore 4, .iload 4, .iconst (-1), 
  .if_icmp .eq 41, .iload 4, .aload 0, .getfield 10120, .iload 3, .imul, .isub, .goto 44, .aload 0, .getfield 10130, .ineg, .ireturn]
def ps_131 : List Nat := [0, 1, 2, 5, 6, 7, 10, 13, 16, 17, 18, 21, 22, 23, 24, 25, 28, 31, 32, 35, 36, 39, 40, 41, 42, 43, 44, 47, 48, 49, 52, 54, 56, 57, 60, 62, 63, 66, 67, 68, 69, 72, 73, 76, 77]
theorem ck_131 : xChkM 10 false (some .int) prog_12_method_22_code cd_131 ps_131 = true := by decide +kernel
/-- LastCloud.<init>()V -/
def cd_132 : List Instr := [.aload 0, .dneg, .aload 0, .iconst 1600, .newarray .byte, .putfield 11002, .aload 0, .new 7, .dup, .aload 0, .getfield 11002, .invokespecial 560571, .putfield 11022, .aload 0, .iconst (-1), 
  .putfield 11040, .aload 0, .new 10, .dup, .invokespecial 880807, .putfield 11052, .aload 0, .new 10, .dup, .invokespecial 880807, .putfield 11062, .aload 0, .iconst 3, .anewarray 27, .putfield 11072, 
  .aload 0, .iconst 3, .newarray .boolean, .putfield 11082, .aload 0, .new 1, .dup, .invokespecial 120087, .putfield 11092, .aload 0, .iconst 5, .anewarray 28, .putfield 11102, .aload 0, .new 3, .dup, 
  .invokespecial 256247, .putfield 11112, .aload 0, .new 0, .dup, .invokespecial 7, .putfield 11122, .aload 0, .new 0, .dup, .invokespecial 7, .putfield 11132, .aload 0, .new 8, .dup, 
  .invokespecial 744647, .putfield 11142, .aload 0, .iconst 4, .iconst 60, .multianewarray 24 2, .putfield 11152, .aload 0, .iconst 4, .newarray .int, .putfield 11162, .aload 0, .iconst 4, 
  .newarray .int, .putfield 11172, .iconst 0, .istore 1, .iload 1, .iconst 3, .if_icmp .ge 90, .aload 0, .getfield 11072, .iload 1, .new 10, .dup, .invokespecial 880807, .aastore, .iinc 1 1, .goto 78, 
  .aload 0, .getfield 11162, .iconst (-1), .invokestatic 2679931, .aload 0, .getfield 11092, .aload 0, .getfield 11052, .invokevirtual 136091, .return_]
def ps_132 : List Nat := [0, 1, 4, 5, 8, 10, 13, 14, 17, 18, 19, 22, 25, 28, 29, 30, 33, 34, 37, 38, 41, 44, 45, 48, 49, 52, 55, 56, 57, 60, 63, 64, 65, 67, 70, 71, 74, 75, 78, 81, 82, 83, 86, 89, 90, 93, 94, 97, 100, 101, 104, 
  105, 108, 111, 112, 115, 116, 119, 122, 123, 126, 127, 130, 133, 134, 135, 137, 141, 144, 145, 146, 148, 151, 152, 153, 155, 158, 159, 160, 161, 162, 165, 166, 169, 170, 173, 174, 177, 178, 181, 184, 
  185, 188, 189, 192, 193, 196, 197, 200, 203]
theorem ck_132 : xChkM 11 true none prog_1_method_1_code cd_132 ps_132 = true := by decide +kernel
/-- LastCloud.feed(IIIII)I -/
def cd_133 : List Instr := [.aload 0, .getfield 11010, .iconst 20, .iadd, .iconst 1600, .if_icmp .le 8, .iconst (-1), .ireturn, .aload 0, .iload 1, .invokevirtual 1072891, .aload 0, .iload 2, .invokevirtual 1072891, .aload 0, 
  .iload 3, .invokevirtual 1072891, .aload 0, .iload 4, .invokevirtual 1072891, .aload 0, .iload 5, .invokevirtual 1072891, .aload 0, .getfield 11010, .ireturn]
def ps_133 : List Nat := [0, 1, 4, 6, 7, 10, 13, 14, 15, 16, 17, 20, 21, 22, 25, 26, 27, 30, 31, 33, 36, 37, 39, 42, 43, 46]
theorem ck_133 : xChkM 11 false (some .int) prog_1_method_2_code cd_133 ps_133 = true := by decide +kernel
/-- LastCloud.putNumber(I)V -/
def cd_134 : List Instr := [.iconst 24, .istore 2, .iload 2, .ifCond .lt 25, .aload 0, .getfield 11010, .iconst 1600, .if_icmp .ge 25, .aload 0, .getfield 11002, .aload 0, .getfield 11010, .iload 1, .iload 2, .ishr, .i2b, 
  .bastore, .aload 0, .dup, .getfield 11010, .iconst 1, .iadd, .putfield 11010, .iinc 2 (-8), .goto 2, .return_]
def ps_134 : List Nat := [0, 2, 3, 4, 7, 8, 11, 14, 17, 18, 21, 22, 25, 26, 27, 28, 29, 30, 31, 32, 35, 36, 37, 40, 43, 46]
theorem ck_134 : xChkM 11 false none prog_1_method_3_code cd_134 ps_134 = true := by decide +kernel
