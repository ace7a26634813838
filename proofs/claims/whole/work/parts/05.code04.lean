/-- LastCloud$Sky.allPlaces()I -/
def cd_108 : List Instr := [.iconst 1, .aload 0, .getfield 10040, .ishl, .iconst 1, .isub, .ireturn]
def ps_108 : List Nat := [0, 1, 2, 5, 6, 7, 8]
theorem ck_108 : xChkM 10 false (some .int) prog_12_method_12_code cd_108 ps_108 = true := by decide +kernel
/-- LastCloud$Sky.liftBits()I -/
def cd_109 : List Instr := [.iconst 0, .istore 1, .iconst 0, .istore 2, .iload 2, .aload 0, .getfield 10040, .if_icmp .ge 22, .aload 0, .getfield 10002, .iload 2, .aaload, .getfield 4020, .ifCond .eq 20, .iload 1, .iconst 1, 
  .iload 2, .ishl, .ior, .istore 1, .iinc 2 1, .goto 4, .iload 1, .ireturn]
def ps_109 : List Nat := [0, 1, 2, 3, 4, 5, 6, 9, 12, 13, 16, 17, 18, 21, 24, 25, 26, 27, 28, 29, 30, 33, 36, 37]
theorem ck_109 : xChkM 10 false (some .int) prog_12_method_13_code cd_109 ps_109 = true := by decide +kernel
/-- LastCloud$Sky.overGround(IZIZ)I -/
def cd_110 : List Instr := [.aload 0, .getfield 10022, .getfield 6012, .iload 3, .iaload, .istore 5, .iload 4, .ifCond .eq 17, .iload 5, .iload 5, .aload 0, .getfield 10080, .imul, .iconst 100, .idiv, .iadd, .istore 5, .iload 2, 
  .ifCond .eq 27, .iload 5, .aload 0, .getfield 10012, .iload 1, .aaload, .getfield 2040, .isub, .goto 34, .iload 5, .aload 0, .getfield 10012, .iload 1, .aaload, .getfield 2040, .iadd, .ireturn]
def ps_110 : List Nat := [0, 1, 4, 7, 8, 9, 11, 13, 16, 18, 20, 21, 24, 25, 27, 28, 29, 31, 32, 35, 37, 38, 41, 42, 43, 46, 47, 50, 52, 53, 56, 57, 58, 61, 62]
theorem ck_110 : xChkM 10 false (some .int) prog_12_method_14_code cd_110 ps_110 = true := by decide +kernel
/-- LastCloud$Sky.takes(IZIZ)I -/
def cd_111 : List Instr := [.aload 0, .iload 1, .iload 2, .iload 3, .iload 4, .invokevirtual 880820, .istore 5, .iload 5, .iconst 1, .if_icmp .ge 12, .iconst (-1), .goto 23, .iconst 12, .aload 0, .getfield 10012, .iload 1, 
  .aaload, .getfield 2020, .imul, .iload 5, .idiv, .iconst 1, .iadd, .ireturn]
def ps_111 : List Nat := [0, 1, 2, 3, 4, 6, 9, 11, 13, 14, 17, 18, 21, 23, 24, 27, 28, 29, 32, 33, 35, 36, 37, 38]
theorem ck_111 : xChkM 10 false (some .int) prog_12_method_15_code cd_111 ps_111 = true := by decide +kernel
/-- LastCloud$Sky.loses(IZIZ)I -/
def cd_112 : List Instr := [.aload 0, .iload 1, .iload 2, .iload 3, .iload 4, .invokevirtual 888820, .istore 5, .iload 5, .iconst (-1), .if_icmp .ne 12, .iconst (-2000000000), .goto 29, .iconst 5, .iload 5, .imul, .aload 0, 
  .getfield 10022, .getfield 6022, .iload 3, .iaload, .aload 0, .getfield 10012, .iload 1, .aaload, .getfield 2030, .isub, .imul, .iconst 100, .idiv, .ireturn]
def ps_112 : List Nat := [0, 1, 2, 3, 4, 6, 9, 11, 13, 14, 17, 19, 22, 23, 25, 26, 27, 30, 33, 34, 35, 36, 39, 40, 41, 44, 45, 46, 48, 49]
theorem ck_112 : xChkM 10 false (some .int) prog_12_method_16_code cd_112 ps_112 = true := by decide +kernel
/-- LastCloud$Sky.wins(IZ)I -/
def cd_113 : List Instr := [.aload 0, .getfield 10002, .iload 1, .aaload, .getfield 4020, .ifCond .eq 15, .aload 0, .aload 0, .getfield 10002, .iload 1, .aaload, .getfield 4040, .iload 2, .invokevirtual 912812, .goto 16, 
  .iconst 0, .ireturn]
def ps_113 : List Nat := [0, 1, 4, 5, 6, 9, 12, 13, 14, 17, 18, 19, 22, 23, 26, 29, 30]
theorem ck_113 : xChkM 10 false (some .int) prog_12_method_17_code cd_113 ps_113 = true := by decide +kernel
/-- LastCloud$Sky.winsBy(IZ)I -/
def cd_114 : List Instr := [.iload 2, .ifCond .eq 9, .iload 1, .aload 0, .getfield 10080, .imul, .iconst 100, .idiv, .goto 10, .iconst 0, .istore 3, .iconst 0, .iconst 5, .iload 1, .iload 3, .isub, .aload 0, .getfield 10070, 
  .isub, .imul, .iconst 100, .idiv, .dadd, .ireturn]
def ps_114 : List Nat := [0, 1, 4, 5, 6, 9, 10, 12, 13, 16, 17, 18, 19, 20, 21, 22, 23, 24, 27, 28, 29, 31, 32, 35]
theorem ck_114 : xChkM 10 false (some .int) prog_12_method_18_code cd_114 ps_114 = true := by decide +kernel
/-- LastCloud$Sky.capped(I)I -/
def cd_115 : List Instr := [.aload 0, .getfield 10090, .iload 1, .dsub, .ireturn]
def ps_115 : List Nat := [0, 1, 4, 5, 8]
theorem ck_115 : xChkM 10 false (some .int) prog_12_method_19_code cd_115 ps_115 = true := by decide +kernel
/-- LastCloud$Sky.chanceNow(I)I -/
def cd_116 : List Instr := [.aload 0, .getfield 10002, .iload 1, .aaload, .getfield 4030, .istore 2, .iconst 0, .istore 3, .iload 3, .aload 0, .getfield 10032, .getfield 9000, .if_icmp .ge 34, .aload 0, .getfield 10032, 
  .getfield 9012, .iload 3, .iaload, .iload 1, .if_icmp .ne 32, .aload 0, .getfield 10002, .iload 1, .aaload, .iload 2, .aload 0, .getfield 10032, .getfield 9022, .iload 3, .iaload, 
  .invokevirtual 304332, .istore 2, .iinc 3 1, .goto 8, .iload 2, .ireturn]
def ps_116 : List Nat := [0, 1, 4, 5, 6, 9, 10, 11, 12, 13, 14, 17, 20, 23, 24, 27, 30, 31, 32, 33, 36, 37, 40, 41, 42, 43, 44, 47, 50, 51, 52, 55, 56, 59, 62, 63]
theorem ck_116 : xChkM 10 false (some .int) prog_12_method_20_code cd_116 ps_116 = true := by decide +kernel
/-- LastCloud$Sky.fastSpeedTo(I)I -/
def cd_117 : List Instr := [.aload 0, .getfield 10002, .iload 1, .aaload, .astore 2, .aload 0, .getfield 10022, .aload 2, .getfield 4020, .ifCond .eq 18, .iconst 1, .aload 2, .getfield 4040, .aload 0, .getfield 10070, .isub, 
  .dadd, .goto 19, .iconst 100, .invokevirtual 464488, .ireturn]
def ps_117 : List Nat := [0, 1, 4, 5, 6, 7, 8, 11, 12, 15, 18, 19, 20, 23, 24, 27, 28, 31, 34, 36, 39]
theorem ck_117 : xChkM 10 false (some .int) prog_12_method_21_code cd_117 ps_117 = true := by decide +kernel
/-- LastCloud$Sky.landingWorth(III)I -/
def cd_118 : List Instr := [.iload 1, .iconst 2, .if_icmp .ne 13, .iload 2, .aload 0, .getfield 10140, .if_icmp .ne 11, .iconst 10000, .iload 3, .isub, .goto 12, .iconst 0, .ireturn, .iload 2, .aload 0, .getfield 10140, 
  .if_icmp .ne 25, .aload 0, .getfield 10110, .aload 0, .getfield 10120, .iload 3, .imul, .isub, .ireturn, .aload 0, .getfield 10002, .iload 2, .aaload, .getfield 4010, .istore 4, .iload 4, .iconst (-1), 
  .if_icmp .eq 41, .iload 4, .aload 0, .getfield 10120, .iload 3, .imul, .isub, .goto 44, .aload 0, .getfield 10130, .ineg, .ireturn]
def ps_118 : List Nat := [0, 1, 2, 5, 6, 7, 10, 13, 16, 17, 18, 21, 22, 23, 24, 25, 28, 31, 32, 35, 36, 39, 40, 41, 42, 43, 44, 47, 48, 49, 52, 54, 56, 57, 60, 62, 63, 66, 67, 68, 69, 72, 73, 76, 77]
theorem ck_118 : xChkM 10 false (some .int) prog_12_method_22_code cd_118 ps_118 = true := by decide +kernel
/-- LastCloud.<init>()V -/
def cd_119 : List Instr := [.aload 0, .dneg, .aload 0, .iconst 1600, .newarray .byte, .putfield 11002, .aload 0, .new 7, .dup, .aload 0, .getfield 11002, .invokespecial 488571, .putfield 11022, .aload 0, .iconst (-1), 
  .putfield 11040, .aload 0, .new 10, .dup, .invokespecial 776807, .putfield 11052, .aload 0, .new 10, .dup, .invokespecial 776807, .putfield 11062, .aload 0, .iconst 3, .anewarray 27, .putfield 11072, 
  .aload 0, .iconst 3, .newarray .boolean, .putfield 11082, .aload 0, .new 1, .dup, .invokespecial 120087, .putfield 11092, .aload 0, .iconst 5, .anewarray 28, .putfield 11102, .aload 0, .new 3, .dup, 
  .invokespecial 232247, .putfield 11112, .aload 0, .new 0, .dup, .invokespecial 7, .putfield 11122, .aload 0, .new 0, .dup, .invokespecial 7, .putfield 11132, .aload 0, .new 8, .dup, 
  .invokespecial 672647, .putfield 11142, .aload 0, .iconst 4, .iconst 60, .multianewarray 24 2, .putfield 11152, .aload 0, .iconst 4, .newarray .int, .putfield 11162, .aload 0, .iconst 4, 
  .newarray .int, .putfield 11172, .iconst 0, .istore 1, .iload 1, .iconst 3, .if_icmp .ge 90, .aload 0, .getfield 11072, .iload 1, .new 10, .dup, .invokespecial 776807, .aastore, .iinc 1 1, .goto 78, 
  .aload 0, .getfield 11162, .iconst (-1), .invokestatic 2575931, .aload 0, .getfield 11092, .aload 0, .getfield 11052, .invokevirtual 136091, .return_]
def ps_119 : List Nat := [0, 1, 4, 5, 8, 10, 13, 14, 17, 18, 19, 22, 25, 28, 29, 30, 33, 34, 37, 38, 41, 44, 45, 48, 49, 52, 55, 56, 57, 60, 63, 64, 65, 67, 70, 71, 74, 75, 78, 81, 82, 83, 86, 89, 90, 93, 94, 97, 100, 101, 104, 
  105, 108, 111, 112, 115, 116, 119, 122, 123, 126, 127, 130, 133, 134, 135, 137, 141, 144, 145, 146, 148, 151, 152, 153, 155, 158, 159, 160, 161, 162, 165, 166, 169, 170, 173, 174, 177, 178, 181, 184, 
  185, 188, 189, 192, 193, 196, 197, 200, 203]
theorem ck_119 : xChkM 11 true none prog_1_method_1_code cd_119 ps_119 = true := by decide +kernel
/-- LastCloud.feed(IIIII)I -/
def cd_120 : List Instr := [.aload 0, .getfield 11010, .iconst 20, .iadd, .iconst 1600, .if_icmp .le 8, .iconst (-1), .ireturn, .aload 0, .iload 1, .invokevirtual 968891, .aload 0, .iload 2, .invokevirtual 968891, .aload 0, 
  .iload 3, .invokevirtual 968891, .aload 0, .iload 4, .invokevirtual 968891, .aload 0, .iload 5, .invokevirtual 968891, .aload 0, .getfield 11010, .ireturn]
def ps_120 : List Nat := [0, 1, 4, 6, 7, 10, 13, 14, 15, 16, 17, 20, 21, 22, 25, 26, 27, 30, 31, 33, 36, 37, 39, 42, 43, 46]
theorem ck_120 : xChkM 11 false (some .int) prog_1_method_2_code cd_120 ps_120 = true := by decide +kernel
/-- LastCloud.putNumber(I)V -/
def cd_121 : List Instr := [.iconst 24, .istore 2, .iload 2, .ifCond .lt 25, .aload 0, .getfield 11010, .iconst 1600, .if_icmp .ge 25, .aload 0, .getfield 11002, .aload 0, .getfield 11010, .iload 1, .iload 2, .ishr, .i2b, 
  .bastore, .aload 0, .dup, .getfield 11010, .iconst 1, .iadd, .putfield 11010, .iinc 2 (-8), .goto 2, .return_]
def ps_121 : List Nat := [0, 2, 3, 4, 7, 8, 11, 14, 17, 18, 21, 22, 25, 26, 27, 28, 29, 30, 31, 32, 35, 36, 37, 40, 43, 46]
theorem ck_121 : xChkM 11 false none prog_1_method_3_code cd_121 ps_121 = true := by decide +kernel
/-- LastCloud.end(I)I -/
def cd_122 : List Instr := [.iload 1, .ifCond .lt 6, .iload 1, .aload 0, .getfield 11010, .if_icmp .le 8, .iconst (-1), .ireturn, .aload 0, .iload 1, .putfield 11010, .iload 1, .ireturn]
def ps_122 : List Nat := [0, 1, 4, 5, 6, 9, 12, 13, 14, 15, 16, 19, 20]
theorem ck_122 : xChkM 11 false (some .int) prog_1_method_4_code cd_122 ps_122 = true := by decide +kernel
/-- LastCloud.sky()I -/
def cd_123 : List Instr := [.aload 0, .getfield 11062, .invokevirtual 784807, .aload 0, .aload 0, .getfield 11022, .aload 0, .getfield 11010, .aload 0, .getfield 11062, .invokevirtual 496572, .putfield 11030, .aload 0, .aload 0, 
  .getfield 11022, .getfield 7070, .putfield 11040, .aload 0, .iconst 0, .putfield 11010, .aload 0, .getfield 11030, .ifCond .eq 25, .iconst (-4), .ireturn, .aload 0, .getfield 11052, .astore 1, 
  .aload 0, .aload 0, .getfield 11062, .putfield 11052, .aload 0, .aload 1, .putfield 11062, .aload 0, .getfield 11092, .aload 0, .getfield 11052, .invokevirtual 136091, .aload 0, .invokevirtual 1000887, 
  .aload 0, .getfield 11052, .getfield 10060, .ireturn]
def ps_123 : List Nat := [0, 1, 4, 7, 8, 9, 12, 13, 16, 17, 20, 23, 26, 27, 28, 31, 34, 37, 38, 39, 42, 43, 46, 49, 51, 52, 53, 56, 57, 58, 59, 62, 65, 66, 67, 70, 71, 74, 75, 78, 81, 82, 85, 86, 89, 92]
theorem ck_123 : xChkM 11 false (some .int) prog_1_method_5_code cd_123 ps_123 = true := by decide +kernel
/-- LastCloud.fault(I)I -/
def cd_124 : List Instr := [.iload 1, .ifCond .ne 5, .aload 0, .getfield 11030, .ireturn, .iload 1, .iconst 1, .if_icmp .ne 11, .aload 0, .getfield 11040, .goto 12, .iconst (-1), .ireturn]
def ps_124 : List Nat := [0, 1, 4, 5, 8, 9, 10, 11, 14, 15, 18, 21, 22]
theorem ck_124 : xChkM 11 false (some .int) prog_1_method_6_code cd_124 ps_124 = true := by decide +kernel
/-- LastCloud.forgetPlans()V -/
def cd_125 : List Instr := [.iconst 0, .istore 1, .iload 1, .aload 0, .getfield 11102, .arraylength, .if_icmp .ge 20, .aload 0, .getfield 11102, .iload 1, .aaload, .ifnull 18, .aload 0, .getfield 11102, .iload 1, .aaload, 
  .iconst 0, .putfield 5093, .iinc 1 1, .goto 2, .return_]
def ps_125 : List Nat := [0, 1, 2, 3, 4, 7, 8, 11, 12, 15, 16, 17, 20, 21, 24, 25, 26, 27, 30, 33, 36]
theorem ck_125 : xChkM 11 false none prog_1_method_7_code cd_125 ps_125 = true := by decide +kernel
/-- LastCloud.periods(IZIZ)I -/
def cd_126 : List Instr := [.aload 0, .getfield 11052, .iload 1, .invokevirtual 808808, .ifCond .eq 10, .aload 0, .getfield 11052, .iload 3, .invokevirtual 816808, .ifCond .ne 12, .iconst (-2), .ireturn, .aload 0, 
  .getfield 11052, .iload 1, .iload 2, .iload 3, .iload 4, .invokevirtual 888820, .ireturn]
def ps_126 : List Nat := [0, 1, 4, 5, 8, 11, 12, 15, 16, 19, 22, 24, 25, 26, 29, 30, 31, 32, 34, 37]
theorem ck_126 : xChkM 11 false (some .int) prog_1_method_8_code cd_126 ps_126 = true := by decide +kernel
/-- LastCloud.loss(IZIZ)I -/
def cd_127 : List Instr := [.aload 0, .getfield 11052, .iload 1, .invokevirtual 808808, .ifCond .eq 10, .aload 0, .getfield 11052, .iload 3, .invokevirtual 816808, .ifCond .ne 12, .iconst (-2000000000), .ireturn, .aload 0, 
  .getfield 11052, .iload 1, .iload 2, .iload 3, .iload 4, .invokevirtual 896820, .ireturn]
def ps_127 : List Nat := [0, 1, 4, 5, 8, 11, 12, 15, 16, 19, 22, 24, 25, 26, 29, 30, 31, 32, 34, 37]
theorem ck_127 : xChkM 11 false (some .int) prog_1_method_9_code cd_127 ps_127 = true := by decide +kernel
/-- LastCloud.climb(IZ)I -/
def cd_128 : List Instr := [.aload 0, .getfield 11052, .iload 1, .invokevirtual 800808, .ifCond .eq 11, .aload 0, .getfield 11052, .iload 1, .iload 2, .invokevirtual 904812, .goto 12, .iconst (-2), .ireturn]
def ps_128 : List Nat := [0, 1, 4, 5, 8, 11, 12, 15, 16, 17, 20, 23, 25]
theorem ck_128 : xChkM 11 false (some .int) prog_1_method_10_code cd_128 ps_128 = true := by decide +kernel
/-- LastCloud.chance(I)I -/
def cd_129 : List Instr := [.aload 0, .getfield 11052, .iload 1, .invokevirtual 800808, .ifCond .eq 10, .aload 0, .getfield 11052, .iload 1, .invokevirtual 928808, .goto 11, .iconst (-2), .ireturn]
def ps_129 : List Nat := [0, 1, 4, 5, 8, 11, 12, 15, 16, 19, 22, 24]
theorem ck_129 : xChkM 11 false (some .int) prog_1_method_11_code cd_129 ps_129 = true := by decide +kernel
/-- LastCloud.sight(II)I -/
def cd_130 : List Instr := [.aload 0, .getfield 11052, .iload 1, .invokevirtual 800808, .ifCond .eq 10, .iload 2, .ifCond .lt 10, .iload 2, .iconst 3, .if_icmp .le 12, .iconst (-2), .ireturn, .aload 0, .getfield 11052, 
  .getfield 10032, .getfield 9000, .iconst 20, .if_icmp .lt 20, .iconst (-3), .ireturn, .aload 0, .getfield 11052, .getfield 10032, .iload 1, .iload 2, .invokevirtual 760735, .aload 0, 
  .invokevirtual 1000887, .aload 0, .getfield 11052, .getfield 10032, .getfield 9000, .ireturn]
def ps_130 : List Nat := [0, 1, 4, 5, 8, 11, 12, 15, 16, 17, 20, 22, 23, 24, 27, 30, 33, 35, 38, 40, 41, 42, 45, 48, 49, 50, 53, 54, 57, 58, 61, 64, 67]
theorem ck_130 : xChkM 11 false (some .int) prog_1_method_12_code cd_130 ps_130 = true := by decide +kernel
/-- LastCloud.unsee(I)I -/
def cd_131 : List Instr := [.iload 1, .ifCond .lt 8, .iload 1, .aload 0, .getfield 11052, .getfield 10032, .getfield 9000, .if_icmp .le 10, .iconst (-2), .ireturn, .aload 0, .getfield 11052, .getfield 10032, .dup, .getfield 9000, 
  .iload 1, .isub, .putfield 9000, .aload 0, .invokevirtual 1000887, .aload 0, .getfield 11052, .getfield 10032, .getfield 9000, .ireturn]
def ps_131 : List Nat := [0, 1, 4, 5, 6, 9, 12, 15, 18, 20, 21, 22, 25, 28, 29, 32, 33, 34, 37, 38, 41, 42, 45, 48, 51]
theorem ck_131 : xChkM 11 false (some .int) prog_1_method_13_code cd_131 ps_131 = true := by decide +kernel
/-- LastCloud.sign(IZ)I -/
def cd_132 : List Instr := [.aload 0, .getfield 11052, .iload 1, .invokevirtual 800808, .ifCond .ne 7, .iconst (-2), .ireturn, .aload 0, .getfield 11052, .getfield 10002, .iload 1, .aaload, .astore 3, .aload 3, .aload 3, 
  .getfield 4030, .iload 2, .iconst 10000, .invokevirtual 312336, .ireturn]
def ps_132 : List Nat := [0, 1, 4, 5, 8, 11, 13, 14, 15, 18, 21, 22, 23, 24, 25, 26, 29, 30, 33, 36]
theorem ck_132 : xChkM 11 false (some .int) prog_1_method_14_code cd_132 ps_132 = true := by decide +kernel
/-- LastCloud.reach(IIIZ)I -/
def cd_133 : List Instr := [.aload 0, .getfield 11052, .iload 1, .invokevirtual 800808, .ifCond .eq 15, .aload 0, .getfield 11052, .iload 3, .invokevirtual 800808, .ifCond .eq 15, .aload 0, .getfield 11052, .iload 2, 
  .invokevirtual 824808, .ifCond .ne 17, .iconst (-2), .ireturn, .aload 0, .getfield 11092, .aload 0, .getfield 11052, .iload 1, .iload 2, .iload 4, .invokevirtual 184103, .aload 0, .getfield 11092, 
  .getfield 1082, .iload 3, .iaload, .ireturn]
def ps_133 : List Nat := [0, 1, 4, 5, 8, 11, 12, 15, 16, 19, 22, 23, 26, 27, 30, 33, 35, 36, 37, 40, 41, 44, 45, 46, 48, 51, 52, 55, 58, 59, 60]
theorem ck_133 : xChkM 11 false (some .int) prog_1_method_15_code cd_133 ps_133 = true := by decide +kernel
/-- LastCloud.fields(IIZ)I -/
def cd_134 : List Instr := [.aload 0, .getfield 11052, .iload 1, .invokevirtual 800808, .ifCond .eq 10, .aload 0, .getfield 11052, .iload 2, .invokevirtual 824808, .ifCond .ne 12, .iconst (-2), .ireturn, .aload 0, 
  .getfield 11092, .aload 0, .getfield 11052, .iload 1, .iload 2, .iload 3, .invokevirtual 184103, .iconst 0, .istore 4, .iconst 0, .istore 5, .iload 5, .aload 0, .getfield 11052, .getfield 10040, 
  .if_icmp .ge 49, .aload 0, .getfield 11092, .getfield 1082, .iload 5, .iaload, .iconst (-1), .if_icmp .eq 47, .aload 0, .getfield 11052, .iload 5, .invokevirtual 856808, .ifCond .eq 47, .iload 4, 
  .iconst 1, .iload 5, .ishl, .ior, .istore 4, .iinc 5 1, .goto 24, .iload 4, .ireturn]
def ps_134 : List Nat := [0, 1, 4, 5, 8, 11, 12, 15, 16, 19, 22, 24, 25, 26, 29, 30, 33, 34, 35, 36, 39, 40, 42, 43, 45, 47, 48, 51, 54, 57, 58, 61, 64, 66, 67, 68, 71, 72, 75, 77, 80, 83, 85, 86, 88, 89, 90, 92, 95, 98, 100]
theorem ck_134 : xChkM 11 false (some .int) prog_1_method_16_code cd_134 ps_134 = true := by decide +kernel
