/-- LastCloud.edge(IZ)I -/
def cd_135 : List Instr := [.aload 0, .getfield 11052, .iload 1, .invokevirtual 800808, .ifCond .ne 7, .iconst (-2), .ireturn, .aload 0, .getfield 11092, .getfield 1072, .iload 1, .iload 2, .invokestatic 135928, .iaload, 
  .istore 3, .iload 3, .iconst 1000000, .if_icmp .ne 20, .iconst (-1), .goto 21, .iload 3, .ireturn]
def ps_135 : List Nat := [0, 1, 4, 5, 8, 11, 13, 14, 15, 18, 21, 22, 23, 26, 27, 28, 29, 31, 34, 35, 38, 39]
theorem ck_135 : xChkM 11 false (some .int) prog_1_method_17_code cd_135 ps_135 = true := by decide +kernel
/-- LastCloud.tour(IIZ)I -/
def cd_136 : List Instr := [.aload 0, .getfield 11052, .iload 1, .invokevirtual 800808, .ifCond .eq 10, .aload 0, .getfield 11052, .iload 2, .invokevirtual 824808, .ifCond .ne 12, .iconst (-2), .ireturn, .aload 0, 
  .getfield 11092, .aload 0, .getfield 11052, .iload 1, .iload 2, .iload 3, .invokevirtual 184103, .iconst 0, .istore 4, .iconst 0, .istore 5, .iload 5, .aload 0, .getfield 11052, .getfield 10040, 
  .if_icmp .ge 55, .aload 0, .getfield 11092, .getfield 1082, .iload 5, .iaload, .istore 6, .iload 6, .iconst (-1), .if_icmp .eq 53, .iload 6, .aload 0, .getfield 11092, .getfield 1072, .iload 5, 
  .iload 3, .invokestatic 135928, .iaload, .if_icmp .lt 53, .iload 4, .iconst 1, .iload 5, .ishl, .ior, .istore 4, .iinc 5 1, .goto 24, .iload 4, .ireturn]
def ps_136 : List Nat := [0, 1, 4, 5, 8, 11, 12, 15, 16, 19, 22, 24, 25, 26, 29, 30, 33, 34, 35, 36, 39, 40, 42, 43, 45, 47, 48, 51, 54, 57, 58, 61, 64, 66, 67, 69, 71, 72, 75, 77, 78, 81, 84, 86, 87, 90, 91, 94, 96, 97, 99, 
  100, 101, 103, 106, 109, 111]
theorem ck_136 : xChkM 11 false (some .int) prog_1_method_18_code cd_136 ps_136 = true := by decide +kernel
/-- LastCloud.street()I -/
def cd_137 : List Instr := [.aload 0, .getfield 11092, .aload 0, .getfield 11052, .invokevirtual 200088, .ireturn]
def ps_137 : List Nat := [0, 1, 4, 5, 8, 11]
theorem ck_137 : xChkM 11 false (some .int) prog_1_method_19_code cd_137 ps_137 = true := by decide +kernel
/-- LastCloud.fast(I)I -/
def cd_138 : List Instr := [.iload 1, .invokestatic 1127924, .ifCond .eq 9, .aload 0, .getfield 11052, .getfield 10022, .iload 1, .invokevirtual 464488, .goto 10, .iconst (-2), .ireturn]
def ps_138 : List Nat := [0, 1, 4, 7, 8, 11, 14, 15, 18, 21, 23]
theorem ck_138 : xChkM 11 false (some .int) prog_1_method_20_code cd_138 ps_138 = true := by decide +kernel
/-- LastCloud.average(I)I -/
def cd_139 : List Instr := [.iload 1, .invokestatic 1127924, .ifCond .ne 5, .iconst (-2), .ireturn, .aload 0, .getfield 11052, .getfield 10022, .iload 1, .invokevirtual 464488, .istore 2, .iload 2, .iconst (-1), .if_icmp .ne 16, 
  .iconst (-1), .goto 22, .aload 0, .getfield 11052, .getfield 10022, .iload 2, .iload 1, .invokevirtual 472492, .ireturn]
def ps_139 : List Nat := [0, 1, 4, 7, 9, 10, 11, 14, 17, 18, 21, 22, 23, 24, 27, 28, 31, 32, 35, 38, 39, 40, 43]
theorem ck_139 : xChkM 11 false (some .int) prog_1_method_21_code cd_139 ps_139 = true := by decide +kernel
/-- LastCloud.isClimb(I)Z -/
def cd_140 : List Instr := [.iload 0, .iconst 1, .if_icmp .lt 8, .iload 0, .iconst 2000, .if_icmp .gt 8, .iconst 1, .goto 9, .iconst 0, .freturn]
def ps_140 : List Nat := [0, 1, 2, 5, 6, 9, 12, 13, 16, 17]
theorem ck_140 : xChkM 11 false (some .boolean) prog_1_method_22_code cd_140 ps_140 = true := by decide +kernel
/-- LastCloud.farthest()I -/
def cd_141 : List Instr := [.aload 0, .getfield 11052, .getfield 10022, .invokevirtual 480484, .ireturn]
def ps_141 : List Nat := [0, 1, 4, 7, 10]
theorem ck_141 : xChkM 11 false (some .int) prog_1_method_23_code cd_141 ps_141 = true := by decide +kernel
/-- LastCloud.worth(IIIIZZ)I -/
def cd_142 : List Instr := [.iload 1, .invokestatic 1167924, .ifCond .eq 11, .aload 0, .getfield 11052, .iload 2, .iload 3, .iload 4, .iload 6, .invokevirtual 832820, .ifCond .ne 13, .iconst (-2000000000), .ireturn, .aload 0, 
  .iload 1, .invokevirtual 1168890, .astore 7, .aload 7, .iload 4, .iload 6, .invokevirtual 400415, .aload 7, .iload 4, .iload 6, .iload 2, .iload 3, .invokestatic 335936, .iload 5, 
  .invokevirtual 368412, .ireturn]
def ps_142 : List Nat := [0, 1, 4, 7, 8, 11, 12, 13, 15, 17, 20, 23, 25, 26, 27, 28, 31, 33, 35, 37, 39, 42, 44, 46, 48, 49, 50, 53, 55, 58]
theorem ck_142 : xChkM 11 false (some .int) prog_1_method_24_code cd_142 ps_142 = true := by decide +kernel
/-- LastCloud.deed(IIIIZZ)I -/
def cd_143 : List Instr := [.iload 1, .invokestatic 1167924, .ifCond .eq 11, .aload 0, .getfield 11052, .iload 2, .iload 3, .iload 4, .iload 6, .invokevirtual 832820, .ifCond .ne 13, .iconst (-2), .ireturn, .aload 0, .iload 1, 
  .invokevirtual 1168890, .astore 7, .aload 7, .iload 4, .iload 6, .invokevirtual 400415, .aload 7, .iload 4, .iload 6, .iload 2, .iload 3, .invokestatic 335936, .iload 5, .invokevirtual 376412, 
  .ireturn]
def ps_143 : List Nat := [0, 1, 4, 7, 8, 11, 12, 13, 15, 17, 20, 23, 25, 26, 27, 28, 31, 33, 35, 37, 39, 42, 44, 46, 48, 49, 50, 53, 55, 58]
theorem ck_143 : xChkM 11 false (some .int) prog_1_method_25_code cd_143 ps_143 = true := by decide +kernel
/-- LastCloud.home(IIIIZZ)I -/
def cd_144 : List Instr := [.iload 1, .invokestatic 1167924, .ifCond .eq 11, .aload 0, .getfield 11052, .iload 2, .iload 3, .iload 4, .iload 6, .invokevirtual 832820, .ifCond .ne 13, .iconst (-2), .ireturn, .aload 0, .iload 1, 
  .invokevirtual 1168890, .astore 7, .aload 7, .iload 4, .iload 6, .invokevirtual 400415, .aload 7, .iload 4, .iload 6, .iload 2, .iload 3, .invokestatic 335936, .iload 5, .invokevirtual 384412, 
  .ireturn]
def ps_144 : List Nat := [0, 1, 4, 7, 8, 11, 12, 13, 15, 17, 20, 23, 25, 26, 27, 28, 31, 33, 35, 37, 39, 42, 44, 46, 48, 49, 50, 53, 55, 58]
theorem ck_144 : xChkM 11 false (some .int) prog_1_method_26_code cd_144 ps_144 = true := by decide +kernel
/-- LastCloud.isRule(I)Z -/
def cd_145 : List Instr := [.iload 0, .ifCond .lt 7, .iload 0, .iconst 4, .if_icmp .ge 7, .iconst 1, .goto 8, .iconst 0, .freturn]
def ps_145 : List Nat := [0, 1, 4, 5, 6, 9, 10, 13, 14]
theorem ck_145 : xChkM 11 false (some .boolean) prog_1_method_27_code cd_145 ps_145 = true := by decide +kernel
/-- LastCloud.planOf(I)LLastCloud$Plan; -/
def cd_146 : List Instr := [.aload 0, .getfield 11102, .iload 1, .aaload, .ifnonnull 12, .aload 0, .getfield 11102, .iload 1, .new 5, .dup, .invokespecial 320407, .aastore, .aload 0, .getfield 11102, .iload 1, .aaload, .astore 2, 
  .aload 2, .getfield 5090, .ifCond .ne 27, .aload 2, .aload 0, .getfield 11052, .aload 0, .getfield 11092, .iload 1, .invokevirtual 336419, .aload 2, .areturn]
def ps_146 : List Nat := [0, 1, 4, 5, 6, 9, 10, 13, 14, 17, 18, 21, 22, 23, 26, 27, 28, 29, 30, 33, 36, 37, 38, 41, 42, 45, 46, 49, 50]
theorem ck_146 : xChkM 11 false (some (.object "LastCloud$Plan")) prog_1_method_28_code cd_146 ps_146 = true := by decide +kernel
/-- LastCloud.trialPlan()LLastCloud$Plan; -/
def cd_147 : List Instr := [.aload 0, .getfield 11102, .iconst 4, .aaload, .ifnonnull 12, .aload 0, .getfield 11102, .iconst 4, .new 5, .dup, .invokespecial 320407, .aastore, .aload 0, .getfield 11102, .iconst 4, .aaload, 
  .aload 0, .getfield 11052, .aload 0, .getfield 11092, .iconst 0, .invokevirtual 336419, .aload 0, .getfield 11102, .iconst 4, .aaload, .areturn]
def ps_147 : List Nat := [0, 1, 4, 5, 6, 9, 10, 13, 14, 17, 18, 21, 22, 23, 26, 27, 28, 29, 32, 33, 36, 37, 40, 41, 44, 45, 46]
theorem ck_147 : xChkM 11 false (some (.object "LastCloud$Plan")) prog_1_method_29_code cd_147 ps_147 = true := by decide +kernel
/-- LastCloud.start(I)I -/
def cd_148 : List Instr := [.iload 1, .invokestatic 1167924, .ifCond .eq 7, .aload 0, .getfield 11052, .invokevirtual 840804, .ifCond .ne 9, .iconst (-2000000000), .ireturn, .aload 0, .iload 1, .invokevirtual 1168890, .aload 0, 
  .getfield 11052, .invokevirtual 848804, .invokevirtual 392408, .ireturn]
def ps_148 : List Nat := [0, 1, 4, 7, 8, 11, 14, 17, 19, 20, 21, 22, 25, 26, 29, 32, 35]
theorem ck_148 : xChkM 11 false (some .int) prog_1_method_30_code cd_148 ps_148 = true := by decide +kernel
/-- LastCloud.cost(I)I -/
def cd_149 : List Instr := [.iload 1, .iconst 1, .if_icmp .eq 6, .iload 1, .iconst 3, .if_icmp .ne 10, .aload 0, .getfield 11052, .invokevirtual 840804, .ifCond .ne 12, .iconst (-2000000000), .ireturn, .aload 0, .getfield 11052, 
  .invokevirtual 848804, .istore 2, .aload 0, .iconst 0, .invokevirtual 1168890, .iload 2, .invokevirtual 392408, .aload 0, .iload 1, .invokevirtual 1168890, .iload 2, .invokevirtual 392408, .isub, 
  .ireturn]
def ps_149 : List Nat := [0, 1, 2, 5, 6, 7, 10, 11, 14, 17, 20, 22, 23, 24, 27, 30, 31, 32, 33, 36, 37, 40, 41, 42, 45, 46, 49, 50]
theorem ck_149 : xChkM 11 false (some .int) prog_1_method_31_code cd_149 ps_149 = true := by decide +kernel
/-- LastCloud.leave(IIZ)I -/
def cd_150 : List Instr := [.aload 0, .iload 1, .iload 2, .iconst 1, .iload 3, .invokevirtual 1216900, .ireturn]
def ps_150 : List Nat := [0, 1, 2, 3, 4, 5, 8]
theorem ck_150 : xChkM 11 false (some .int) prog_1_method_32_code cd_150 ps_150 = true := by decide +kernel
/-- LastCloud.on(IIZ)I -/
def cd_151 : List Instr := [.aload 0, .iload 1, .iload 2, .iconst 0, .iload 3, .invokevirtual 1216900, .ireturn]
def ps_151 : List Nat := [0, 1, 2, 3, 4, 5, 8]
theorem ck_151 : xChkM 11 false (some .int) prog_1_method_33_code cd_151 ps_151 = true := by decide +kernel
/-- LastCloud.leastToLeave(IIZZ)I -/
def cd_152 : List Instr := [.aload 0, .getfield 11052, .iload 1, .aload 0, .getfield 11052, .getfield 10090, .iload 2, .iload 4, .invokevirtual 832820, .ifCond .ne 12, .iconst (-2), .ireturn, .aload 0, .iconst 0, 
  .invokevirtual 1168890, .astore 5, .aload 5, .iload 2, .iload 4, .invokevirtual 400415, .aload 0, .getfield 11052, .getfield 10002, .iload 1, .aaload, .getfield 4000, .istore 6, .iload 6, .aload 0, 
  .getfield 11052, .getfield 10090, .if_icmp .gt 46, .aload 5, .iload 2, .iload 4, .iload 1, .iload 6, .invokestatic 335936, .iload 3, .invokevirtual 376412, .iconst 100, .if_icmp .lt 44, .iload 6, 
  .ireturn, .iinc 6 1, .goto 27, .iconst (-1), .ireturn]
def ps_152 : List Nat := [0, 1, 4, 5, 6, 9, 12, 13, 15, 18, 21, 23, 24, 25, 26, 29, 31, 33, 34, 36, 39, 40, 43, 46, 47, 48, 51, 53, 55, 56, 59, 62, 65, 67, 68, 70, 71, 73, 76, 77, 80, 82, 85, 87, 88, 91, 94, 95]
theorem ck_152 : xChkM 11 false (some .int) prog_1_method_34_code cd_152 ps_152 = true := by decide +kernel
/-- LastCloud.last(II)I -/
def cd_153 : List Instr := [.aload 0, .getfield 11052, .iload 1, .iload 2, .iconst 0, .iconst 0, .invokevirtual 832820, .ifCond .ne 10, .iconst (-2), .ireturn, .aload 0, .iconst 0, .invokevirtual 1168890, .astore 3, .aload 0, 
  .getfield 11052, .getfield 10100, .istore 4, .iload 4, .ifCond .lt 38, .aload 3, .iload 4, .iconst 0, .invokevirtual 400415, .aload 3, .iload 4, .iconst 0, .iload 1, .iload 2, .invokestatic 335936, 
  .iconst 0, .invokevirtual 384412, .iconst 10000, .if_icmp .ne 36, .iload 4, .ireturn, .iinc 4 (-1), .goto 18, .iconst (-1), .ireturn]
def ps_153 : List Nat := [0, 1, 4, 5, 6, 7, 8, 11, 14, 16, 17, 18, 19, 22, 23, 24, 27, 30, 32, 34, 37, 38, 40, 41, 44, 45, 47, 48, 49, 50, 53, 54, 57, 60, 63, 65, 66, 69, 72, 73]
theorem ck_153 : xChkM 11 false (some .int) prog_1_method_35_code cd_153 ps_153 = true := by decide +kernel
/-- LastCloud.weak(III)I -/
def cd_154 : List Instr := [.aload 0, .getfield 11052, .iload 1, .iload 2, .iload 3, .iconst 0, .invokevirtual 832820, .ifCond .ne 10, .iconst (-2), .ireturn, .aload 0, .getfield 11052, .getfield 10002, .iload 1, .aaload, 
  .getfield 4020, .ifCond .ne 19, .iconst (-1), .ireturn, .iload 3, .iconst 0, .iload 1, .iload 2, .invokestatic 335936, .istore 4, .iconst 0, .istore 5, .iload 5, .iconst 2000, .if_icmp .gt 54, 
  .aload 0, .invokevirtual 1176886, .astore 6, .aload 6, .iload 1, .aload 0, .getfield 11052, .iload 5, .iconst 0, .invokevirtual 912812, .invokevirtual 360415, .aload 6, .iload 3, .iconst 0, 
  .invokevirtual 400415, .aload 6, .iload 4, .iconst 1, .invokevirtual 376412, .ifCond .ne 52, .iload 5, .ireturn, .iinc 5 250, .goto 27, .iconst (-1), .ireturn]
def ps_154 : List Nat := [0, 1, 4, 5, 6, 7, 8, 11, 14, 16, 17, 18, 21, 24, 25, 26, 29, 32, 33, 34, 35, 36, 37, 38, 41, 43, 44, 46, 48, 51, 54, 55, 58, 60, 62, 63, 64, 67, 69, 70, 73, 76, 78, 79, 80, 83, 85, 87, 88, 91, 94, 96, 
  97, 103, 106, 107]
theorem ck_154 : xChkM 11 false (some .int) prog_1_method_36_code cd_154 ps_154 = true := by decide +kernel
/-- LastCloud.ends(IZ)I -/
def cd_155 : List Instr := [.iload 1, .invokestatic 1167924, .ifCond .eq 7, .aload 0, .getfield 11052, .invokevirtual 840804, .ifCond .ne 9, .iconst (-2000000000), .ireturn, .aload 0, .iload 1, .invokevirtual 1168890, .astore 3, 
  .aload 3, .iconst 0, .aload 0, .getfield 11052, .invokevirtual 848804, .invokevirtual 400415, .aload 0, .getfield 11112, .aload 3, .invokevirtual 240251, .iload 2, .ifCond .eq 29, .aload 0, 
  .getfield 11112, .getfield 3020, .goto 32, .aload 0, .getfield 11112, .getfield 3010, .ireturn]
def ps_155 : List Nat := [0, 1, 4, 7, 8, 11, 14, 17, 19, 20, 21, 22, 25, 26, 27, 28, 29, 32, 35, 38, 39, 42, 43, 46, 47, 50, 51, 54, 57, 60, 61, 64, 67]
theorem ck_155 : xChkM 11 false (some .int) prog_1_method_37_code cd_155 ps_155 = true := by decide +kernel
/-- LastCloud.share(I)I -/
def cd_156 : List Instr := [.aload 0, .getfield 11052, .iload 1, .invokevirtual 800808, .ifCond .eq 9, .aload 0, .getfield 11052, .invokevirtual 840804, .ifCond .ne 11, .iconst (-2000000000), .ireturn, .aload 0, .iload 1, 
  .iconst 100, .invokevirtual 1272892, .aload 0, .invokevirtual 1280884, .isub, .ireturn]
def ps_156 : List Nat := [0, 1, 4, 5, 8, 11, 12, 15, 18, 21, 23, 24, 25, 26, 28, 31, 32, 35, 36]
theorem ck_156 : xChkM 11 false (some .int) prog_1_method_38_code cd_156 ps_156 = true := by decide +kernel
/-- LastCloud.known(I)I -/
def cd_157 : List Instr := [.aload 0, .getfield 11052, .iload 1, .invokevirtual 800808, .ifCond .eq 9, .aload 0, .getfield 11052, .invokevirtual 840804, .ifCond .ne 11, .iconst (-2000000000), .ireturn, .aload 0, .getfield 11052, 
  .iload 1, .invokevirtual 928808, .istore 2, .aload 0, .iload 1, .iconst 100, .invokevirtual 1272892, .istore 3, .aload 0, .iload 1, .iconst 0, .invokevirtual 1272892, .istore 4, .iload 2, .iload 3, 
  .iload 4, .invokestatic 1295932, .aload 0, .invokevirtual 1280884, .isub, .ireturn]
def ps_157 : List Nat := [0, 1, 4, 5, 8, 11, 12, 15, 18, 21, 23, 24, 25, 28, 29, 32, 33, 34, 35, 37, 40, 41, 42, 43, 44, 47, 49, 50, 51, 53, 56, 57, 60, 61]
theorem ck_157 : xChkM 11 false (some .int) prog_1_method_39_code cd_157 ps_157 = true := by decide +kernel
/-- LastCloud.hawk(I)I -/
def cd_158 : List Instr := [.aload 0, .getfield 11052, .iload 1, .invokevirtual 800808, .ifCond .eq 9, .aload 0, .getfield 11052, .invokevirtual 840804, .ifCond .ne 11, .iconst (-2000000000), .ireturn, .aload 0, .getfield 11052, 
  .getfield 10002, .iload 1, .aaload, .astore 2, .aload 0, .getfield 11052, .iload 1, .invokevirtual 928808, .istore 3, .iload 3, .aload 2, .getfield 4050, .imul, .iconst 100, .iload 3, .isub, .aload 2, 
  .getfield 4060, .imul, .iadd, .istore 4, .aload 0, .iload 1, .aload 2, .iload 3, .iconst 2, .invokevirtual 304332, .invokevirtual 1272892, .istore 5, .aload 0, .iload 1, .aload 2, .iload 3, .iconst 3, 
  .invokevirtual 304332, .invokevirtual 1272892, .istore 6, .iload 4, .iload 5, .imul, .iconst 10000, .iload 4, .isub, .iload 6, .imul, .iadd, .iconst 10000, .idiv, .aload 0, .invokevirtual 1280884, 
  .isub, .ireturn]
def ps_158 : List Nat := [0, 1, 4, 5, 8, 11, 12, 15, 18, 21, 23, 24, 25, 28, 31, 32, 33, 34, 35, 38, 39, 42, 43, 44, 45, 48, 49, 51, 52, 53, 54, 57, 58, 59, 61, 62, 63, 64, 65, 66, 69, 72, 74, 75, 76, 77, 78, 79, 82, 85, 87, 
  89, 91, 92, 95, 97, 98, 100, 101, 102, 105, 106, 107, 110, 111]
theorem ck_158 : xChkM 11 false (some .int) prog_1_method_40_code cd_158 ps_158 = true := by decide +kernel
/-- LastCloud.startWorthWith(II)I -/
def cd_159 : List Instr := [.aload 0, .iconst 0, .invokevirtual 1168890, .astore 3, .iload 2, .aload 3, .getfield 5062, .iload 1, .iaload, .if_icmp .eq 17, .aload 0, .invokevirtual 1176886, .astore 3, .aload 3, .iload 1, 
  .iload 2, .invokevirtual 352415, .aload 3, .aload 0, .getfield 11052, .invokevirtual 848804, .invokevirtual 392408, .ireturn]
def ps_159 : List Nat := [0, 1, 2, 5, 6, 7, 8, 11, 12, 13, 16, 17, 20, 21, 22, 23, 24, 27, 28, 29, 32, 35, 38]
theorem ck_159 : xChkM 11 false (some .int) prog_1_method_41_code cd_159 ps_159 = true := by decide +kernel
/-- LastCloud.bestStartWorth()I -/
def cd_160 : List Instr := [.aload 0, .iconst 0, .invokevirtual 1168890, .aload 0, .getfield 11052, .invokevirtual 848804, .invokevirtual 392408, .ireturn]
def ps_160 : List Nat := [0, 1, 2, 5, 6, 9, 12, 15]
theorem ck_160 : xChkM 11 false (some .int) prog_1_method_42_code cd_160 ps_160 = true := by decide +kernel
/-- LastCloud.mixed(III)I -/
def cd_161 : List Instr := [.iload 0, .iload 1, .imul, .iconst 100, .iload 0, .isub, .iload 2, .imul, .iadd, .iconst 100, .idiv, .ireturn]
def ps_161 : List Nat := [0, 1, 2, 3, 5, 6, 7, 8, 9, 10, 12, 13]
theorem ck_161 : xChkM 11 false (some .int) prog_1_method_43_code cd_161 ps_161 = true := by decide +kernel
