/-- LastCloudModel.startOf(II)I -/
def cd_270 : List Instr := [.aload 0, .iload 1, .invokevirtual 2088971, .aload 0, .aload 0, .getfield 12262, .aload 0, .getfield 12012, .iconst 12, .iaload, .aload 0, .getfield 12012, .iconst 13, .iaload, .iconst 0, .iload 2, 
  .invokevirtual 2056984, .ireturn]
def ps_270 : List Nat := [0, 1, 2, 5, 6, 7, 10, 11, 14, 16, 17, 18, 21, 23, 24, 25, 26, 29]
theorem ck_270 : xChkM 12 false (some .int) prog_14_method_84_code cd_270 ps_270 = true := by decide +kernel
/-- LastCloudModel.start(I)I -/
def cd_271 : List Instr := [.iload 1, .invokestatic 2103924, .ifCond .eq 12, .aload 0, .invokevirtual 2144964, .ifCond .eq 12, .aload 0, .iload 1, .aload 0, .invokevirtual 2152964, .invokevirtual 2160972, .goto 13, 
  .iconst (-2000000000), .ireturn]
def ps_271 : List Nat := [0, 1, 4, 7, 8, 11, 14, 15, 16, 17, 20, 23, 26, 29]
theorem ck_271 : xChkM 12 false (some .int) prog_14_method_85_code cd_271 ps_271 = true := by decide +kernel
/-- LastCloudModel.cost(I)I -/
def cd_272 : List Instr := [.iload 1, .iconst 1, .if_icmp .eq 6, .iload 1, .iconst 3, .if_icmp .ne 9, .aload 0, .invokevirtual 2144964, .ifCond .ne 11, .iconst (-2000000000), .ireturn, .aload 0, .iload 1, .aload 0, 
  .invokevirtual 2152964, .invokevirtual 2160972, .istore 2, .aload 0, .iconst 0, .aload 0, .invokevirtual 2152964, .invokevirtual 2160972, .iload 2, .isub, .ireturn]
def ps_272 : List Nat := [0, 1, 2, 5, 6, 7, 10, 11, 14, 17, 20, 21, 22, 23, 24, 27, 30, 31, 32, 33, 34, 37, 40, 41, 42]
theorem ck_272 : xChkM 12 false (some .int) prog_14_method_86_code cd_272 ps_272 = true := by decide +kernel
/-- LastCloudModel.leaves(IIZI)I -/
def cd_273 : List Instr := [.aload 0, .iload 1, .invokevirtual 1552968, .ifCond .eq 21, .iload 2, .i2l, .jsr 0, .aload 0, .getfield 12012, .iconst 8, .iaload, .i2l, .invokestatic 1511932, .ifCond .eq 21, .iload 3, .ifCond .eq 23, 
  .aload 0, .getfield 12012, .iconst 6, .iaload, .ifCond .ne 23, .iconst (-2), .ireturn, .aload 0, .iconst 0, .invokevirtual 2088971, .aload 0, .iload 1, .iconst 0, .invokevirtual 1560972, .istore 5, 
  .iload 5, .aload 0, .getfield 12012, .iconst 7, .iaload, .if_icmp .gt 53, .aload 0, .getfield 12272, .iload 1, .iload 5, .iload 2, .iload 4, .iload 3, .invokestatic 2119924, .invokestatic 2039940, 
  .iaload, .iconst 100, .if_icmp .lt 51, .iload 5, .ireturn, .iinc 5 1, .goto 31, .iconst (-1), .ireturn]
def ps_273 : List Nat := [0, 1, 2, 5, 8, 9, 10, 11, 12, 15, 17, 18, 19, 22, 25, 26, 29, 30, 33, 35, 36, 39, 41, 42, 43, 44, 47, 48, 49, 50, 53, 55, 57, 58, 61, 63, 64, 67, 68, 71, 72, 74, 75, 77, 78, 81, 84, 85, 87, 90, 92, 93, 
  96, 99, 100]
theorem ck_273 : xChkM 12 false (some .int) prog_14_method_87_code cd_273 ps_273 = true := by decide +kernel
/-- LastCloudModel.leave(IIZ)I -/
def cd_274 : List Instr := [.aload 0, .iload 1, .iload 2, .iload 3, .iconst 1, .invokevirtual 2184980, .ireturn]
def ps_274 : List Nat := [0, 1, 2, 3, 4, 5, 8]
theorem ck_274 : xChkM 12 false (some .int) prog_14_method_88_code cd_274 ps_274 = true := by decide +kernel
/-- LastCloudModel.on(IIZ)I -/
def cd_275 : List Instr := [.aload 0, .iload 1, .iload 2, .iload 3, .iconst 0, .invokevirtual 2184980, .ireturn]
def ps_275 : List Nat := [0, 1, 2, 3, 4, 5, 8]
theorem ck_275 : xChkM 12 false (some .int) prog_14_method_89_code cd_275 ps_275 = true := by decide +kernel
/-- LastCloudModel.last(II)I -/
def cd_276 : List Instr := [.aload 0, .iload 1, .iload 2, .invokevirtual 1928972, .ifCond .ne 7, .iconst (-2), .ireturn, .aload 0, .iconst 0, .invokevirtual 2088971, .aload 0, .getfield 12012, .iconst 8, .iaload, .istore 3, 
  .iload 3, .ifCond .lt 32, .aload 0, .getfield 12282, .iload 1, .iload 2, .iload 3, .iconst 0, .iconst 0, .invokestatic 2039940, .iaload, .iconst 10000, .if_icmp .ne 30, .iload 3, .ireturn, 
  .iinc 3 (-1), .goto 15, .iconst (-1), .ireturn]
def ps_276 : List Nat := [0, 1, 2, 3, 6, 9, 11, 12, 13, 14, 17, 18, 21, 23, 24, 25, 26, 29, 30, 33, 34, 35, 36, 37, 38, 41, 42, 45, 48, 49, 50, 53, 56, 57]
theorem ck_276 : xChkM 12 false (some .int) prog_14_method_90_code cd_276 ps_276 = true := by decide +kernel
/-- LastCloudModel.weak(III)I -/
def cd_277 : List Instr := [.aload 0, .iload 1, .iload 2, .iload 3, .iconst 0, .invokevirtual 2104980, .ifCond .ne 9, .iconst (-2), .ireturn, .aload 0, .iload 1, .iconst 3, .invokevirtual 1560972, .ifCond .ne 16, .iconst (-1), 
  .ireturn, .iconst (-1), .istore 4, .aload 0, .iload 1, .putfield 12180, .aload 0, .iconst 0, .putfield 12190, .aload 0, .getfield 12190, .iconst 2000, .if_icmp .gt 57, .iload 4, .iconst (-1), 
  .if_icmp .ne 57, .aload 0, .iconst (-1), .putfield 12290, .aload 0, .iconst 0, .invokevirtual 2088971, .aload 0, .getfield 12272, .iload 1, .iload 2, .iload 3, .iconst 1, .iconst 0, 
  .invokestatic 2039940, .iaload, .ifCond .ne 50, .aload 0, .getfield 12190, .istore 4, .aload 0, .dup, .getfield 12190, .iconst 250, .iadd, .putfield 12190, .goto 24, .aload 0, .iconst (-1), 
  .putfield 12180, .aload 0, .iconst (-1), .putfield 12290, .iload 4, .ireturn]
def ps_277 : List Nat := [0, 1, 2, 3, 4, 5, 8, 11, 13, 14, 15, 16, 17, 20, 23, 24, 25, 26, 28, 29, 30, 33, 34, 35, 38, 39, 42, 45, 48, 50, 51, 54, 55, 56, 59, 60, 61, 64, 65, 68, 69, 70, 71, 72, 73, 76, 77, 80, 81, 84, 86, 87, 
  88, 91, 94, 95, 98, 101, 102, 103, 106, 107, 108, 111, 113]
theorem ck_277 : xChkM 12 false (some .int) prog_14_method_91_code cd_277 ps_277 = true := by decide +kernel
/-- LastCloudModel.endsBehind(IIIIZ)I -/
def cd_278 : List Instr := [.aload 0, .iload 1, .invokevirtual 1856968, .istore 6, .aload 0, .getfield 12312, .iload 1, .iload 2, .iload 3, .iconst 1, .iload 4, .invokestatic 2039940, .iaload, .istore 7, .aload 0, 
  .getfield 12312, .iload 1, .iload 2, .iload 3, .iconst 0, .iload 4, .invokestatic 2039940, .iaload, .istore 8, .iload 6, .ifCond .ne 28, .iload 8, .ireturn, .iload 6, .iconst 100, .if_icmp .ne 33, 
  .iload 7, .ireturn, .iload 5, .ifCond .eq 39, .iload 7, .iload 8, .dadd, .goto 42, .iload 7, .iload 8, .dsub, .ireturn]
def ps_278 : List Nat := [0, 1, 2, 5, 7, 8, 11, 12, 13, 14, 15, 17, 20, 21, 23, 24, 27, 28, 29, 30, 31, 33, 36, 37, 39, 41, 44, 46, 47, 49, 51, 54, 56, 57, 59, 62, 64, 66, 69, 72, 74, 76, 79]
theorem ck_278 : xChkM 12 false (some .int) prog_14_method_92_code cd_278 ps_278 = true := by decide +kernel
/-- LastCloudModel.endOf(IIIIIZ)I -/
def cd_279 : List Instr := [.aload 0, .getfield 12272, .iload 1, .iload 2, .iload 3, .iload 4, .iload 5, .invokestatic 2039940, .iaload, .istore 7, .iload 7, .iconst (-1), .if_icmp .ne 18, .aload 0, .iload 1, .iload 3, 
  .invokevirtual 2040972, .ireturn, .iload 7, .ifCond .ne 36, .aload 0, .getfield 12312, .iload 1, .aload 0, .iload 1, .iload 2, .iload 5, .invokevirtual 2048976, .iload 3, .iconst 1, .iadd, .iconst 1, 
  .iload 5, .invokestatic 2039940, .iaload, .ireturn, .iload 7, .iconst 1, .if_icmp .ne 49, .aload 0, .getfield 12312, .iload 1, .iload 2, .iload 3, .iload 4, .iconst 0, .invokestatic 2039940, .iaload, 
  .ireturn, .aload 0, .iload 1, .iload 5, .iload 7, .invokevirtual 2240976, .istore 8, .aload 0, .aload 0, .getfield 12212, .iload 8, .iconst 2, .iadd, .iaload, .aload 0, .iload 8, .iload 2, 
  .invokevirtual 1912972, .iload 3, .aload 0, .getfield 12212, .iload 8, .iconst 3, .iadd, .iaload, .iadd, .iload 5, .iload 6, .invokevirtual 2224984, .ireturn]
def ps_279 : List Nat := [0, 1, 4, 5, 6, 7, 9, 11, 14, 15, 17, 19, 20, 23, 24, 25, 26, 29, 30, 32, 35, 36, 39, 40, 41, 42, 43, 45, 48, 49, 50, 51, 52, 54, 57, 58, 59, 61, 62, 65, 66, 69, 70, 71, 72, 74, 75, 78, 79, 80, 81, 82, 
  84, 86, 89, 91, 92, 93, 96, 98, 99, 100, 101, 102, 104, 105, 108, 109, 110, 113, 115, 116, 117, 118, 119, 121, 123, 126]
theorem ck_279 : xChkM 12 false (some .int) prog_14_method_93_code cd_279 ps_279 = true := by decide +kernel
/-- LastCloudModel.wayOf(III)I -/
def cd_280 : List Instr := [.iconst 2, .iload 1, .imul, .iload 2, .iadd, .istore 4, .iconst 0, .istore 5, .iload 5, .aload 0, .getfield 12202, .iload 4, .iaload, .if_icmp .ge 43, .iconst 300, .iload 4, .imul, .iconst 5, .iload 5, 
  .imul, .iadd, .istore 6, .iconst 100, .iconst 10, .aload 0, .getfield 12212, .iload 6, .iaload, .imul, .iadd, .aload 0, .getfield 12212, .iload 6, .iconst 1, .iadd, .iaload, .iadd, .iload 3, 
  .if_icmp .ne 41, .iload 6, .ireturn, .iinc 5 1, .goto 8, .iconst (-1), .ireturn]
def ps_280 : List Nat := [0, 1, 2, 3, 4, 5, 7, 8, 10, 12, 13, 16, 18, 19, 22, 25, 27, 28, 29, 31, 32, 33, 35, 37, 39, 40, 43, 45, 46, 47, 48, 49, 52, 54, 55, 56, 57, 58, 59, 62, 64, 65, 68, 71, 72]
theorem ck_280 : xChkM 12 false (some .int) prog_14_method_94_code cd_280 ps_280 = true := by decide +kernel
/-- LastCloudModel.ends(IZ)I -/
def cd_281 : List Instr := [.iload 1, .invokestatic 2103924, .ifCond .eq 6, .aload 0, .invokevirtual 2144964, .ifCond .ne 8, .iconst (-2000000000), .ireturn, .aload 0, .iload 1, .invokevirtual 2088971, .aload 0, .getfield 12012, 
  .iconst 8, .iaload, .istore 3, .iload 3, .ifCond .lt 81, .iconst 0, .istore 4, .iload 4, .aload 0, .getfield 12012, .iconst 6, .iaload, .ifCond .le 28, .iconst 1, .goto 29, .iconst 0, .if_icmp .gt 79, 
  .iconst 0, .istore 5, .iload 5, .aload 0, .getfield 12012, .iconst 1, .iaload, .if_icmp .ge 77, .aload 0, .iload 5, .iconst 0, .invokevirtual 1560972, .istore 6, .iload 6, .aload 0, .getfield 12012, 
  .iconst 7, .iaload, .if_icmp .gt 75, .iconst 0, .istore 7, .iload 7, .iconst 2, .if_icmp .ge 73, .aload 0, .getfield 12312, .iload 5, .iload 6, .iload 3, .iload 7, .iload 4, .invokestatic 2039940, 
  .aload 0, .iload 5, .iload 6, .iload 3, .iload 7, .iload 4, .iload 2, .invokevirtual 2232988, .iastore, .iinc 7 1, .goto 51, .iinc 6 1, .goto 43, .iinc 5 1, .goto 32, .iinc 4 1, .goto 20, .iinc 3 (-1), 
  .goto 16, .aload 0, .aload 0, .getfield 12012, .iconst 12, .iaload, .aload 0, .getfield 12012, .iconst 13, .iaload, .iconst 0, .aload 0, .invokevirtual 2152964, .iload 2, .invokevirtual 2224984, 
  .ireturn]
def ps_281 : List Nat := [0, 1, 4, 7, 8, 11, 14, 17, 18, 19, 20, 23, 24, 27, 29, 30, 31, 32, 35, 36, 38, 40, 41, 44, 46, 47, 50, 51, 54, 55, 58, 59, 61, 63, 64, 67, 68, 69, 72, 73, 75, 76, 79, 81, 83, 84, 87, 89, 90, 93, 94, 
  96, 98, 99, 102, 103, 106, 108, 110, 111, 113, 115, 118, 119, 121, 123, 124, 126, 128, 129, 132, 133, 136, 139, 142, 145, 148, 151, 154, 157, 160, 163, 164, 165, 168, 170, 171, 172, 175, 177, 178, 179, 
  180, 183, 184, 187]
theorem ck_281 : xChkM 12 false (some .int) prog_14_method_95_code cd_281 ps_281 = true := by decide +kernel
/-- LastCloudModel.startWith(II)I -/
def cd_282 : List Instr := [.aload 0, .iload 1, .putfield 12160, .aload 0, .iload 2, .putfield 12170, .aload 0, .iconst (-1), .putfield 12290, .aload 0, .iconst 0, .aload 0, .invokevirtual 2152964, .invokevirtual 2160972, 
  .istore 3, .aload 0, .iconst (-1), .putfield 12160, .aload 0, .iconst (-1), .putfield 12290, .iload 3, .ireturn]
def ps_282 : List Nat := [0, 1, 2, 5, 6, 7, 10, 11, 12, 15, 16, 17, 18, 21, 24, 25, 26, 27, 30, 31, 32, 35, 36]
theorem ck_282 : xChkM 12 false (some .int) prog_14_method_96_code cd_282 ps_282 = true := by decide +kernel
/-- LastCloudModel.share(I)I -/
def cd_283 : List Instr := [.aload 0, .iload 1, .invokevirtual 1552968, .ifCond .eq 18, .aload 0, .invokevirtual 2144964, .ifCond .eq 18, .aload 0, .iload 1, .iconst 100, .invokevirtual 2256972, .aload 0, .iconst 0, .aload 0, 
  .invokevirtual 2152964, .invokevirtual 2160972, .isub, .goto 19, .iconst (-2000000000), .ireturn]
def ps_283 : List Nat := [0, 1, 2, 5, 8, 9, 12, 15, 16, 17, 19, 22, 23, 24, 25, 28, 31, 32, 35, 38]
theorem ck_283 : xChkM 12 false (some .int) prog_14_method_97_code cd_283 ps_283 = true := by decide +kernel
/-- LastCloudModel.known(I)I -/
def cd_284 : List Instr := [.aload 0, .iload 1, .invokevirtual 1552968, .ifCond .eq 7, .aload 0, .invokevirtual 2144964, .ifCond .ne 9, .iconst (-2000000000), .ireturn, .aload 0, .iload 1, .invokevirtual 1848968, .istore 2, 
  .aload 0, .iload 1, .iconst 100, .invokevirtual 2256972, .istore 3, .aload 0, .iload 1, .iconst 0, .invokevirtual 2256972, .istore 4, .iload 2, .iload 3, .imul, .iconst 100, .iload 2, .isub, .iload 4, 
  .imul, .iadd, .iconst 100, .idiv, .aload 0, .iconst 0, .aload 0, .invokevirtual 2152964, .invokevirtual 2160972, .isub, .ireturn]
def ps_284 : List Nat := [0, 1, 2, 5, 8, 9, 12, 15, 18, 19, 20, 21, 24, 25, 26, 27, 29, 32, 33, 34, 35, 36, 39, 41, 42, 43, 44, 46, 47, 48, 50, 51, 52, 54, 55, 56, 57, 58, 61, 64, 65]
theorem ck_284 : xChkM 12 false (some .int) prog_14_method_98_code cd_284 ps_284 = true := by decide +kernel
/-- LastCloudModel.hawk(I)I -/
def cd_285 : List Instr := [.aload 0, .iload 1, .invokevirtual 1552968, .ifCond .eq 7, .aload 0, .invokevirtual 2144964, .ifCond .ne 9, .iconst (-2000000000), .ireturn, .aload 0, .iload 1, .invokevirtual 1848968, .istore 2, 
  .iload 2, .aload 0, .iload 1, .iconst 6, .invokevirtual 1560972, .imul, .iconst 100, .iload 2, .isub, .aload 0, .iload 1, .iconst 7, .invokevirtual 1560972, .imul, .iadd, .istore 3, .aload 0, .iload 1, 
  .iload 2, .iconst 1, .iconst 100, .invokevirtual 1840980, .istore 4, .aload 0, .iload 1, .iload 2, .iconst 0, .iconst 100, .invokevirtual 1840980, .istore 5, .aload 0, .iload 1, .iload 4, .iconst (-1), 
  .if_icmp .ne 50, .iload 2, .goto 51, .iload 4, .invokevirtual 2256972, .istore 6, .aload 0, .iload 1, .iload 5, .iconst (-1), .if_icmp .ne 60, .iload 2, .goto 61, .iload 5, .invokevirtual 2256972, 
  .istore 7, .iload 3, .iload 6, .imul, .iconst 10000, .iload 3, .isub, .iload 7, .imul, .iadd, .iconst 10000, .idiv, .aload 0, .iconst 0, .aload 0, .invokevirtual 2152964, .invokevirtual 2160972, .isub, 
  .ireturn]
def ps_285 : List Nat := [0, 1, 2, 5, 8, 9, 12, 15, 18, 19, 20, 21, 24, 25, 26, 27, 28, 30, 33, 34, 36, 37, 38, 39, 40, 42, 45, 46, 47, 48, 49, 50, 51, 52, 54, 57, 59, 60, 61, 62, 63, 65, 68, 70, 71, 72, 74, 75, 78, 79, 82, 84, 
  87, 89, 90, 91, 93, 94, 97, 98, 101, 103, 106, 108, 109, 111, 112, 115, 116, 117, 119, 120, 121, 124, 125, 126, 127, 128, 131, 134, 135]
theorem ck_285 : xChkM 12 false (some .int) prog_14_method_99_code cd_285 ps_285 = true := by decide +kernel
/-- LastCloudModel.water()I -/
def cd_286 : List Instr := [.aload 0, .invokevirtual 2144964, .ifCond .ne 5, .iconst (-2000000000), .ireturn, .aload 0, .getfield 12012, .iconst 6, .iaload, .ifCond .ne 12, .iconst 0, .goto 21, .aload 0, .iconst 0, .iconst 1, 
  .invokevirtual 2160972, .aload 0, .iconst 0, .iconst 0, .invokevirtual 2160972, .isub, .ireturn]
def ps_286 : List Nat := [0, 1, 4, 7, 10, 11, 12, 15, 17, 18, 21, 22, 25, 26, 27, 28, 31, 32, 33, 34, 37, 38]
theorem ck_286 : xChkM 12 false (some .int) prog_14_method_100_code cd_286 ps_286 = true := by decide +kernel
/-- LastCloudModel.drop()I -/
def cd_287 : List Instr := [.aload 0, .invokevirtual 2144964, .ifCond .eq 6, .aload 0, .invokevirtual 2152964, .ifCond .ne 8, .iconst (-1), .ireturn, .aload 0, .iconst 0, .invokevirtual 2088971, .aload 0, .getfield 12012, 
  .iconst 12, .iaload, .istore 1, .aload 0, .getfield 12012, .iconst 13, .iaload, .istore 2, .iconst 0, .istore 3, .aload 0, .getfield 12272, .iload 1, .iload 2, .iload 3, .aload 0, .iload 1, .iconst 3, 
  .invokevirtual 1560972, .iconst 1, .invokestatic 2039940, .iaload, .istore 4, .iload 4, .iconst (-1), .if_icmp .ne 41, .iconst (-1), .ireturn, .iload 4, .iconst 1, .if_icmp .ne 46, .iload 3, .ireturn, 
  .iload 4, .ifCond .ne 56, .aload 0, .iload 1, .iload 2, .iconst 1, .invokevirtual 2048976, .istore 2, .iinc 3 1, .goto 23, .aload 0, .iload 1, .iconst 1, .iload 4, .invokevirtual 2240976, .istore 5, 
  .aload 0, .iload 5, .iload 2, .invokevirtual 1912972, .istore 2, .iload 3, .aload 0, .getfield 12212, .iload 5, .iconst 3, .iadd, .iaload, .iadd, .istore 3, .aload 0, .getfield 12212, .iload 5, 
  .iconst 2, .iadd, .iaload, .istore 1, .goto 23]
def ps_287 : List Nat := [0, 1, 4, 7, 8, 11, 14, 15, 16, 17, 18, 21, 22, 25, 27, 28, 29, 30, 33, 35, 36, 37, 38, 39, 40, 43, 44, 45, 46, 47, 48, 49, 52, 53, 56, 57, 59, 61, 62, 65, 66, 67, 69, 70, 73, 74, 75, 77, 80, 81, 82, 
  83, 84, 87, 88, 91, 94, 95, 96, 97, 99, 102, 104, 105, 107, 108, 111, 112, 113, 114, 117, 119, 120, 121, 122, 123, 124, 125, 128, 130, 131, 132, 133, 134]
theorem ck_287 : xChkM 12 false (some .int) prog_14_method_101_code cd_287 ps_287 = true := by decide +kernel
/-- LastCloudModel.draw(I)I -/
def cd_288 : List Instr := [.aload 0, .jsr 1103515245, .aload 0, .getfield 12321, .lmul, .jsr 12345, .ladd, .jsr 2147483648, .lrem, .putfield 12321, .aload 0, .getfield 12321, .jsr 65536, .ldiv, .iload 1, .i2l, .lrem, .l2i, 
  .ireturn]
def ps_288 : List Nat := [0, 1, 4, 5, 8, 9, 12, 13, 16, 17, 20, 21, 24, 27, 28, 29, 30, 31, 32]
theorem ck_288 : xChkM 12 false (some .int) prog_14_method_102_code cd_288 ps_288 = true := by decide +kernel
/-- LastCloudModel.sets(I)V -/
def cd_289 : List Instr := [.aload 0, .iload 1, .i2l, .putfield 12321, .aload 0, .aload 0, .getfield 12012, .iconst 12, .iaload, .putfield 12330, .aload 0, .aload 0, .getfield 12012, .iconst 13, .iaload, .putfield 12340, 
  .aload 0, .iconst 0, .putfield 12350, .aload 0, .aload 0, .invokevirtual 2152964, .putfield 12370, .aload 0, .aload 0, .iconst 100, .invokevirtual 2304968, .aload 0, .aload 0, .getfield 12330, 
  .invokevirtual 1856968, .if_icmp .ge 34, .iconst 1, .goto 35, .iconst 0, .putfield 12360, .aload 0, .iconst 0, .putfield 12380, .return_]
def ps_289 : List Nat := [0, 1, 2, 3, 6, 7, 8, 11, 13, 14, 17, 18, 19, 22, 24, 25, 28, 29, 30, 33, 34, 35, 38, 41, 42, 43, 45, 48, 49, 50, 53, 56, 59, 60, 63, 64, 67, 68, 69, 72]
theorem ck_289 : xChkM 12 false none prog_14_method_103_code cd_289 ps_289 = true := by decide +kernel
/-- LastCloudModel.does(J)Z -/
def cd_290 : List Instr := [.lload 1, .jsr (-1), .lcmp, .ifCond .ne 6, .iconst 1, .freturn, .lload 1, .jsr 0, .lcmp, .ifCond .ne 46, .aload 0, .aload 0, .getfield 12330, .aload 0, .getfield 12340, .aload 0, .getfield 12370, 
  .invokevirtual 2048976, .istore 3, .aload 0, .getfield 12360, .ifCond .eq 33, .aload 0, .getfield 12350, .aload 0, .getfield 12012, .iconst 8, .iaload, .if_icmp .ge 33, .iload 3, .aload 0, 
  .getfield 12340, .if_icmp .gt 35, .iconst 0, .freturn, .aload 0, .iload 3, .putfield 12340, .aload 0, .dup, .getfield 12350, .iconst 1, .iadd, .putfield 12350, .iconst 1, .freturn, .lload 1, .jsr 1, 
  .lcmp, .ifCond .ne 60, .aload 0, .getfield 12370, .ifCond .ne 55, .iconst 0, .freturn, .aload 0, .iconst 0, .putfield 12370, .iconst 1, .freturn, .lload 1, .jsr 100, .jsr 199, .invokestatic 1511932, 
  .ifCond .eq 74, .aload 0, .aload 0, .getfield 12330, .aload 0, .getfield 12370, .lload 1, .l2i, .invokevirtual 2240976, .goto 75, .iconst (-1), .istore 3, .iload 3, .iconst (-1), .if_icmp .eq 100, 
  .aload 0, .getfield 12350, .aload 0, .getfield 12212, .iload 3, .iconst 3, .iadd, .iaload, .iadd, .aload 0, .getfield 12012, .iconst 8, .iaload, .if_icmp .gt 100, .aload 0, .iload 3, .aload 0, 
  .getfield 12340, .invokevirtual 1912972, .iconst (-1), .if_icmp .ne 102, .iconst 0, .freturn, .aload 0, .aload 0, .iload 3, .aload 0, .getfield 12340, .invokevirtual 1912972, .putfield 12340, .aload 0, 
  .dup, .getfield 12350, .aload 0, .getfield 12212, .iload 3, .iconst 3, .iadd, .iaload, .iadd, .putfield 12350, .aload 0, .aload 0, .getfield 12212, .iload 3, .iconst 2, .iadd, .iaload, .putfield 12330, 
  .aload 0, .aload 0, .iconst 100, .invokevirtual 2304968, .aload 0, .aload 0, .getfield 12330, .invokevirtual 1856968, .if_icmp .ge 139, .iconst 1, .goto 140, .iconst 0, .putfield 12360, .iconst 1, 
  .freturn]
def ps_290 : List Nat := [0, 1, 4, 5, 8, 9, 10, 11, 12, 13, 16, 17, 18, 21, 22, 25, 26, 29, 32, 33, 34, 37, 40, 41, 44, 45, 48, 50, 51, 54, 55, 56, 59, 62, 63, 64, 65, 66, 69, 70, 71, 74, 75, 76, 79, 80, 81, 82, 83, 84, 87, 88, 
  91, 94, 95, 96, 97, 98, 101, 102, 103, 104, 107, 110, 113, 116, 117, 118, 121, 122, 125, 126, 127, 130, 133, 134, 135, 136, 137, 140, 141, 144, 145, 148, 149, 150, 151, 152, 153, 154, 157, 159, 160, 
  163, 164, 165, 166, 169, 172, 173, 176, 177, 178, 179, 180, 181, 182, 185, 188, 191, 192, 193, 196, 197, 200, 201, 202, 203, 204, 205, 208, 209, 210, 213, 214, 215, 216, 217, 220, 221, 222, 224, 227, 
  228, 229, 232, 235, 238, 239, 242, 243, 246, 247]
theorem ck_290 : xChkM 12 false (some .boolean) prog_14_method_104_code cd_290 ps_290 = true := by decide +kernel
/-- LastCloudModel.flies(II)V -/
def cd_291 : List Instr := [.aload 0, .iload 1, .invokevirtual 2088971, .aload 0, .iload 2, .invokevirtual 2312971, .iconst 0, .istore 3, .iload 3, .iconst (-1), .if_icmp .eq 87, .aload 0, .getfield 12380, .iconst 100, 
  .if_icmp .ne 17, .iconst (-1), .goto 31, .aload 0, .getfield 12272, .aload 0, .getfield 12330, .aload 0, .getfield 12340, .aload 0, .getfield 12350, .aload 0, .getfield 12360, .aload 0, 
  .getfield 12370, .invokestatic 2039940, .iaload, .istore 3, .iconst 5, .aload 0, .getfield 12380, .imul, .istore 4, .aload 0, .getfield 12392, .iload 4, .iload 3, .iastore, .aload 0, .getfield 12392, 
  .iload 4, .iconst 1, .iadd, .aload 0, .getfield 12330, .iastore, .aload 0, .getfield 12392, .iload 4, .iconst 2, .iadd, .aload 0, .getfield 12340, .iastore, .aload 0, .getfield 12392, .iload 4, 
  .iconst 3, .iadd, .aload 0, .getfield 12350, .iastore, .aload 0, .getfield 12392, .iload 4, .iconst 4, .iadd, .aload 0, .getfield 12360, .iastore, .aload 0, .dup, .getfield 12380, .iconst 1, .iadd, 
  .putfield 12380, .aload 0, .iload 3, .i2l, .invokevirtual 2320968, .ifCond .ne 86, .return_, .goto 8, .return_]
def ps_291 : List Nat := [0, 1, 2, 5, 6, 7, 10, 11, 12, 13, 14, 17, 18, 21, 23, 26, 27, 30, 31, 34, 35, 38, 39, 42, 43, 46, 47, 50, 51, 54, 57, 58, 59, 60, 61, 64, 65, 67, 68, 71, 73, 74, 75, 76, 79, 81, 82, 83, 84, 87, 88, 89, 
  92, 94, 95, 96, 97, 100, 101, 102, 105, 107, 108, 109, 110, 113, 114, 115, 118, 120, 121, 122, 123, 126, 127, 128, 129, 132, 133, 134, 137, 138, 139, 140, 143, 146, 147, 150]
theorem ck_291 : xChkM 12 false none prog_14_method_105_code cd_291 ps_291 = true := by decide +kernel
/-- LastCloudModel.canFly(II)Z -/
def cd_292 : List Instr := [.iload 1, .invokestatic 2103924, .ifCond .eq 14, .iload 2, .i2l, .jsr 0, .jsr 2000000000, .invokestatic 1511932, .ifCond .eq 14, .aload 0, .invokevirtual 2144964, .ifCond .eq 14, .iconst 1, .goto 15, 
  .iconst 0, .freturn]
def ps_292 : List Nat := [0, 1, 4, 7, 8, 9, 10, 13, 16, 19, 20, 23, 26, 27, 30, 31]
theorem ck_292 : xChkM 12 false (some .boolean) prog_14_method_106_code cd_292 ps_292 = true := by decide +kernel
/-- LastCloudModel.fly(II)I -/
def cd_293 : List Instr := [.aload 0, .iload 1, .iload 2, .invokevirtual 2336972, .ifCond .ne 7, .iconst (-2), .ireturn, .aload 0, .iload 1, .iload 2, .invokevirtual 2328975, .aload 0, .aload 0, .getfield 12380, .putfield 12400, 
  .iconst 0, .istore 3, .iload 3, .iconst 5, .aload 0, .getfield 12380, .imul, .if_icmp .ge 33, .aload 0, .getfield 12412, .iload 3, .aload 0, .getfield 12392, .iload 3, .iaload, .iastore, .iinc 3 1, 
  .goto 17, .aload 0, .getfield 12422, .iconst 0, .aload 0, .getfield 12330, .iastore, .aload 0, .getfield 12422, .iconst 1, .aload 0, .getfield 12340, .iastore, .aload 0, .getfield 12422, .iconst 2, 
  .aload 0, .getfield 12350, .iastore, .aload 0, .getfield 12422, .iconst 3, .aload 0, .aload 0, .getfield 12330, .aload 0, .getfield 12350, .invokevirtual 2040972, .iastore, .aload 0, .getfield 12422, 
  .iconst 4, .aload 0, .aload 0, .getfield 12330, .iconst 1, .invokevirtual 1560972, .iconst 2, .if_icmp .ne 73, .iconst 1, .goto 83, .aload 0, .aload 0, .getfield 12330, .iconst 1, 
  .invokevirtual 1560972, .iconst 1, .if_icmp .ne 82, .iconst 2, .goto 83, .iconst 3, .iastore, .aload 0, .getfield 12380, .ireturn]
def ps_293 : List Nat := [0, 1, 2, 3, 6, 9, 11, 12, 13, 14, 15, 18, 19, 20, 23, 26, 27, 28, 29, 30, 31, 34, 35, 38, 39, 42, 43, 44, 47, 48, 49, 50, 53, 56, 57, 60, 61, 62, 65, 66, 67, 70, 71, 72, 75, 76, 77, 80, 81, 82, 85, 86, 
  87, 90, 91, 92, 93, 96, 97, 100, 103, 104, 105, 108, 109, 110, 111, 114, 115, 118, 119, 122, 123, 126, 127, 128, 131, 132, 135, 136, 139, 140, 143, 144, 145, 146, 149]
theorem ck_293 : xChkM 12 false (some .int) prog_14_method_107_code cd_293 ps_293 = true := by decide +kernel
/-- LastCloudModel.flown(II)I -/
def cd_294 : List Instr := [.iload 1, .i2l, .jsr 0, .aload 0, .getfield 12400, .iconst 1, .isub, .i2l, .invokestatic 1511932, .ifCond .eq 25, .iload 2, .i2l, .jsr 0, .jsr 4, .invokestatic 1511932, .ifCond .eq 25, .aload 0, 
  .getfield 12412, .iconst 5, .iload 1, .imul, .iload 2, .iadd, .iaload, .goto 26, .iconst (-1), .ireturn]
def ps_294 : List Nat := [0, 1, 2, 3, 4, 7, 8, 9, 10, 13, 16, 17, 18, 19, 22, 25, 28, 29, 32, 33, 34, 35, 36, 37, 38, 41, 42]
theorem ck_294 : xChkM 12 false (some .int) prog_14_method_108_code cd_294 ps_294 = true := by decide +kernel
/-- LastCloudModel.landed(I)I -/
def cd_295 : List Instr := [.iload 1, .i2l, .jsr 0, .jsr 4, .invokestatic 1511932, .ifCond .eq 11, .aload 0, .getfield 12422, .iload 1, .iaload, .goto 12, .iconst (-1), .ireturn]
def ps_295 : List Nat := [0, 1, 2, 3, 6, 9, 12, 13, 16, 17, 18, 21, 22]
theorem ck_295 : xChkM 12 false (some .int) prog_14_method_109_code cd_295 ps_295 = true := by decide +kernel
/-- LastCloudModel.judge(II)I -/
def cd_296 : List Instr := [.iload 1, .invokestatic 2519924, .ifCond .eq 12, .iload 2, .i2l, .jsr 0, .jsr 2000000000, .invokestatic 1511932, .ifCond .eq 12, .aload 0, .invokevirtual 2144964, .ifCond .ne 14, .iconst (-2), 
  .ireturn, .aload 0, .getfield 12492, .iload 1, .iaload, .iconst (-1), .if_icmp .ne 22, .iconst (-6), .ireturn, .aload 0, .invokevirtual 1896967, .aload 0, .iload 2, .invokevirtual 2312971, .iconst 0, 
  .istore 3, .iload 3, .aload 0, .getfield 12492, .iload 1, .iaload, .if_icmp .ge 60, .aload 0, .getfield 12512, .iconst 60, .iload 1, .imul, .iload 3, .iadd, .laload, .lstore 4, .aload 0, .lload 4, 
  .invokevirtual 2320968, .ifCond .ne 50, .iload 3, .ireturn, .lload 4, .jsr (-1), .lcmp, .ifCond .ne 58, .iload 3, .iconst 1, .iadd, .ireturn, .iinc 3 1, .goto 29, .aload 0, .getfield 12492, .iload 1, 
  .iaload, .ireturn]
def ps_296 : List Nat := [0, 1, 4, 7, 8, 9, 10, 13, 16, 19, 20, 23, 26, 28, 29, 30, 33, 34, 35, 36, 39, 41, 42, 43, 46, 47, 48, 51, 52, 53, 54, 55, 58, 59, 60, 63, 64, 67, 69, 70, 71, 72, 73, 74, 76, 77, 79, 82, 85, 86, 87, 89, 
  92, 93, 96, 97, 98, 99, 100, 103, 106, 107, 110, 111, 112]
theorem ck_296 : xChkM 12 false (some .int) prog_14_method_110_code cd_296 ps_296 = true := by decide +kernel
