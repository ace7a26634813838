/-- LastCloudModel.is(Ljava/lang/String;)Z -/
def cd_216 : List Instr := [.aload 0, .invokevirtual 1712964, .ifCond .eq 17, .aload 0, .getfield 12100, .iconst 1, .if_icmp .ne 17, .aload 0, .getfield 12080, .aload 0, .getfield 12090, .isub, .aload 1, .d2i, .if_icmp .ne 17, 
  .iconst 1, .goto 18, .iconst 0, .istore 2, .iconst 0, .istore 3, .iload 3, .aload 1, .d2i, .if_icmp .ge 44, .iload 2, .ifCond .eq 44, .aload 0, .getfield 12042, .aload 0, .getfield 12090, .iload 3, 
  .iadd, .baload, .aload 1, .iload 3, .d2l, .if_icmp .ne 40, .iconst 1, .goto 41, .iconst 0, .istore 2, .iinc 3 1, .goto 21, .iload 2, .freturn]
def ps_216 : List Nat := [0, 1, 4, 7, 8, 11, 12, 15, 16, 19, 20, 23, 24, 25, 28, 31, 32, 35, 36, 37, 38, 39, 40, 41, 44, 47, 48, 51, 52, 55, 56, 59, 60, 61, 62, 63, 64, 67, 70, 71, 74, 75, 76, 79, 82, 83]
theorem ck_216 : xChkM 12 false (some .boolean) prog_14_method_17_code cd_216 ps_216 = true := xChkN_ok 0xac1cd8ffa70103843d030400a7040700a0ab00b61d2b33601d8600b42a1800b42a2200991c2600a2a500b62b1d3e033d030400a7040700a0a500b62b648600b42a7f00b42a1700a0048900b42a1f0099a100b62a 84 0x00530052004f004c004b004a0047004600430040003f003e003d003c003b00380037003400330030002f002c00290028002700260025002400230020001f001c001900180017001400130010000f000c000b00080007000400010000 46 (by decide +kernel)
/-- LastCloudModel.takes(Ljava/lang/String;)Z -/
def cd_217 : List Instr := [.aload 0, .aload 1, .invokevirtual 1728968, .istore 2, .iload 2, .ifCond .eq 8, .aload 0, .invokevirtual 1704967, .iload 2, .freturn]
def ps_217 : List Nat := [0, 1, 2, 5, 6, 7, 10, 11, 14, 15]
theorem ck_217 : xChkM 12 false (some .boolean) prog_14_method_18_code cd_217 ps_217 = true := xChkN_ok 0xac1cb300b62a0700991c3daf00b62b2a 16 0x000f000e000b000a000700060005000200010000 10 (by decide +kernel)
/-- LastCloudModel.needs(Ljava/lang/String;)V -/
def cd_218 : List Instr := [.aload 0, .aload 1, .invokevirtual 1736968, .ifCond .ne 7, .aload 0, .iconst 1, .invokevirtual 1720971, .return_]
def ps_218 : List Nat := [0, 1, 2, 5, 8, 9, 10, 13]
theorem ck_218 : xChkM 12 false none prog_14_method_19_code cd_218 ps_218 = true := xChkN_ok 0xb1b900b6042a08009ab600b62b2a 14 0x000d000a000900080005000200010000 8 (by decide +kernel)
/-- LastCloudModel.number(II)I -/
def cd_219 : List Instr := [.aload 0, .invokevirtual 1712964, .ifCond .eq 10, .aload 0, .getfield 12100, .iconst 2, .if_icmp .eq 10, .aload 0, .iconst 1, .invokevirtual 1720971, .aload 0, .invokevirtual 1712964, .ifCond .eq 25, 
  .aload 0, .getfield 12110, .i2l, .iload 1, .i2l, .iload 2, .i2l, .invokestatic 1615932, .ifCond .ne 25, .aload 0, .iconst 2, .invokevirtual 1720971, .aload 0, .invokevirtual 1712964, .ifCond .ne 30, 
  .iconst 0, .ireturn, .aload 0, .getfield 12110, .istore 3, .aload 0, .invokevirtual 1704967, .iload 3, .ireturn]
def ps_219 : List Nat := [0, 1, 4, 7, 8, 11, 12, 15, 16, 17, 20, 21, 24, 27, 28, 31, 32, 33, 34, 35, 36, 39, 42, 43, 44, 47, 48, 51, 54, 55, 56, 57, 60, 61, 62, 65, 66]
theorem ck_219 : xChkM 12 false (some .int) prog_14_method_20_code cd_219 ps_219 = true := xChkN_ok 0xac1db300b62a3e9400b42aac0305009aa100b62ab900b6052a08009a7500b8851c851b859400b42a170099a100b62ab900b6042a08009f058900b42a100099a100b62a 67 0x00420041003e003d003c003900380037003600330030002f002c002b002a002700240023002200210020001f001c001b00180015001400110010000f000c000b00080007000400010000 37 (by decide +kernel)
/-- LastCloudModel.told(Ljava/lang/String;II)I -/
def cd_220 : List Instr := [.aload 0, .aload 1, .invokevirtual 1744971, .aload 0, .iload 2, .iload 3, .invokevirtual 1752972, .ireturn]
def ps_220 : List Nat := [0, 1, 2, 5, 6, 7, 8, 11]
theorem ck_220 : xChkM 12 false (some .int) prog_14_method_21_code cd_220 ps_220 = true := xChkN_ok 0xacc100b61d1c2abd00b62b2a 12 0x000b0008000700060005000200010000 8 (by decide +kernel)
/-- LastCloudModel.fault(I)I -/
def cd_221 : List Instr := [.iload 1, .ifCond .ne 5, .aload 0, .getfield 12120, .goto 12, .iload 1, .iconst 1, .if_icmp .ne 11, .aload 0, .getfield 12130, .goto 12, .iconst (-1), .ireturn]
def ps_221 : List Nat := [0, 1, 4, 5, 8, 11, 12, 13, 16, 17, 20, 23, 24]
theorem ck_221 : xChkM 12 false (some .int) prog_14_method_22_code cd_221 ps_221 = true := xChkN_ok 0xac020400a71f00b42a0a00a0041b1000a79e00b42a0a009a1b 25 0x00180017001400110010000d000c000b00080005000400010000 13 (by decide +kernel)
/-- LastCloudModel.place()I -/
def cd_222 : List Instr := [.aload 0, .iconst 0, .aload 0, .getfield 12142, .iconst 1, .iaload, .iconst 1, .isub, .invokevirtual 1752972, .ireturn]
def ps_222 : List Nat := [0, 1, 2, 3, 6, 7, 8, 9, 10, 13]
theorem ck_222 : xChkM 12 false (some .int) prog_14_method_23_code cd_222 ps_222 = true := xChkN_ok 0xacc100b664042e042200b42a032a 14 0x000d000a00090008000700060003000200010000 10 (by decide +kernel)
/-- LastCloudModel.signed(I)I -/
def cd_223 : List Instr := [.aload 0, .iconst 0, .iload 1, .invokevirtual 1752972, .istore 2, .aload 0, .ldc 16, .invokevirtual 1736968, .ifCond .eq 12, .iload 2, .ineg, .goto 13, .iload 2, .ireturn]
def ps_223 : List Nat := [0, 1, 2, 3, 6, 7, 8, 10, 13, 16, 17, 18, 21, 22]
theorem ck_223 : xChkM 12 false (some .int) prog_14_method_24_code cd_223 ps_223 = true := xChkN_ok 0xac1c0400a7741c080099b600b6c4122a3dc100b61b032a 23 0x00160015001200110010000d000a0008000700060003000200010000 14 (by decide +kernel)
/-- LastCloudModel.readPlace()V -/
def cd_224 : List Instr := [.iconst 20, .iconst 8, .aload 0, .getfield 12142, .iconst 1, .iaload, .imul, .iadd, .istore 1, .aload 0, .getfield 12142, .iload 1, .iconst 0, .iadd, .aload 0, .ldc 11, .iconst 0, .iconst 30, 
  .invokevirtual 1760976, .iastore, .aload 0, .ldc 13, .invokevirtual 1736968, .ifCond .eq 42, .aload 0, .getfield 12142, .iload 1, .iconst 1, .iadd, .iconst 1, .iastore, .aload 0, .getfield 12142, 
  .iload 1, .iconst 2, .iadd, .aload 0, .iconst 0, .iconst 999, .invokevirtual 1752972, .iastore, .goto 67, .aload 0, .ldc 12, .invokevirtual 1728968, .ifCond .eq 67, .aload 0, .getfield 12150, 
  .ifCond .eq 52, .aload 0, .iconst 2, .invokevirtual 1720971, .aload 0, .invokevirtual 1712964, .ifCond .eq 57, .aload 0, .invokevirtual 1704967, .aload 0, .iconst 1, .putfield 12153, .aload 0, 
  .getfield 12142, .iload 1, .iconst 1, .iadd, .iconst 2, .iastore, .aload 0, .getfield 12142, .iconst 1, .dup2, .iaload, .iconst 1, .iadd, .iastore, .return_]
def ps_224 : List Nat := [0, 2, 4, 5, 8, 9, 10, 11, 12, 13, 14, 17, 18, 19, 20, 21, 23, 24, 26, 29, 30, 31, 33, 36, 39, 40, 43, 44, 45, 46, 47, 48, 49, 52, 53, 54, 55, 56, 57, 60, 63, 64, 67, 68, 70, 73, 76, 77, 80, 83, 84, 85, 
  88, 89, 92, 95, 96, 99, 100, 101, 104, 105, 108, 109, 110, 111, 112, 113, 114, 117, 118, 119, 120, 121, 122, 123]
theorem ck_224 : xChkM 12 false none prog_14_method_25_code cd_224 ps_224 = true := xChkN_ok 0xb14f60042e5c042200b42a4f0560041b2200b42ad000b5042ab300b62a070099a100b62ab900b6052a080099d000b42a280099af00b6ce122a3100a74fc100b6e70311032a60051b2200b42a4f0460041b2200b42a1f0099b600b6cc122a4fc800b61e1003c6122a60031b2200b42a3c60682e042200b42a08101410 124 0x007b007a00790078007700760075007200710070006f006e006d006c006900680065006400630060005f005c005900580055005400530050004d004c00490046004400430040003f003c00390038003700360035003400310030002f002e002d002c002b0028002700240021001f001e001d001a0018001700150014001300120011000e000d000c000b000a000900080005000400020000 76 (by decide +kernel)
/-- LastCloudModel.readLeg()V -/
def cd_225 : List Instr := [.iconst 84, .iconst 6, .aload 0, .getfield 12142, .iconst 2, .iaload, .imul, .iadd, .istore 1, .aload 0, .getfield 12142, .iload 1, .aload 0, .invokevirtual 1776964, .iastore, .aload 0, 
  .invokevirtual 1712964, .ifCond .eq 32, .aload 0, .getfield 12100, .iconst 2, .if_icmp .ne 32, .aload 0, .getfield 12110, .aload 0, .getfield 12142, .iload 1, .iaload, .if_icmp .ne 32, .aload 0, 
  .iconst 2, .invokevirtual 1720971, .aload 0, .getfield 12142, .iload 1, .iconst 1, .iadd, .aload 0, .invokevirtual 1776964, .iastore, .aload 0, .ldc 14, .invokevirtual 1744971, .aload 0, 
  .getfield 12142, .iload 1, .iconst 2, .iadd, .aload 0, .iconst 1, .iconst 60, .invokevirtual 1752972, .iastore, .aload 0, .ldc 15, .invokevirtual 1744971, .aload 0, .getfield 12142, .iload 1, 
  .iconst 3, .iadd, .aload 0, .iconst 999, .invokevirtual 1784968, .iastore, .aload 0, .ldc 17, .invokevirtual 1744971, .aload 0, .getfield 12142, .iload 1, .iconst 4, .iadd, .aload 0, .iconst 60, 
  .invokevirtual 1784968, .iastore, .aload 0, .ldc 18, .invokevirtual 1736968, .ifCond .eq 91, .aload 0, .getfield 12142, .iload 1, .iconst 5, .iadd, .aload 0, .iconst 0, .iconst 40, 
  .invokevirtual 1752972, .iastore, .aload 0, .getfield 12142, .iconst 2, .dup2, .iaload, .iconst 1, .iadd, .iastore, .return_]
def ps_225 : List Nat := [0, 2, 4, 5, 8, 9, 10, 11, 12, 13, 14, 17, 18, 19, 22, 23, 24, 27, 30, 31, 34, 35, 38, 39, 42, 43, 46, 47, 48, 51, 52, 53, 56, 57, 60, 61, 62, 63, 64, 67, 68, 69, 71, 74, 75, 78, 79, 80, 81, 82, 83, 85, 
  88, 89, 90, 92, 95, 96, 99, 100, 101, 102, 103, 106, 109, 110, 111, 113, 116, 117, 120, 121, 122, 123, 124, 126, 129, 130, 131, 133, 136, 139, 140, 143, 144, 145, 146, 147, 148, 150, 153, 154, 155, 
  158, 159, 160, 161, 162, 163, 164]
theorem ck_225 : xChkM 12 false none prog_14_method_26_code cd_225 ps_225 = true := xChkN_ok 0xb14f60042e5c052200b42a4fc100b62810032a60081b2200b42a120099b600b6e0122a4fdb00b63c102a60071b2200b42abd00b6de122a4fdb00b6e703112a60061b2200b42abd00b6d9122a4fc100b63c10042a60051b2200b42abd00b6d7122a4fd400b62a60041b2200b42ab900b6052a0800a02e1b2200b42a9400b42a1500a0058900b42a1d0099a100b62a4fd400b62a1b2200b42a3c60682e052200b42a06105410 165 0x00a400a300a200a100a0009f009e009b009a0099009600940093009200910090008f008c008b00880085008300820081007e007c007b007a00790078007500740071006f006e006d006a006700660065006400630060005f005c005a0059005800550053005200510050004f004e004b004a00470045004400430040003f003e003d003c003900380035003400330030002f002e002b002a0027002600230022001f001e001b001800170016001300120011000e000d000c000b000a000900080005000400020000 100 (by decide +kernel)
/-- LastCloudModel.readLift()V -/
def cd_226 : List Instr := [.aload 0, .invokevirtual 1712964, .ifCond .eq 36, .aload 0, .getfield 12100, .iconst 2, .if_icmp .ne 36, .aload 0, .getfield 12110, .i2l, .jsr 0, .aload 0, .getfield 12142, .iconst 1, .iaload, 
  .iconst 1, .isub, .i2l, .invokestatic 1615932, .ifCond .eq 36, .aload 0, .getfield 12142, .iconst 20, .iconst 8, .aload 0, .getfield 12110, .imul, .iadd, .iconst 3, .iadd, .iaload, .iconst 1, 
  .if_icmp .ne 36, .aload 0, .iconst 2, .invokevirtual 1720971, .iconst 20, .iconst 8, .aload 0, .invokevirtual 1776964, .imul, .iadd, .istore 1, .aload 0, .ldc 19, .iconst 0, .iconst 100, 
  .invokevirtual 1760976, .istore 2, .aload 0, .ldc 20, .iconst 0, .iconst 2000, .invokevirtual 1760976, .istore 3, .aload 0, .invokevirtual 1712964, .ifCond .ne 59, .return_, .aload 0, .getfield 12142, 
  .iload 1, .iconst 3, .iadd, .iconst 1, .iastore, .aload 0, .getfield 12142, .iload 1, .iconst 4, .iadd, .iload 2, .iastore, .aload 0, .getfield 12142, .iload 1, .iconst 5, .iadd, .iload 3, .iastore, 
  .aload 0, .ldc 21, .invokevirtual 1736968, .ifCond .ne 85, .return_, .aload 0, .getfield 12142, .iload 1, .iconst 6, .iadd, .aload 0, .iconst 0, .iconst 100, .invokevirtual 1752972, .iastore, .aload 0, 
  .getfield 12142, .iload 1, .iconst 7, .iadd, .aload 0, .iconst 0, .iconst 100, .invokevirtual 1752972, .iastore, .return_]
def ps_226 : List Nat := [0, 1, 4, 7, 8, 11, 12, 15, 16, 19, 20, 21, 22, 25, 26, 27, 28, 29, 30, 33, 36, 37, 40, 42, 44, 45, 48, 49, 50, 51, 52, 53, 54, 57, 58, 59, 62, 64, 66, 67, 70, 71, 72, 73, 74, 76, 77, 79, 82, 83, 84, 
  86, 87, 90, 93, 94, 95, 98, 101, 102, 103, 106, 107, 108, 109, 110, 111, 112, 115, 116, 117, 118, 119, 120, 121, 124, 125, 126, 127, 128, 129, 130, 132, 135, 138, 139, 140, 143, 144, 146, 147, 148, 
  149, 151, 154, 155, 156, 159, 160, 162, 163, 164, 165, 167, 170, 171]
theorem ck_226 : xChkM 12 false none prog_14_method_27_code cd_226 ps_226 = true := xChkN_ok 0xb14fc100b66410032a6007101b2200b42a4fc100b66410032a6006101b2200b42ab104009ab600b6e6122a4f1d60081b2200b42a4f1c60071b2200b42a4f0460061b2200b42ab104009aa100b62a3ec800b6d0071103e4122a3dc800b6641003e2122a3c6068d400b62a08101410b900b6052a0800a0042e600660689400b42a081014102200b42a1d00997500b88564042e042200b42a09859400b42a3200a0058900b42a3a0099a100b62a 172 0x00ab00aa00a700a500a400a300a200a0009f009c009b009a009700950094009300920090008f008c008b008a00870084008200810080007f007e007d007c00790078007700760075007400730070006f006e006d006c006b006a0067006600650062005f005e005d005a00570056005400530052004f004d004c004a0049004800470046004300420040003e003b003a00390036003500340033003200310030002d002c002a0028002500240021001e001d001c001b001a001900160015001400130010000f000c000b00080007000400010000 106 (by decide +kernel)
/-- LastCloudModel.readPoint()V -/
def cd_227 : List Instr := [.aload 0, .invokevirtual 1712964, .ifCond .eq 31, .aload 0, .getfield 12100, .iconst 2, .if_icmp .ne 31, .aload 0, .getfield 12110, .i2l, .jsr 0, .aload 0, .getfield 12142, .iconst 1, .iaload, 
  .iconst 1, .isub, .i2l, .invokestatic 1615932, .ifCond .eq 31, .aload 0, .getfield 12142, .iconst 15, .iaload, .aload 0, .getfield 12110, .invokestatic 1623928, .ifCond .eq 31, .aload 0, .iconst 2, 
  .invokevirtual 1720971, .aload 0, .invokevirtual 1776964, .istore 1, .aload 0, .invokevirtual 1712964, .ifCond .eq 47, .aload 0, .getfield 12142, .iconst 15, .dup2, .iaload, .iconst 1, .iload 1, .ishl, 
  .ior, .iastore, .return_]
def ps_227 : List Nat := [0, 1, 4, 7, 8, 11, 12, 15, 16, 19, 20, 21, 22, 25, 26, 27, 28, 29, 30, 33, 36, 37, 40, 42, 43, 44, 47, 50, 53, 54, 55, 58, 59, 62, 63, 64, 67, 70, 71, 74, 76, 77, 78, 79, 80, 81, 82, 83]
theorem ck_227 : xChkM 12 false none prog_14_method_28_code cd_227 ps_227 = true := xChkN_ok 0xb14f80781b042e5c0f102200b42a100099a100b62a3cd400b62ab900b6052a080099e800b89400b42a2e0f102200b42a1900997500b88564042e042200b42a09859400b42a2e00a0058900b42a360099a100b62a 84 0x0053005200510050004f004e004d004c004a0047004600430040003f003e003b003a0037003600350032002f002c002b002a0028002500240021001e001d001c001b001a001900160015001400130010000f000c000b00080007000400010000 48 (by decide +kernel)
/-- LastCloudModel.readStart()V -/
def cd_228 : List Instr := [.aload 0, .invokevirtual 1776964, .istore 1, .aload 0, .ldc 25, .iconst 0, .iconst 60, .invokevirtual 1760976, .istore 2, .aload 0, .getfield 12142, .iconst 14, .aload 0, .ldc 26, 
  .invokevirtual 1736968, .ifCond .eq 18, .iconst 1, .goto 19, .iconst 0, .iastore, .aload 0, .invokevirtual 1712964, .ifCond .ne 24, .return_, .aload 0, .getfield 12142, .iconst 12, .iload 1, .iastore, 
  .aload 0, .getfield 12142, .iconst 13, .iload 2, .iastore, .return_]
def ps_228 : List Nat := [0, 1, 4, 5, 6, 8, 9, 11, 14, 15, 16, 19, 21, 22, 24, 27, 30, 31, 34, 35, 36, 37, 40, 43, 44, 45, 48, 50, 51, 52, 53, 56, 58, 59, 60]
theorem ck_228 : xChkM 12 false none prog_14_method_29_code cd_228 ps_228 = true := xChkN_ok 0xb14f1c0d102200b42a4f1b0c102200b42ab104009aa100b62a4f030400a704070099b600b6ed122a0e102200b42a3dc800b63c1003ec122a3cd400b62a 61 0x003c003b003a003800350034003300320030002d002c002b00280025002400230022001f001e001b00180016001500130010000f000e000b0009000800060005000400010000 35 (by decide +kernel)
/-- LastCloudModel.ones(I)I -/
def cd_229 : List Instr := [.iconst 0, .istore 1, .iconst 0, .istore 2, .iload 2, .iconst 31, .if_icmp .ge 17, .iload 1, .iload 0, .iload 2, .ishr, .iconst 1, .iand, .iadd, .istore 1, .iinc 2 1, .goto 4, .iload 1, .ireturn]
def ps_229 : List Nat := [0, 1, 2, 3, 4, 5, 7, 10, 11, 12, 13, 14, 15, 16, 17, 18, 21, 24, 25]
theorem ck_229 : xChkM 12 false (some .int) prog_14_method_30_code cd_229 ps_229 = true := xChkN_ok 0xac1befffa70102843c607e047a1c1a1b1100a21f101c3d033c03 26 0x001900180015001200110010000f000e000d000c000b000a0007000500040003000200010000 19 (by decide +kernel)
/-- LastCloudModel.onceHere()I -/
def cd_230 : List Instr := [.aload 0, .ldc 5, .invokevirtual 1728968, .ifCond .eq 6, .iconst 0, .goto 37, .aload 0, .ldc 6, .invokevirtual 1728968, .ifCond .eq 12, .iconst 1, .goto 37, .aload 0, .ldc 7, .invokevirtual 1728968, 
  .ifCond .eq 18, .iconst 2, .goto 37, .aload 0, .ldc 8, .invokevirtual 1728968, .ifCond .eq 24, .iconst 3, .goto 37, .aload 0, .ldc 9, .invokevirtual 1728968, .ifCond .eq 30, .iconst 4, .goto 37, 
  .aload 0, .ldc 10, .invokevirtual 1728968, .ifCond .eq 36, .iconst 5, .goto 37, .iconst (-1), .ireturn]
def ps_230 : List Nat := [0, 1, 3, 6, 9, 10, 13, 14, 16, 19, 22, 23, 26, 27, 29, 32, 35, 36, 39, 40, 42, 45, 48, 49, 52, 53, 55, 58, 61, 62, 65, 66, 68, 71, 74, 75, 78, 79]
theorem ck_230 : xChkM 12 false (some .int) prog_14_method_31_code cd_230 ps_230 = true := xChkN_ok 0xac020400a708070099af00b6f9122a1100a707070099af00b6f7122a1e00a706070099af00b6f5122a2b00a705070099af00b6f3122a3800a704070099af00b6f1122a4500a703070099af00b6ef122a 80 0x004f004e004b004a0047004400420041003e003d003a00370035003400310030002d002a00280027002400230020001d001b001a0017001600130010000e000d000a00090006000300010000 38 (by decide +kernel)
/-- LastCloudModel.readOnce(I)V -/
def cd_231 : List Instr := [.aload 0, .invokevirtual 1704967, .aload 0, .getfield 12142, .iconst 16, .dup2, .iaload, .iconst 1, .iload 1, .ishl, .ior, .iastore, .iload 1, .ifCond .ne 22, .aload 0, .getfield 12142, .iconst 5, 
  .aload 0, .iconst 0, .iconst 999, .invokevirtual 1752972, .iastore, .iload 1, .iconst 1, .if_icmp .ne 33, .aload 0, .getfield 12142, .iconst 6, .aload 0, .iconst 0, .iconst 50, .invokevirtual 1752972, 
  .iastore, .iload 1, .iconst 2, .if_icmp .ne 44, .aload 0, .getfield 12142, .iconst 7, .aload 0, .iconst 31, .iconst 60, .invokevirtual 1752972, .iastore, .iload 1, .iconst 3, .if_icmp .ne 55, .aload 0, 
  .getfield 12142, .iconst 8, .aload 0, .iconst 1, .iconst 47, .invokevirtual 1752972, .iastore, .iload 1, .iconst 4, .if_icmp .ne 85, .aload 0, .getfield 12142, .iconst 9, .aload 0, .ldc 12, .iconst 0, 
  .iconst 9999, .invokevirtual 1760976, .iastore, .aload 0, .getfield 12142, .iconst 10, .aload 0, .ldc 23, .iconst 0, .iconst 99, .invokevirtual 1760976, .iastore, .aload 0, .getfield 12142, .iconst 11, 
  .aload 0, .ldc 24, .iconst 0, .iconst 9999, .invokevirtual 1760976, .iastore, .iload 1, .iconst 5, .if_icmp .ne 90, .aload 0, .invokevirtual 1824967, .return_]
def ps_231 : List Nat := [0, 1, 4, 5, 8, 10, 11, 12, 13, 14, 15, 16, 17, 18, 21, 22, 25, 26, 27, 28, 31, 34, 35, 36, 37, 40, 41, 44, 46, 47, 48, 50, 53, 54, 55, 56, 59, 60, 63, 65, 66, 68, 70, 73, 74, 75, 76, 79, 80, 83, 85, 
  86, 87, 89, 92, 93, 94, 95, 98, 99, 102, 104, 105, 107, 108, 111, 114, 115, 116, 119, 121, 122, 124, 125, 127, 130, 131, 132, 135, 137, 138, 140, 141, 144, 147, 148, 149, 150, 153, 154, 157]
theorem ck_231 : xChkM 12 false none prog_14_method_32_code cd_231 ps_231 = true := xChkN_ok 0xb1ff00b62a0700a0081b4fc800b60f271103fd122a0b102200b42a4fc800b6631003fb122a0a102200b42a4fc800b60f271103ce122a09102200b42a3500a0071b4fc100b62f10042a08102200b42a1100a0061b4fc100b63c101f102a07102200b42a1200a0051b4fc100b63210032a06102200b42a1100a0041b4fc100b6e70311032a082200b42a11009a1b4f80781b042e5c10102200b42ab300b62a 158 0x009d009a009900960095009400930090008d008c008a00890087008400830082007f007d007c007a00790077007400730072006f006c006b00690068006600630062005f005e005d005c005900570056005500530050004f004c004b004a00490046004400420041003f003c003b003800370036003500320030002f002e002c002900280025002400230022001f001c001b001a001900160015001200110010000f000e000d000c000b000a00080005000400010000 91 (by decide +kernel)
/-- LastCloudModel.readLine()V -/
def cd_232 : List Instr := [.aload 0, .invokevirtual 1840964, .istore 1, .iload 1, .iconst (-1), .if_icmp .ne 26, .aload 0, .ldc 0, .invokevirtual 1728968, .ifCond .ne 26, .aload 0, .ldc 1, .invokevirtual 1728968, .ifCond .ne 26, 
  .aload 0, .ldc 2, .invokevirtual 1728968, .ifCond .ne 26, .aload 0, .ldc 3, .invokevirtual 1728968, .ifCond .ne 26, .aload 0, .ldc 4, .invokevirtual 1728968, .ifCond .eq 28, .iconst 1, .goto 29, 
  .iconst 0, .istore 2, .iload 2, .ifCond .ne 35, .aload 0, .iconst 1, .invokevirtual 1720971, .iload 1, .iconst (-1), .if_icmp .eq 48, .aload 0, .getfield 12142, .iconst 16, .iaload, .iload 1, 
  .invokestatic 1623928, .ifCond .eq 48, .aload 0, .iconst 2, .invokevirtual 1720971, .aload 0, .getfield 12142, .iconst 0, .iaload, .iconst 60, .if_icmp .eq 95, .aload 0, .ldc 0, .invokevirtual 1728968, 
  .ifCond .eq 64, .aload 0, .getfield 12142, .iconst 1, .iaload, .iconst 8, .if_icmp .eq 95, .aload 0, .ldc 1, .invokevirtual 1728968, .ifCond .eq 74, .aload 0, .getfield 12142, .iconst 2, .iaload, 
  .iconst 10, .if_icmp .eq 95, .aload 0, .ldc 3, .invokevirtual 1728968, .ifCond .eq 84, .aload 0, .getfield 12142, .iconst 3, .iaload, .iconst 6, .if_icmp .eq 95, .aload 0, .ldc 4, 
  .invokevirtual 1728968, .ifCond .eq 98, .aload 0, .getfield 12142, .iconst 15, .iaload, .invokestatic 1839924, .iconst 3, .if_icmp .ne 98, .aload 0, .iconst 3, .invokevirtual 1720971, .aload 0, 
  .invokevirtual 1712964, .ifCond .ne 102, .return_, .iload 1, .iconst (-1), .if_icmp .eq 109, .aload 0, .iload 1, .invokevirtual 1848971, .goto 180, .aload 0, .ldc 0, .invokevirtual 1736968, 
  .ifCond .eq 116, .aload 0, .invokevirtual 1792967, .goto 180, .aload 0, .ldc 1, .invokevirtual 1736968, .ifCond .eq 123, .aload 0, .invokevirtual 1800967, .goto 180, .aload 0, .ldc 2, 
  .invokevirtual 1736968, .ifCond .eq 130, .aload 0, .invokevirtual 1808967, .goto 180, .aload 0, .ldc 3, .invokevirtual 1736968, .ifCond .eq 176, .aload 0, .getfield 12142, .iconst 144, .iconst 2, 
  .aload 0, .getfield 12142, .iconst 3, .iaload, .imul, .iadd, .aload 0, .iconst 20, .iconst 150, .invokevirtual 1752972, .iastore, .aload 0, .getfield 12142, .iconst 144, .iconst 2, .aload 0, 
  .getfield 12142, .iconst 3, .iaload, .imul, .iadd, .iconst 1, .iadd, .aload 0, .ldc 22, .iconst 1, .iconst 999, .invokevirtual 1760976, .iastore, .aload 0, .getfield 12142, .iconst 3, .dup2, .iaload, 
  .iconst 1, .iadd, .iastore, .goto 180, .aload 0, .invokevirtual 1704967, .aload 0, .invokevirtual 1816967, .aload 0, .invokevirtual 1712964, .ifCond .eq 190, .aload 0, .getfield 12100, .iconst 3, 
  .if_icmp .eq 190, .aload 0, .iconst 1, .invokevirtual 1720971, .aload 0, .invokevirtual 1712964, .ifCond .eq 195, .aload 0, .invokevirtual 1704967, .aload 0, .getfield 12142, .iconst 0, .dup2, .iaload, 
  .iconst 1, .iadd, .iastore, .return_]
def ps_232 : List Nat := [0, 1, 4, 5, 6, 7, 10, 11, 14, 17, 20, 21, 24, 27, 30, 31, 34, 37, 40, 41, 44, 47, 50, 51, 54, 57, 60, 61, 64, 65, 66, 67, 70, 71, 72, 75, 76, 77, 80, 81, 84, 86, 87, 88, 91, 94, 95, 96, 99, 100, 103, 
  104, 105, 107, 110, 111, 114, 117, 120, 121, 124, 125, 126, 128, 131, 132, 135, 138, 141, 142, 145, 146, 147, 149, 152, 153, 156, 159, 162, 163, 166, 167, 168, 170, 173, 174, 177, 180, 183, 184, 187, 
  189, 190, 193, 194, 197, 198, 199, 202, 203, 206, 209, 210, 211, 212, 215, 216, 217, 220, 223, 224, 227, 230, 233, 234, 237, 240, 241, 244, 247, 250, 251, 254, 257, 258, 261, 264, 267, 268, 271, 274, 
  275, 278, 281, 284, 285, 288, 291, 292, 293, 296, 297, 298, 299, 300, 301, 303, 306, 309, 310, 311, 314, 317, 318, 319, 322, 323, 324, 325, 326, 327, 328, 329, 332, 333, 336, 339, 340, 341, 344, 345, 
  346, 347, 348, 349, 350, 353, 354, 357, 358, 361, 362, 365, 368, 369, 372, 373, 376, 377, 378, 381, 382, 385, 388, 389, 392, 393, 396, 397, 398, 399, 400, 401, 402]
theorem ck_232 : xChkM 12 false none prog_14_method_33_code cd_232 ps_232 = true := xChkN_ok 0xb14f60042e5c032200b42ab300b62a070099a100b62ab900b6042a08009f068900b42a100099a100b62a1f01b62ab300b62a0b00a74f60042e5c062200b42a4fc800b6e70311041d01132a600460682e062200b42a059000112200b42a4fc100b696001114102a60682e062200b42a059000112200b42a480099b600b60a01132a5a00a71a01b62a0a0099b600b60801132a6b00a71701b62a0a0099b600b60601132a7c00a71401b62a0a0099b600b60501132a8d00a71101b61b2a0b009f021bb104009aa100b62ab900b6062a0800a0060e01b82e0f102200b42a160099af00b60c01132a1b009f06102e062200b42a0e0099af00b60a01132a30009f0a102e052200b42a0e0099af00b60601132a45009f08102e042200b42a0e0099af00b60501132a5a009f3c102e032200b42ab900b6052a080099e800b81b2e10102200b42a16009f021bb900b6042a08009a1c3d030400a704070099af00b60c01132a0d009aaf00b60a01132a17009aaf00b60801132a21009aaf00b60601132a2b009aaf00b60501132a3500a0021b3c0201b62a 403 0x019201910190018f018e018d018c01890188018501840181017e017d017a017901780175017401710170016d016a01690166016501620161015e015d015c015b015a015901580155015401530150014d014c01490148014701460145014401430142013f013e013d013a0137013601350132012f012d012c012b012a012901280125012401230120011d011c0119011601130112010f010c010b010801050102010100fe00fb00fa00f700f400f100f000ed00ea00e900e600e300e000df00dc00d900d800d700d400d300d200d100ce00cb00ca00c700c600c500c200c100be00bd00bb00b800b700b400b100ae00ad00aa00a800a700a600a300a2009f009c009900980095009300920091008e008d008a0087008400830080007e007d007c0079007800750072006f006e006b006900680067006400630060005f005e005b005800570056005400510050004d004c004b0048004700460043004200410040003d003c0039003600330032002f002c0029002800250022001f001e001b0018001500140011000e000b000a000700060005000400010000 204 (by decide +kernel)
/-- LastCloudModel.sky()I -/
def cd_233 : List Instr := [.aload 0, .aload 0, .getfield 12050, .putfield 12070, .aload 0, .iconst 0, .putfield 12050, .aload 0, .iconst 0, .putfield 12080, .aload 0, .iconst 0, .putfield 12120, .aload 0, .iconst (-1), 
  .putfield 12130, .aload 0, .getfield 12142, .invokestatic 1639927, .aload 0, .iconst 0, .putfield 12153, .aload 0, .invokevirtual 1704967, .aload 0, .invokevirtual 1712964, .ifCond .eq 33, .aload 0, 
  .getfield 12100, .ifCond .eq 33, .aload 0, .invokevirtual 1856967, .goto 24, .aload 0, .invokevirtual 1712964, .ifCond .ne 38, .iconst (-4), .ireturn, .iconst 0, .istore 1, .iload 1, .iconst 196, 
  .if_icmp .ge 53, .aload 0, .getfield 12012, .iload 1, .aload 0, .getfield 12142, .iload 1, .iaload, .iastore, .iinc 1 1, .goto 40, .aload 0, .getfield 12012, .iconst 12, .iaload, .iconst (-1), 
  .if_icmp .eq 80, .aload 0, .getfield 12012, .iconst 13, .aload 0, .aload 0, .getfield 12012, .iconst 12, .iaload, .iconst 0, .invokevirtual 1664972, .aload 0, .getfield 12012, .iconst 7, .iaload, 
  .aload 0, .getfield 12012, .iconst 13, .iaload, .dsub, .dadd, .iastore, .aload 0, .invokevirtual 2128967, .aload 0, .getfield 12012, .iconst 0, .iaload, .ireturn]
def ps_233 : List Nat := [0, 1, 2, 5, 8, 9, 10, 13, 14, 15, 18, 19, 20, 23, 24, 25, 28, 29, 32, 35, 36, 37, 40, 41, 44, 45, 48, 51, 52, 55, 58, 59, 62, 65, 66, 69, 72, 74, 75, 76, 77, 78, 81, 84, 85, 88, 89, 90, 93, 94, 95, 96, 
  99, 102, 103, 106, 108, 109, 110, 113, 114, 117, 119, 120, 121, 124, 126, 127, 128, 131, 132, 135, 137, 138, 139, 142, 144, 145, 148, 151, 152, 153, 156, 157, 160, 161, 162]
theorem ck_233 : xChkM 12 false (some .int) prog_14_method_34_code cd_233 ps_233 = true := xChkN_ok 0xac2e030d00b42a7000b62a4f2801b89800b82e0d100d00b42a2e07100d00b42a2501b6032e0c100d00b42a2a0d100d00b42a2a009f022e0c100d00b42aeaffa70101844f2e1b2200b42a1b0d00b42a1500a2c400111b3c03acfc1006009aa100b62aeeffa72201b62a0a00998900b42a110099a100b62ab300b62ad000b5032a6c00b82200b42a1f00b5022a9e00b5032a7f00b5032a7900b5032a7c00b57900b42a2a 163 0x00a200a100a0009d009c009900980097009400910090008e008b008a00890087008400830080007f007e007c007900780077007500720071006e006d006c006a0067006600630060005f005e005d005a00590058005500540051004e004d004c004b004a0048004500420041003e003b003a0037003400330030002d002c002900280025002400230020001d001c001900180017001400130012000f000e000d000a000900080005000200010000 87 (by decide +kernel)
/-- LastCloudModel.isLeg(I)Z -/
def cd_234 : List Instr := [.iload 1, .i2l, .jsr 0, .aload 0, .getfield 12012, .iconst 2, .iaload, .iconst 1, .isub, .i2l, .invokestatic 1615932, .freturn]
def ps_234 : List Nat := [0, 1, 2, 3, 4, 7, 8, 9, 10, 11, 12, 15]
theorem ck_234 : xChkM 12 false (some .boolean) prog_14_method_35_code cd_234 ps_234 = true := xChkN_ok 0xac7500b88564042e050d00b42a09851b 16 0x000f000c000b000a00090008000700040003000200010000 12 (by decide +kernel)
/-- LastCloudModel.isSpeed(I)Z -/
def cd_235 : List Instr := [.iload 1, .i2l, .jsr 0, .aload 0, .getfield 12012, .iconst 3, .iaload, .iconst 1, .isub, .i2l, .invokestatic 1615932, .freturn]
def ps_235 : List Nat := [0, 1, 2, 3, 4, 7, 8, 9, 10, 11, 12, 15]
theorem ck_235 : xChkM 12 false (some .boolean) prog_14_method_36_code cd_235 ps_235 = true := xChkN_ok 0xac7500b88564042e060d00b42a09851b 16 0x000f000c000b000a00090008000700040003000200010000 12 (by decide +kernel)
/-- LastCloudModel.periodsOf(IZIZ)I -/
def cd_236 : List Instr := [.aload 0, .getfield 12012, .iconst 144, .iconst 2, .iload 3, .imul, .iadd, .iaload, .istore 5, .iload 5, .iload 4, .ifCond .eq 21, .iload 5, .aload 0, .getfield 12012, .iconst 6, .iaload, .imul, 
  .iconst 100, .idiv, .goto 22, .iconst 0, .iadd, .iload 2, .ifCond .eq 31, .aload 0, .iload 1, .iconst 4, .invokevirtual 1672972, .ineg, .goto 35, .aload 0, .iload 1, .iconst 4, .invokevirtual 1672972, 
  .iadd, .istore 6, .iload 6, .iconst 1, .if_icmp .ge 42, .iconst (-1), .goto 52, .iconst 12, .aload 0, .iload 1, .iconst 2, .invokevirtual 1672972, .imul, .iload 6, .idiv, .iconst 1, .iadd, .ireturn]
def ps_236 : List Nat := [0, 1, 4, 7, 8, 9, 10, 11, 12, 14, 16, 18, 21, 23, 24, 27, 29, 30, 31, 33, 34, 37, 38, 39, 40, 43, 44, 45, 46, 49, 50, 53, 54, 55, 56, 59, 60, 62, 64, 65, 68, 69, 72, 74, 75, 76, 77, 80, 81, 83, 84, 85, 
  86]
theorem ck_236 : xChkM 12 false (some .int) prog_14_method_37_code cd_236 ps_236 = true := xChkN_ok 0xac60046c0615682b01b6051b2a0c101100a7020700a20406150636602b01b6071b2a0900a7742b01b6071b2a0d00991c60030400a76c6410682e06100d00b42a05151300990415051505362e60681d059000110d00b42a 87 0x005600550054005300510050004d004c004b004a00480045004400410040003e003c003b003800370036003500320031002e002d002c002b002800270026002500220021001f001e001d001b00180017001500120010000e000c000b000a000900080007000400010000 53 (by decide +kernel)
/-- LastCloudModel.lossOf(III)I -/
def cd_237 : List Instr := [.iconst 5, .iload 3, .imul, .aload 0, .getfield 12012, .iconst 144, .iconst 2, .iload 2, .imul, .iadd, .iconst 1, .iadd, .iaload, .aload 0, .iload 1, .iconst 3, .invokevirtual 1672972, .isub, .imul, 
  .iconst 100, .idiv, .ireturn]
def ps_237 : List Nat := [0, 1, 2, 3, 4, 7, 10, 11, 12, 13, 14, 15, 16, 17, 18, 19, 20, 23, 24, 25, 27, 28]
theorem ck_237 : xChkM 12 false (some .int) prog_14_method_38_code cd_237 ps_237 = true := xChkN_ok 0xac6c641068642b01b6061b2a2e600460681c059000110d00b42a681d08 29 0x001c001b00190018001700140013001200110010000f000e000d000c000b000a000700040003000200010000 22 (by decide +kernel)
/-- LastCloudModel.periods(IZIZ)I -/
def cd_238 : List Instr := [.aload 0, .iload 1, .invokevirtual 1872968, .ifCond .eq 15, .aload 0, .iload 3, .invokevirtual 1880968, .ifCond .eq 15, .aload 0, .iload 1, .iload 2, .iload 3, .iload 4, .invokevirtual 1888980, 
  .goto 16, .iconst (-2), .ireturn]
def ps_238 : List Nat := [0, 1, 2, 5, 8, 9, 10, 13, 16, 17, 18, 19, 20, 22, 25, 28, 30]
theorem ck_238 : xChkM 12 false (some .int) prog_14_method_39_code cd_238 ps_238 = true := xChkN_ok 0xacfe100500a73501b604151d1c1b2a0f00993201b61d2a1700992e01b61b2a 31 0x001e001c0019001600140013001200110010000d000a000900080005000200010000 17 (by decide +kernel)
/-- LastCloudModel.loss(IZIZ)I -/
def cd_239 : List Instr := [.aload 0, .iload 1, .invokevirtual 1872968, .ifCond .eq 8, .aload 0, .iload 3, .invokevirtual 1880968, .ifCond .ne 10, .iconst (-2000000000), .ireturn, .aload 0, .iload 1, .iload 2, .iload 3, .iload 4, 
  .invokevirtual 1888980, .istore 5, .iload 5, .iconst (-1), .if_icmp .ne 22, .iconst (-2000000000), .goto 27, .aload 0, .iload 1, .iload 3, .iload 5, .invokevirtual 1896976, .ireturn]
def ps_239 : List Nat := [0, 1, 2, 5, 8, 9, 10, 13, 16, 19, 20, 21, 22, 23, 24, 26, 29, 31, 33, 34, 37, 40, 43, 44, 45, 46, 48, 51]
theorem ck_239 : xChkM 12 false (some .int) prog_14_method_40_code cd_239 ps_239 = true := xChkN_ok 0xac3a01b605151d1b2a0b00a73901130900a002051505363501b604151d1c1b2aac39011307009a3201b61d2a0b00992e01b61b2a 52 0x00330030002e002d002c002b0028002500220021001f001d001a0018001700160015001400130010000d000a000900080005000200010000 28 (by decide +kernel)
/-- LastCloudModel.upOf(I)I -/
def cd_240 : List Instr := [.iload 1, .aload 0, .getfield 12180, .if_icmp .ne 7, .aload 0, .getfield 12190, .goto 11, .aload 0, .iload 1, .iconst 5, .invokevirtual 1664972, .ireturn]
def ps_240 : List Nat := [0, 1, 2, 5, 8, 9, 12, 15, 16, 17, 18, 21]
theorem ck_240 : xChkM 12 false (some .int) prog_14_method_41_code cd_240 ps_240 = true := xChkN_ok 0xac2501b6081b2a0900a73e01b42a0a00a02800b42a1b 22 0x0015001200110010000f000c000900080005000200010000 12 (by decide +kernel)
/-- LastCloudModel.climbOf(IZ)I -/
def cd_241 : List Instr := [.aload 0, .iload 1, .iconst 3, .invokevirtual 1664972, .ifCond .ne 7, .iconst 0, .ireturn, .aload 0, .iload 1, .invokevirtual 1920968, .istore 3, .iconst 0, .iconst 5, .iload 3, .iload 2, 
  .ifCond .eq 25, .iload 3, .aload 0, .getfield 12012, .iconst 6, .iaload, .imul, .iconst 100, .idiv, .goto 26, .iconst 0, .isub, .aload 0, .getfield 12012, .iconst 5, .iaload, .isub, .imul, .iconst 100, 
  .idiv, .dadd, .ireturn]
def ps_241 : List Nat := [0, 1, 2, 3, 6, 9, 10, 11, 12, 13, 16, 17, 18, 19, 20, 21, 24, 25, 26, 29, 31, 32, 33, 35, 36, 39, 40, 41, 42, 45, 46, 47, 48, 49, 51, 52, 55]
theorem ck_241 : xChkM 12 false (some .int) prog_14_method_42_code cd_241 ps_241 = true := xChkN_ok 0xac2801b86c641068642e080d00b42a64030400a76c6410682e06100d00b42a1d1200991c1d08033e4101b61b2aac0305009a2501b6061b2a 56 0x00370034003300310030002f002e002d002a0029002800270024002300210020001f001d001a00190018001500140013001200110010000d000c000b000a000900060003000200010000 37 (by decide +kernel)
/-- LastCloudModel.climb(IZ)I -/
def cd_242 : List Instr := [.aload 0, .iload 1, .invokevirtual 1656968, .ifCond .eq 9, .aload 0, .iload 1, .iload 2, .invokevirtual 1928972, .goto 10, .iconst (-2), .ireturn]
def ps_242 : List Nat := [0, 1, 2, 5, 8, 9, 10, 11, 14, 17, 19]
theorem ck_242 : xChkM 12 false (some .int) prog_14_method_43_code cd_242 ps_242 = true := xChkN_ok 0xacfe100500a74701b61c1b2a0c00994401b61b2a 20 0x00130011000e000b000a000900080005000200010000 11 (by decide +kernel)
