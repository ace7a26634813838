/-- LastCloudModel.soonest(I)I -/
def cd_324 : List Instr := [.aload 0, .invokevirtual 2248964, .ifCond .eq 24, .iload 1, .i2l, .jsr 0, .iconst 1, .aload 0, .getfield 12012, .iconst 1, .iaload, .ishl, .iconst 1, .isub, .i2l, .invokestatic 1615932, .ifCond .eq 24, 
  .aload 0, .iload 1, .aload 0, .invokevirtual 2560964, .iand, .invokevirtual 2568968, .goto 25, .iconst (-2), .ireturn]
def ps_324 : List Nat := [0, 1, 4, 7, 8, 9, 10, 11, 12, 15, 16, 17, 18, 19, 20, 21, 24, 27, 28, 29, 30, 33, 34, 37, 40, 42]
theorem ck_324 : xChkM 12 false (some .int) prog_14_method_125_code cd_324 ps_324 = true := xChkN_ok 0xacfe100500a71f02b67e1c02b62a1b2a1000997500b8856404782e040d00b42a0409851b240099a201b62a 43 0x002a0028002500220021001e001d001c001b0018001500140013001200110010000f000c000b000a000900080007000400010000 26 (by decide +kernel)
/-- LastCloudModel.key()I -/
def cd_325 : List Instr := [.aload 0, .invokevirtual 2248964, .ifCond .ne 5, .iconst (-2), .ireturn, .aload 0, .aload 0, .invokevirtual 2560964, .invokevirtual 2568968, .istore 1, .iload 1, .iconst (-1), .if_icmp .ne 15, 
  .iconst (-1), .ireturn, .iconst (-1), .istore 2, .iload 1, .istore 3, .iconst 0, .istore 4, .iload 4, .aload 0, .getfield 12012, .iconst 1, .iaload, .if_icmp .ge 61, .aload 0, .invokevirtual 2560964, 
  .iload 4, .invokestatic 1623928, .ifCond .ne 33, .goto 59, .aload 0, .aload 0, .invokevirtual 2560964, .iconst 1, .iload 4, .ishl, .iconst (-1), .ixor, .iand, .invokevirtual 2568968, .istore 5, 
  .iload 5, .iconst (-1), .if_icmp .ne 49, .iconst 1000, .goto 50, .iload 5, .istore 5, .iload 5, .iload 3, .if_icmp .gt 55, .goto 59, .iload 4, .istore 2, .iload 5, .istore 3, .iinc 4 1, .goto 21, 
  .iload 2, .ireturn]
def ps_325 : List Nat := [0, 1, 4, 7, 9, 10, 11, 12, 15, 18, 19, 20, 21, 24, 25, 26, 27, 28, 29, 30, 31, 33, 35, 36, 39, 40, 41, 44, 45, 48, 50, 53, 56, 59, 60, 61, 64, 65, 67, 68, 69, 70, 71, 74, 76, 78, 79, 82, 85, 88, 90, 
  92, 94, 95, 98, 101, 103, 104, 106, 107, 110, 113, 114]
theorem ck_325 : xChkM 12 false (some .int) prog_14_method_126_code cd_325 ps_325 = true := xChkN_ok 0xac1cb3ffa70104843e05153d04150900a70600a31d0515053605150500a7e803110900a002051505361f02b67e8202780415041c02b62a2a3300a706009ae800b804151c02b62a4800a22e040d00b42a04150436033e1b3d02ac020500a0021b3c1f02b61c02b62a2aacfe1006009aa201b62a 115 0x00720071006e006b006a0068006700650062005f005e005c005a005800550052004f004e004c004a0047004600450044004300410040003d003c003b0038003500320030002d002c002900280027002400230021001f001e001d001c001b001a001900180015001400130012000f000c000b000a00090007000400010000 63 (by decide +kernel)
/-- LastCloudModel.count(I)I -/
def cd_326 : List Instr := [.iconst 0, .istore 2, .iload 1, .tableswitch 72 0 10 #[4, 9, 14, 18, 23, 28, 33, 38, 41, 46, 51], .aload 0, .getfield 12012, .iconst 1, .iaload, .ireturn, .aload 0, .getfield 12012, .iconst 2, .iaload, 
  .ireturn, .aload 0, .invokevirtual 2560964, .invokestatic 1839924, .ireturn, .aload 0, .getfield 12012, .iconst 3, .iaload, .ireturn, .aload 0, .getfield 12012, .iconst 0, .iaload, .ireturn, .aload 0, 
  .getfield 12012, .iconst 4, .iaload, .ireturn, .aload 0, .getfield 12012, .iconst 12, .iaload, .ireturn, .aload 0, .getfield 12050, .ireturn, .aload 0, .getfield 12012, .iconst 8, .iaload, .ireturn, 
  .aload 0, .getfield 12012, .iconst 7, .iaload, .ireturn, .iconst 0, .istore 3, .iload 3, .iconst 4, .if_icmp .ge 70, .iload 2, .aload 0, .getfield 12492, .iload 3, .iaload, .iconst (-1), 
  .if_icmp .ne 65, .iconst 0, .goto 66, .iconst 1, .iadd, .istore 2, .iinc 3 1, .goto 53, .iload 2, .ireturn, .iconst (-1), .ireturn]
def ps_326 : List Nat := [0, 1, 2, 3, 60, 61, 64, 65, 66, 67, 68, 71, 72, 73, 74, 75, 78, 81, 82, 83, 86, 87, 88, 89, 90, 93, 94, 95, 96, 97, 100, 101, 102, 103, 104, 107, 109, 110, 111, 112, 115, 116, 117, 120, 122, 123, 124, 
  125, 128, 130, 131, 132, 133, 134, 135, 136, 139, 140, 141, 144, 145, 146, 147, 150, 151, 154, 155, 156, 157, 160, 163, 164, 165, 166]
theorem ck_326 : xChkM 12 false (some .int) prog_14_method_127_code cd_326 ps_326 = true := xChkN_ok 0xac02ac1ce6ffa70103843d60040400a7030700a0022e1d5f00b42a1c1b00a2071d3e03ac2e07100d00b42aac2e08100d00b42aac7900b42aac2e0c100d00b42aac2e070d00b42aac2e030d00b42aac2e060d00b42aac0e01b81c02b62aac2e050d00b42aac2e040d00b42a8100000079000000710000006c000000640000005d000000560000004f0000004700000040000000390000000a00000000000000a2000000aa1b3d03 167 0x00a600a500a400a300a0009d009c009b009a009700960093009200910090008d008c008b00880087008600850084008300820080007d007c007b007a00780075007400730070006f006e006d006b0068006700660065006400610060005f005e005d005a0059005800570056005300520051004e004b004a00490048004700440043004200410040003d003c0003000200010000 74 (by decide +kernel)
/-- LastCloudModel.isSlot(I)Z -/
def cd_327 : List Instr := [.iload 0, .i2l, .jsr 0, .jsr 3, .invokestatic 1615932, .freturn]
def ps_327 : List Nat := [0, 1, 2, 3, 6, 9]
theorem ck_327 : xChkM 12 false (some .boolean) prog_14_method_128_code cd_327 ps_327 = true := xChkN_ok 0xac7500b855011409851a 10 0x000900060003000200010000 6 (by decide +kernel)
/-- LastCloudModel.cut(JI)J -/
def cd_328 : List Instr := [.iconst 64, .iconst 8, .iload 2, .ishl, .isub, .istore 3, .lload 0, .iload 3, .lshl, .iload 3, .lshr, .lreturn]
def ps_328 : List Nat := [0, 2, 4, 5, 6, 7, 8, 9, 10, 11, 12, 13]
theorem ck_328 : xChkM 12 false (some .long) prog_14_method_129_code cd_328 ps_328 = true := xChkN_ok 0xad7b1d791d1e3e64781c08104010 14 0x000d000c000b000a00090008000700060005000400020000 12 (by decide +kernel)
/-- LastCloudModel.row(III)I -/
def cd_329 : List Instr := [.iload 1, .invokestatic 2623924, .ifCond .eq 12, .iload 2, .i2l, .jsr 0, .jsr 3, .invokestatic 1615932, .ifCond .eq 12, .iload 3, .iconst 60, .if_icmp .le 14, .iconst (-2), .ireturn, .iload 3, 
  .ifCond .ge 18, .iconst (-3), .ireturn, .aload 0, .getfield 12492, .iload 1, .iload 3, .iastore, .aload 0, .getfield 12502, .iload 1, .iload 2, .iastore, .iconst 0, .istore 4, .iload 4, .iconst 60, 
  .if_icmp .ge 44, .aload 0, .getfield 12512, .iconst 60, .iload 1, .imul, .iload 4, .iadd, .jsr 0, .lastore, .iinc 4 1, .goto 30, .iconst 0, .ireturn]
def ps_329 : List Nat := [0, 1, 4, 7, 8, 9, 10, 13, 16, 19, 20, 22, 25, 27, 28, 29, 32, 34, 35, 36, 39, 40, 41, 42, 43, 46, 47, 48, 49, 50, 52, 54, 56, 59, 60, 63, 65, 66, 67, 69, 70, 71, 72, 75, 78, 79]
theorem ck_329 : xChkM 12 false (some .int) prog_14_method_130_code cd_329 ps_329 = true := xChkN_ok 0xac03e9ffa70104845009600415681b3c106500b42a1600a23c1004150436034f1c1b6200b42a4f1d1b5f00b42aacfd1006009c1dacfe100600a43c101d0900997500b855011409851c150099f701b81b 80 0x004f004e004b0048004700460045004300420041003f003c003b003800360034003200310030002f002e002b002a0029002800270024002300220020001d001c001b00190016001400130010000d000a000900080007000400010000 46 (by decide +kernel)
/-- LastCloudModel.write(IIJ)I -/
def cd_330 : List Instr := [.iload 1, .invokestatic 2623924, .ifCond .ne 5, .iconst (-2), .ireturn, .aload 0, .getfield 12492, .iload 1, .iaload, .iconst (-1), .if_icmp .ne 13, .iconst (-6), .ireturn, .iload 2, .i2l, .jsr 0, 
  .aload 0, .getfield 12492, .iload 1, .iaload, .iconst 1, .isub, .i2l, .invokestatic 1615932, .ifCond .ne 27, .iconst (-7), .ireturn, .aload 0, .getfield 12512, .iconst 60, .iload 1, .imul, .iload 2, 
  .iadd, .lload 3, .aload 0, .getfield 12502, .iload 1, .iaload, .invokestatic 2631929, .lastore, .iconst 0, .ireturn]
def ps_330 : List Nat := [0, 1, 4, 7, 9, 10, 11, 14, 15, 16, 17, 20, 22, 23, 24, 25, 26, 27, 30, 31, 32, 33, 34, 35, 38, 41, 43, 44, 45, 48, 50, 51, 52, 53, 54, 55, 56, 59, 60, 61, 64, 65, 66]
theorem ck_330 : xChkM 12 false (some .int) prog_14_method_131_code cd_330 ps_330 = true := xChkN_ok 0xac03502202b82e1b6200b42a21601c681b3c106500b42aacf91006009a7500b88564042e1b5f00b42a09851cacfa100600a0022e1b5f00b42aacfe1006009af701b81b 67 0x004200410040003d003c003b00380037003600350034003300320030002d002c002b002900260023002200210020001f001e001b001a0019001800170016001400110010000f000e000b000a00090007000400010000 43 (by decide +kernel)
/-- LastCloudModel.paste(IIIII)I -/
def cd_331 : List Instr := [.iload 1, .invokestatic 2623924, .ifCond .eq 6, .iload 3, .invokestatic 2623924, .ifCond .ne 8, .iconst (-2), .ireturn, .aload 0, .getfield 12492, .iload 1, .iaload, .iconst (-1), .if_icmp .eq 20, 
  .aload 0, .getfield 12492, .iload 3, .iaload, .iconst (-1), .if_icmp .ne 22, .iconst (-6), .ireturn, .aload 0, .getfield 12502, .iload 1, .iaload, .aload 0, .getfield 12502, .iload 3, .iaload, 
  .if_icmp .eq 33, .iconst (-8), .ireturn, .iload 2, .ifCond .lt 63, .iload 4, .ifCond .lt 63, .iload 5, .ifCond .lt 63, .iload 2, .i2l, .iload 5, .i2l, .ladd, .aload 0, .getfield 12492, .iload 1, 
  .iaload, .i2l, .lcmp, .ifCond .gt 63, .iload 4, .i2l, .iload 5, .i2l, .ladd, .aload 0, .getfield 12492, .iload 3, .iaload, .i2l, .lcmp, .ifCond .le 65, .iconst (-7), .ireturn, .iconst 0, .istore 6, 
  .iload 6, .iload 5, .if_icmp .ge 86, .aload 0, .getfield 12522, .iload 6, .aload 0, .getfield 12512, .iconst 60, .iload 1, .imul, .iload 2, .iadd, .iload 6, .iadd, .laload, .lastore, .iinc 6 1, 
  .goto 67, .iconst 0, .istore 6, .iload 6, .iload 5, .if_icmp .ge 107, .aload 0, .getfield 12512, .iconst 60, .iload 3, .imul, .iload 4, .iadd, .iload 6, .iadd, .aload 0, .getfield 12522, .iload 6, 
  .laload, .lastore, .iinc 6 1, .goto 88, .iconst 0, .ireturn]
def ps_331 : List Nat := [0, 1, 4, 7, 8, 11, 14, 16, 17, 18, 21, 22, 23, 24, 27, 28, 31, 32, 33, 34, 37, 39, 40, 41, 44, 45, 46, 47, 50, 51, 52, 55, 57, 58, 59, 62, 64, 67, 69, 72, 73, 74, 76, 77, 78, 79, 82, 83, 84, 85, 86, 
  89, 91, 92, 94, 95, 96, 97, 100, 101, 102, 103, 104, 107, 109, 110, 111, 113, 115, 117, 120, 121, 124, 126, 127, 130, 132, 133, 134, 135, 136, 138, 139, 140, 141, 144, 147, 148, 150, 152, 154, 157, 
  158, 161, 163, 164, 165, 167, 168, 170, 171, 172, 175, 177, 178, 179, 182, 185, 186]
theorem ck_331 : xChkM 12 false (some .int) prog_14_method_132_code cd_331 ps_331 = true := xChkN_ok 0xac03e0ffa7010684502f06156900b42a600615600415681d3c106500b42a1f00a205150615063603e1ffa7010684502f600615601c681b3c106500b42a06156900b42a1e00a205150615063603acf91006009e94852e1d5f00b42a6185051585041515009d94852e1b5f00b42a61850515851c26009b05152b009b041530009b1cacf81006009f2e1d6200b42a2e1b6200b42aacfa100600a0022e1d5f00b42a0d009f022e1b5f00b42aacfe1006009af701b81d0a0099f701b81b 187 0x00ba00b900b600b300b200b100af00ac00ab00aa00a800a700a500a400a300a1009e009d009a00980096009400930090008d008c008b008a008800870086008500840082007f007e007c00790078007500730071006f006e006d006b0068006700660065006400610060005f005e005c005b005900560055005400530052004f004e004d004c004a00490048004500430040003e003b003a00390037003400330032002f002e002d002c0029002800270025002200210020001f001c001b0018001700160015001200110010000e000b00080007000400010000 109 (by decide +kernel)
/-- java/lang/Integer.bitCount(I)I -/
def cd_332 : List Instr := [.iload 0, .iload 0, .iconst 1, .iushr, .iconst 1431655765, .iand, .isub, .istore 0, .iload 0, .iconst 858993459, .iand, .iload 0, .iconst 2, .iushr, .iconst 858993459, .iand, .iadd, .istore 0, 
  .iload 0, .iload 0, .iconst 4, .iushr, .iadd, .iconst 252645135, .iand, .istore 0, .iload 0, .iload 0, .iconst 8, .iushr, .iadd, .istore 0, .iload 0, .iload 0, .iconst 16, .iushr, .iadd, .istore 0, 
  .iload 0, .iconst 63, .iand, .ireturn]
def ps_332 : List Nat := [0, 1, 2, 3, 4, 7, 8, 9, 10, 11, 14, 15, 16, 17, 18, 21, 22, 23, 24, 25, 26, 27, 28, 29, 32, 33, 34, 35, 36, 38, 39, 40, 41, 42, 43, 45, 46, 47, 48, 49, 51, 52]
theorem ck_332 : xChkM 14 false (some .int) prog_15_method_49_code cd_332 ps_332 = true := xChkN_ok 0xac7e3f101a3b607c10101a1a3b607c08101a1a3b7e0b0113607c071a1a3b607e0a01137c051a7e0a01131a3b647e0901137c041a1a 53 0x0034003300310030002f002e002d002b002a002900280027002600240023002200210020001d001c001b001a00190018001700160015001200110010000f000e000b000a00090008000700040003000200010000 42 (by decide +kernel)
/-- java/util/Arrays.fill([JJ)V -/
def cd_333 : List Instr := [.iconst 0, .istore 3, .aload 0, .arraylength, .istore 4, .iload 3, .iload 4, .if_icmp .ge 14, .aload 0, .iload 3, .lload 1, .lastore, .iinc 3 1, .goto 5, .return_]
def ps_333 : List Nat := [0, 1, 2, 3, 4, 6, 7, 9, 12, 13, 14, 15, 16, 19, 22]
theorem ck_333 : xChkM 15 false none prog_21_method_101_code cd_333 ps_333 = true := xChkN_ok 0xb1f3ffa7010384501f1d2a0d00a204151d0436be2a3e03 23 0x001600130010000f000e000d000c00090007000600040003000200010000 15 (by decide +kernel)
/-- java/util/Arrays.fill([II)V -/
def cd_334 : List Instr := [.iconst 0, .istore 2, .aload 0, .arraylength, .istore 3, .iload 2, .iload 3, .if_icmp .ge 14, .aload 0, .iload 2, .iload 1, .iastore, .iinc 2 1, .goto 5, .return_]
def ps_334 : List Nat := [0, 1, 2, 3, 4, 5, 6, 7, 10, 11, 12, 13, 14, 17, 20]
theorem ck_334 : xChkM 15 false none prog_21_method_103_code cd_334 ps_334 = true := xChkN_ok 0xb1f4ffa70102844f1b1c2a0d00a21d1c3ebe2a3d03 21 0x00140011000e000d000c000b000a00070006000500040003000200010000 15 (by decide +kernel)
/-- java/util/Arrays.fill([BB)V -/
def cd_335 : List Instr := [.iconst 0, .istore 2, .aload 0, .arraylength, .istore 3, .iload 2, .iload 3, .if_icmp .ge 14, .aload 0, .iload 2, .iload 1, .bastore, .iinc 2 1, .goto 5, .return_]
def ps_335 : List Nat := [0, 1, 2, 3, 4, 5, 6, 7, 10, 11, 12, 13, 14, 17, 20]
theorem ck_335 : xChkM 15 false none prog_21_method_109_code cd_335 ps_335 = true := xChkN_ok 0xb1f4ffa7010284541b1c2a0d00a21d1c3ebe2a3d03 21 0x00140011000e000d000c000b000a00070006000500040003000200010000 15 (by decide +kernel)
