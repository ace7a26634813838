/-- LastCloud.soonest(I)I -/
def cd_189 : List Instr := [.aload 0, .getfield 11052, .invokevirtual 944804, .ifCond .eq 11, .iload 1, .ifCond .lt 11, .iload 1, .aload 0, .getfield 11052, .invokevirtual 968804, .if_icmp .le 13, .iconst (-2), .ireturn, 
  .aload 0, .getfield 11142, .aload 0, .getfield 11052, .aload 0, .getfield 11092, .iload 1, .invokevirtual 792656, .ireturn]
def ps_189 : List Nat := [0, 1, 4, 7, 10, 11, 14, 15, 16, 19, 22, 25, 27, 28, 29, 32, 33, 36, 37, 40, 41, 44]
theorem ck_189 : xChkM 11 false (some .int) prog_1_method_58_code cd_189 ps_189 = true := xChkN_ok 0xac9101b61b2f00b42a1d00b42a4d00b42aacfe100600a48e01b61d00b42a1b0e009b1b1200990401b61d00b42a 45 0x002c002900280025002400210020001d001c001b0019001600130010000f000e000b000a0007000400010000 22 (by decide +kernel)
/-- LastCloud.key()I -/
def cd_190 : List Instr := [.aload 0, .getfield 11052, .invokevirtual 944804, .ifCond .ne 6, .iconst (-2), .ireturn, .aload 0, .getfield 11052, .invokevirtual 968804, .istore 1, .aload 0, .getfield 11142, .aload 0, 
  .getfield 11052, .aload 0, .getfield 11092, .iload 1, .invokevirtual 792656, .istore 2, .iload 2, .iconst (-1), .if_icmp .ne 24, .iconst (-1), .ireturn, .iconst (-1), .istore 3, .iconst 0, .istore 4, 
  .iload 4, .aload 0, .getfield 11052, .getfield 10040, .if_icmp .ge 64, .aload 0, .getfield 11142, .aload 0, .getfield 11052, .aload 0, .getfield 11092, .iload 1, .iconst 1, .iload 4, .ishl, 
  .iconst (-1), .ixor, .iand, .invokevirtual 792656, .istore 5, .iload 5, .iconst (-1), .if_icmp .ne 53, .iconst 1000000, .goto 54, .iload 5, .istore 6, .iload 6, .iload 2, .if_icmp .le 62, .iload 6, 
  .istore 2, .iload 4, .istore 3, .iinc 4 1, .goto 28, .iload 3, .ireturn]
def ps_190 : List Nat := [0, 1, 4, 7, 10, 12, 13, 14, 17, 20, 21, 22, 25, 26, 29, 30, 33, 34, 37, 38, 39, 40, 43, 44, 45, 46, 47, 48, 50, 52, 53, 56, 59, 62, 63, 66, 67, 70, 71, 74, 75, 76, 78, 79, 80, 81, 82, 85, 87, 89, 90, 
  93, 95, 98, 100, 102, 104, 105, 108, 110, 111, 113, 114, 117, 120, 121]
theorem ck_190 : xChkM 11 false (some .int) prog_1_method_59_code cd_190 ps_190 = true := xChkN_ok 0xac1dbdffa70104843e04153d06150900a41c0615063605150500a7cb120800a002051505369101b67e8202780415041b2f00b42a1d00b42a4d00b42a3d00a2c200b41d00b42a04150436033e02ac020500a0021c3d9101b61b2f00b42a1d00b42a4d00b42a3c8e01b61d00b42aacfe1006009a0401b61d00b42a 122 0x00790078007500720071006f006e006c00690068006600640062005f005d005a005900570055005200510050004f004e004c004b004a0047004600430042003f003e003b00380035003400320030002f002e002d002c002b002800270026002500220021001e001d001a00190016001500140011000e000d000c000a0007000400010000 66 (by decide +kernel)
/-- LastCloud.count(I)I -/
def cd_191 : List Instr := [.iload 1, .tableswitch 47 0 10 #[2, 6, 10, 15, 20, 24, 29, 33, 36, 40, 44], .aload 0, .getfield 11052, .getfield 10040, .ireturn, .aload 0, .getfield 11052, .getfield 10050, .ireturn, .aload 0, 
  .getfield 11052, .invokevirtual 976804, .invokestatic 2663924, .ireturn, .aload 0, .getfield 11052, .getfield 10022, .getfield 6000, .ireturn, .aload 0, .getfield 11052, .getfield 10060, .ireturn, 
  .aload 0, .getfield 11052, .getfield 10032, .getfield 9000, .ireturn, .aload 0, .getfield 11052, .getfield 10150, .ireturn, .aload 0, .getfield 11010, .ireturn, .aload 0, .getfield 11052, 
  .getfield 10100, .ireturn, .aload 0, .getfield 11052, .getfield 10090, .ireturn, .aload 0, .invokevirtual 1536884, .ireturn, .iconst (-1), .ireturn]
def ps_191 : List Nat := [0, 1, 60, 61, 64, 67, 68, 69, 72, 75, 76, 77, 80, 83, 86, 87, 88, 91, 94, 97, 98, 99, 102, 105, 106, 107, 110, 113, 116, 117, 118, 121, 124, 125, 126, 129, 130, 131, 134, 137, 138, 139, 142, 145, 146, 
  147, 150, 151, 152]
theorem ck_191 : xChkM 11 false (some .int) prog_1_method_60_code cd_191 ps_191 = true := xChkN_ok 0xac02acad01b62aac1301b41d00b42aac1901b41d00b42aac6700b42aacaa01b41d00b42aaca100b49d00b41d00b42aac7c00b41d00b42aaca901b4d300b41d00b42aaca401b8a101b61d00b42aac9e01b41d00b42aacc200b41d00b42a9100000089000000810000007c000000740000006900000061000000560000004b000000430000003b0000000a00000000000000960000000000aa1b 153 0x009800970096009300920091008e008b008a00890086008300820081007e007d007c00790076007500740071006e006b006a00690066006300620061005e005b00580057005600530050004d004c004b00480045004400430040003d003c00010000 49 (by decide +kernel)
/-- LastCloud.slotsWithRow()I -/
def cd_192 : List Instr := [.iconst 0, .istore 1, .iconst 0, .istore 2, .iload 2, .iconst 4, .if_icmp .ge 16, .aload 0, .getfield 11162, .iload 2, .iaload, .iconst (-1), .if_icmp .eq 14, .iinc 1 1, .iinc 2 1, .goto 4, .iload 1, 
  .ireturn]
def ps_192 : List Nat := [0, 1, 2, 3, 4, 5, 6, 9, 10, 13, 14, 15, 16, 19, 22, 25, 28, 29]
theorem ck_192 : xChkM 11 false (some .int) prog_1_method_61_code cd_192 ps_192 = true := xChkN_ok 0xac1bebffa701028401018406009f022e1c5600b42a1600a2071c3d033c03 30 0x001d001c0019001600130010000f000e000d000a00090006000500040003000200010000 18 (by decide +kernel)
/-- LastCloud.keep(I)I -/
def cd_193 : List Instr := [.iload 1, .ifCond .lt 5, .iload 1, .iconst 3, .if_icmp .lt 7, .iconst (-2), .ireturn, .aload 0, .getfield 11072, .iload 1, .aaload, .aload 0, .getfield 11052, .invokevirtual 896811, .aload 0, 
  .getfield 11082, .iload 1, .iconst 1, .castore, .iconst 0, .ireturn]
def ps_193 : List Nat := [0, 1, 4, 5, 6, 9, 11, 12, 13, 16, 17, 18, 19, 22, 25, 26, 29, 30, 31, 32, 33]
theorem ck_193 : xChkM 11 false (some .int) prog_1_method_62_code cd_193 ps_193 = true := xChkN_ok 0xac0354041b2800b42ab001b61d00b42a321b2400b42aacfe100600a1061b08009b1b 34 0x00210020001f001e001d001a001900160013001200110010000d000c000b000900060005000400010000 21 (by decide +kernel)
/-- LastCloud.back(I)I -/
def cd_194 : List Instr := [.iload 1, .ifCond .lt 5, .iload 1, .iconst 3, .if_icmp .lt 7, .iconst (-2), .ireturn, .aload 0, .getfield 11082, .iload 1, .caload, .ifCond .ne 14, .iconst (-6), .ireturn, .aload 0, .getfield 11052, 
  .aload 0, .getfield 11072, .iload 1, .aaload, .invokevirtual 896811, .aload 0, .getfield 11092, .aload 0, .getfield 11052, .invokevirtual 136091, .aload 0, .invokevirtual 1104887, .iconst 0, .ireturn]
def ps_194 : List Nat := [0, 1, 4, 5, 6, 9, 11, 12, 13, 16, 17, 18, 21, 23, 24, 25, 28, 29, 32, 33, 34, 37, 38, 41, 42, 45, 48, 49, 52, 53]
theorem ck_194 : xChkM 11 false (some .int) prog_1_method_63_code cd_194 ps_194 = true := xChkN_ok 0xac037900b62a6300b61d00b42a2f00b42ab001b6321b2400b42a1d00b42aacfa1006009a331b2800b42aacfe100600a1061b08009b1b 54 0x0035003400310030002d002a002900260025002200210020001d001c0019001800170015001200110010000d000c000b000900060005000400010000 30 (by decide +kernel)
/-- LastCloud.isSlot(I)Z -/
def cd_195 : List Instr := [.iload 0, .ifCond .lt 7, .iload 0, .iconst 4, .if_icmp .ge 7, .iconst 1, .goto 8, .iconst 0, .freturn]
def ps_195 : List Nat := [0, 1, 4, 5, 6, 9, 10, 13, 14]
theorem ck_195 : xChkM 11 false (some .boolean) prog_1_method_64_code cd_195 ps_195 = true := xChkN_ok 0xac030400a7040700a2071a0c009b1a 15 0x000e000d000a000900060005000400010000 9 (by decide +kernel)
/-- LastCloud.row(III)I -/
def cd_196 : List Instr := [.iload 1, .invokestatic 1567924, .ifCond .eq 11, .iload 2, .ifCond .lt 11, .iload 2, .iconst 3, .if_icmp .gt 11, .iload 3, .iconst 60, .if_icmp .le 13, .iconst (-2), .ireturn, .iload 3, .ifCond .ge 17, 
  .iconst (-3), .ireturn, .aload 0, .getfield 11152, .iload 1, .aaload, .jsr 0, .invokestatic 2671931, .aload 0, .getfield 11162, .iload 1, .iload 3, .iastore, .aload 0, .getfield 11172, .iload 1, 
  .iload 2, .iastore, .iconst 0, .ireturn]
def ps_196 : List Nat := [0, 1, 4, 7, 8, 11, 12, 13, 16, 17, 19, 22, 24, 25, 26, 29, 31, 32, 33, 36, 37, 38, 39, 42, 43, 46, 47, 48, 49, 50, 53, 54, 55, 56, 57]
theorem ck_196 : xChkM 11 false (some .int) prog_1_method_65_code cd_196 ps_196 = true := xChkN_ok 0xac034f1c1b5a00b42a4f1d1b5600b42ab301b809321b5300b42aacfd1006009c1dacfe100600a43c101d0900a3061c0e009b1c1200997301b81b 58 0x00390038003700360035003200310030002f002e002b002a002700260025002400210020001f001d001a001900180016001300110010000d000c000b00080007000400010000 35 (by decide +kernel)
/-- LastCloud.write(IIJ)I -/
def cd_197 : List Instr := [.iload 1, .invokestatic 1567924, .ifCond .ne 5, .iconst (-2), .ireturn, .aload 0, .getfield 11162, .iload 1, .iaload, .iconst (-1), .if_icmp .ne 13, .iconst (-6), .ireturn, .iload 2, .ifCond .lt 21, 
  .iload 2, .aload 0, .getfield 11162, .iload 1, .iaload, .if_icmp .lt 23, .iconst (-7), .ireturn, .aload 0, .getfield 11152, .iload 1, .aaload, .iload 2, .aload 0, .getfield 11172, .iload 1, .iaload, 
  .lload 3, .invokestatic 1591929, .lastore, .iconst 0, .ireturn]
def ps_197 : List Nat := [0, 1, 4, 7, 9, 10, 11, 14, 15, 16, 17, 20, 22, 23, 24, 27, 28, 29, 32, 33, 34, 37, 39, 40, 41, 44, 45, 46, 47, 48, 51, 52, 53, 54, 57, 58, 59]
theorem ck_197 : xChkM 11 false (some .int) prog_1_method_66_code cd_197 ps_197 = true := xChkN_ok 0xac0350b601b8212e1b5a00b42a1c321b5300b42aacf9100600a12e1b5600b42a1c0d009b1cacfa100600a0022e1b5600b42aacfe1006009a7301b81b 60 0x003b003a003900360035003400330030002f002e002d002c0029002800270025002200210020001d001c001b001800170016001400110010000f000e000b000a00090007000400010000 37 (by decide +kernel)
/-- LastCloud.cutTo(IJ)J -/
def cd_198 : List Instr := [.iload 0, .tableswitch 16 0 2 #[2, 7, 12], .lload 1, .l2i, .i2b, .i2l, .lreturn, .lload 1, .l2i, .i2s, .i2l, .lreturn, .lload 1, .l2i, .i2l, .lreturn, .lload 1, .lreturn]
def ps_198 : List Nat := [0, 1, 28, 29, 30, 31, 32, 33, 34, 35, 36, 37, 38, 39, 40, 41, 42, 43]
theorem ck_198 : xChkM 11 false (some .long) prog_1_method_67_code cd_198 ps_198 = true := xChkN_ok 0xad1fad85881fad8593881fad8591881f25000000200000001b0000000200000000000000290000000000aa1a 44 0x002b002a0029002800270026002500240023002200210020001f001e001d001c00010000 18 (by decide +kernel)
/-- LastCloud.paste(IIIII)I -/
def cd_199 : List Instr := [.iload 1, .invokestatic 1567924, .ifCond .eq 6, .iload 3, .invokestatic 1567924, .ifCond .ne 8, .iconst (-2), .ireturn, .aload 0, .getfield 11162, .iload 1, .iaload, .iconst (-1), .if_icmp .eq 20, 
  .aload 0, .getfield 11162, .iload 3, .iaload, .iconst (-1), .if_icmp .ne 22, .iconst (-6), .ireturn, .aload 0, .getfield 11172, .iload 1, .iaload, .aload 0, .getfield 11172, .iload 3, .iaload, 
  .if_icmp .eq 33, .iconst (-8), .ireturn, .iload 2, .iload 5, .aload 0, .getfield 11162, .iload 1, .iaload, .invokestatic 1607932, .ifCond .eq 49, .iload 4, .iload 5, .aload 0, .getfield 11162, 
  .iload 3, .iaload, .invokestatic 1607932, .ifCond .ne 51, .iconst (-7), .ireturn, .aload 0, .getfield 11152, .iload 1, .aaload, .iload 2, .aload 0, .getfield 11152, .iload 3, .aaload, .iload 4, 
  .iload 5, .ddiv, .iconst 0, .ireturn]
def ps_199 : List Nat := [0, 1, 4, 7, 8, 11, 14, 16, 17, 18, 21, 22, 23, 24, 27, 28, 31, 32, 33, 34, 37, 39, 40, 41, 44, 45, 46, 47, 50, 51, 52, 55, 57, 58, 59, 61, 62, 65, 66, 67, 70, 73, 75, 77, 78, 81, 82, 83, 86, 89, 91, 
  92, 93, 96, 97, 98, 99, 100, 103, 104, 105, 107, 109, 112, 113]
theorem ck_199 : xChkM 11 false (some .int) prog_1_method_68_code cd_199 ps_199 = true := xChkN_ok 0xac03bd01b805150415321d5300b42a1c321b5300b42aacf91006009aba01b82e1d5600b42a05150415130099ba01b82e1b5600b42a05151cacf81006009f2e1d5a00b42a2e1b5a00b42aacfa100600a0022e1d5600b42a0d009f022e1b5600b42aacfe1006009a7301b81d0a00997301b81b 114 0x00710070006d006b00690068006700640063006200610060005d005c005b00590056005300520051004e004d004b00490046004300420041003e003d003b003a00390037003400330032002f002e002d002c0029002800270025002200210020001f001c001b0018001700160015001200110010000e000b00080007000400010000 65 (by decide +kernel)
/-- LastCloud.isPart(III)Z -/
def cd_200 : List Instr := [.iload 0, .ifCond .lt 14, .iload 1, .ifCond .lt 14, .iload 0, .iload 2, .if_icmp .gt 14, .iload 1, .iload 2, .iload 0, .isub, .if_icmp .gt 14, .iconst 1, .goto 15, .iconst 0, .freturn]
def ps_200 : List Nat := [0, 1, 4, 5, 8, 9, 10, 13, 14, 15, 16, 17, 20, 21, 24, 25]
theorem ck_200 : xChkM 11 false (some .boolean) prog_1_method_69_code cd_200 ps_200 = true := xChkN_ok 0xac030400a7040700a3641a1c1b0e00a31c1a13009b1b17009b1a 26 0x001900180015001400110010000f000e000d000a000900080005000400010000 16 (by decide +kernel)
/-- LastCloudModel.in(JJJ)Z -/
def cd_201 : List Instr := [.lload 0, .lload 2, .lcmp, .ifCond .lt 10, .lload 0, .lload 4, .lcmp, .ifCond .gt 10, .iconst 1, .goto 11, .iconst 0, .freturn]
def ps_201 : List Nat := [0, 1, 2, 3, 6, 7, 9, 10, 13, 14, 17, 18]
theorem ck_201 : xChkM 12 false (some .boolean) prog_14_method_2_code cd_201 ps_201 = true := xChkN_ok 0xac030400a70407009d9404161e0e009b94201e 19 0x00120011000e000d000a0009000700060003000200010000 12 (by decide +kernel)
/-- LastCloudModel.holds(II)Z -/
def cd_202 : List Instr := [.iload 0, .iload 1, .ishr, .iconst 1, .iand, .iconst 1, .if_icmp .ne 9, .iconst 1, .goto 10, .iconst 0, .freturn]
def ps_202 : List Nat := [0, 1, 2, 3, 4, 5, 6, 9, 10, 13, 14]
theorem ck_202 : xChkM 12 false (some .boolean) prog_14_method_3_code cd_202 ps_202 = true := xChkN_ok 0xac030400a7040700a0047e047a1b1a 15 0x000e000d000a00090006000500040003000200010000 11 (by decide +kernel)
/-- LastCloudModel.<init>()V -/
def cd_203 : List Instr := [.aload 0, .dneg, .aload 0, .iconst 196, .newarray .int, .putfield 12012, .aload 0, .iconst 588, .newarray .int, .putfield 12022, .aload 0, .iconst 3, .newarray .boolean, .putfield 12032, .aload 0, 
  .iconst 1600, .newarray .byte, .putfield 12042, .aload 0, .iconst 5, .newarray .int, .putfield 12062, .aload 0, .iconst (-1), .putfield 12130, .aload 0, .iconst 196, .newarray .int, .putfield 12142, 
  .aload 0, .iconst (-1), .putfield 12160, .aload 0, .iconst (-1), .putfield 12180, .aload 0, .iconst 16, .newarray .int, .putfield 12202, .aload 0, .iconst 4800, .newarray .int, .putfield 12212, 
  .aload 0, .iconst 8, .newarray .int, .putfield 12232, .aload 0, .iconst 976, .newarray .int, .putfield 12242, .aload 0, .iconst 2048, .newarray .boolean, .putfield 12252, .aload 0, .iconst 93696, 
  .newarray .int, .putfield 12262, .aload 0, .iconst 93696, .newarray .int, .putfield 12272, .aload 0, .iconst 93696, .newarray .int, .putfield 12282, .aload 0, .iconst (-1), .putfield 12290, .aload 0, 
  .iconst 8, .newarray .int, .putfield 12302, .aload 0, .iconst 93696, .newarray .int, .putfield 12312, .aload 0, .iconst 505, .newarray .int, .putfield 12392, .aload 0, .iconst 505, .newarray .int, 
  .putfield 12412, .aload 0, .iconst 5, .newarray .int, .dup, .iconst 0, .iconst (-1), .iastore, .dup, .iconst 1, .iconst (-1), .iastore, .dup, .iconst 2, .iconst (-1), .iastore, .dup, .iconst 3, 
  .iconst (-1), .iastore, .dup, .iconst 4, .iconst (-1), .iastore, .putfield 12422, .aload 0, .iconst 5, .newarray .int, .putfield 12452, .aload 0, .iconst 3904, .newarray .int, .putfield 12462, 
  .aload 0, .iconst 8, .newarray .int, .putfield 12472, .aload 0, .iconst 4, .newarray .int, .dup, .iconst 0, .iconst (-1), .iastore, .dup, .iconst 1, .iconst (-1), .iastore, .dup, .iconst 2, 
  .iconst (-1), .iastore, .dup, .iconst 3, .iconst (-1), .iastore, .putfield 12492, .aload 0, .iconst 4, .newarray .int, .putfield 12502, .aload 0, .iconst 240, .newarray .long, .putfield 12512, 
  .aload 0, .iconst 60, .newarray .long, .putfield 12522, .aload 0, .getfield 12012, .invokestatic 1639927, .aload 0, .invokevirtual 2128967, .return_]
def ps_203 : List Nat := [0, 1, 4, 5, 8, 10, 13, 14, 17, 19, 22, 23, 24, 26, 29, 30, 33, 35, 38, 39, 40, 42, 45, 46, 47, 50, 51, 54, 56, 59, 60, 61, 64, 65, 66, 69, 70, 72, 74, 77, 78, 81, 83, 86, 87, 89, 91, 94, 95, 98, 100, 
  103, 104, 107, 109, 112, 113, 115, 117, 120, 121, 123, 125, 128, 129, 131, 133, 136, 137, 138, 141, 142, 144, 146, 149, 150, 152, 154, 157, 158, 161, 163, 166, 167, 170, 172, 175, 176, 177, 179, 180, 
  181, 182, 183, 184, 185, 186, 187, 188, 189, 190, 191, 192, 193, 194, 195, 196, 197, 198, 199, 202, 203, 204, 206, 209, 210, 213, 215, 218, 219, 221, 223, 226, 227, 228, 230, 231, 232, 233, 234, 235, 
  236, 237, 238, 239, 240, 241, 242, 243, 244, 245, 246, 249, 250, 251, 253, 256, 257, 260, 262, 265, 266, 268, 270, 273, 274, 277, 280, 281, 284]
theorem ck_203 : xChkM 12 true none prog_14_method_4_code cd_203 ps_203 = true := xChkN_ok 0xb17000b62a6c00b80d00b42a6900b50bbc3c102a6500b50bbcf000112a6200b50abc072a5f00b54f0206594f0205594f0204594f0203590abc072a5c00b50abc08102a5900b50abc400f112a5600b50abc082a5300b54f0207594f0206594f0205594f0204594f0203590abc082a5000b50abcf901112a4d00b50abcf901112a4a00b50abc3a122a4700b50abc08102a4400b5022a4100b50abc3a122a3e00b50abc3a122a3b00b50abc3a122a3700b504bc0008112a3400b50abcd003112a3100b50abc08102a2e00b50abcc012112a2b00b50abc10102a2800b5022a2500b5022a2200b50abcc400112a1f00b5022a1c00b50abc082a1800b508bc4006112a1400b504bc062a1100b50abc4c02112a0d00b50abcc400112a0700b72a 285 0x011c01190118011501120111010e010c010a0109010601040101010000fd00fb00fa00f900f600f500f400f300f200f100f000ef00ee00ed00ec00eb00ea00e900e800e700e600e400e300e200df00dd00db00da00d700d500d200d100ce00cc00cb00ca00c700c600c500c400c300c200c100c000bf00be00bd00bc00bb00ba00b900b800b700b600b500b400b300b100b000af00ac00aa00a700a600a300a1009e009d009a00980096009500920090008e008d008a008900880085008300810080007d007b007900780075007300710070006d006b0068006700640062005f005e005b00590057005600530051004e004d004a004800460045004200410040003d003c003b0038003600330032002f002e002d002a00280027002600230021001e001d001a00180017001600130011000e000d000a00080005000400010000 160 (by decide +kernel)
/-- LastCloudModel.empties([I)V -/
def cd_204 : List Instr := [.iconst 0, .istore 1, .iload 1, .iconst 196, .if_icmp .ge 11, .aload 0, .iload 1, .iconst 0, .iastore, .iinc 1 1, .goto 2, .aload 0, .iconst 7, .iconst 40, .iastore, .aload 0, .iconst 8, .iconst 40, 
  .iastore, .aload 0, .iconst 9, .iconst 1000, .iastore, .aload 0, .iconst 12, .iconst (-1), .iastore, .return_]
def ps_204 : List Nat := [0, 1, 2, 3, 6, 9, 10, 11, 12, 13, 16, 19, 20, 22, 24, 25, 26, 28, 30, 31, 32, 34, 37, 38, 39, 41, 42, 43]
theorem ck_204 : xChkM 12 false none prog_14_method_5_code cd_204 ps_204 = true := xChkN_ok 0xb14f020c102a4fe8031109102a4f281008102a4f281007102af2ffa70101844f031b2a0d00a2c400111b3c03 44 0x002b002a002900270026002500220020001f001e001c001a001900180016001400130010000d000c000b000a000900060003000200010000 28 (by decide +kernel)
/-- LastCloudModel.keep(I)I -/
def cd_205 : List Instr := [.iload 1, .i2l, .jsr 0, .jsr 2, .invokestatic 1615932, .ifCond .ne 8, .iconst (-2), .ireturn, .iconst 0, .istore 2, .iload 2, .iconst 196, .if_icmp .ge 27, .aload 0, .getfield 12022, .iconst 196, 
  .iload 1, .imul, .iload 2, .iadd, .aload 0, .getfield 12012, .iload 2, .iaload, .iastore, .iinc 2 1, .goto 10, .aload 0, .getfield 12032, .iload 1, .iconst 1, .castore, .iconst 0, .ireturn]
def ps_205 : List Nat := [0, 1, 2, 3, 6, 9, 12, 14, 15, 16, 17, 18, 21, 24, 25, 28, 31, 32, 33, 34, 35, 36, 39, 40, 41, 42, 45, 48, 49, 52, 53, 54, 55, 56]
theorem ck_205 : xChkM 12 false (some .int) prog_14_method_6_code cd_205 ps_205 = true := xChkN_ok 0xac0354041b1400b42ae4ffa70102844f2e1c0d00b42a601c681bc400111100b42a1b00a2c400111c3d03acfe1006009a7500b873001409851b 57 0x0038003700360035003400310030002d002a00290028002700240023002200210020001f001c001900180015001200110010000f000e000c000900060003000200010000 34 (by decide +kernel)
/-- LastCloudModel.back(I)I -/
def cd_206 : List Instr := [.iload 1, .i2l, .jsr 0, .jsr 2, .invokestatic 1615932, .ifCond .ne 8, .iconst (-2), .ireturn, .aload 0, .getfield 12032, .iload 1, .caload, .ifCond .ne 15, .iconst (-6), .ireturn, .iconst 0, .istore 2, 
  .iload 2, .iconst 196, .if_icmp .ge 34, .aload 0, .getfield 12012, .iload 2, .aload 0, .getfield 12022, .iconst 196, .iload 1, .imul, .iload 2, .iadd, .iaload, .iastore, .iinc 2 1, .goto 17, .aload 0, 
  .invokevirtual 2128967, .iconst 0, .ireturn]
def ps_206 : List Nat := [0, 1, 2, 3, 6, 9, 12, 14, 15, 16, 19, 20, 21, 24, 26, 27, 28, 29, 30, 33, 36, 37, 40, 41, 42, 45, 48, 49, 50, 51, 52, 53, 54, 57, 60, 61, 64, 65]
theorem ck_206 : xChkM 12 false (some .int) prog_14_method_7_code cd_206 ps_206 = true := xChkN_ok 0xac037000b62ae4ffa70102844f2e601c681bc400111100b42a1c0d00b42a1b00a2c400111c3d03acfa1006009a331b1400b42aacfe1006009a7500b873001409851b 66 0x00410040003d003c00390036003500340033003200310030002d002a00290028002500240021001e001d001c001b001a00180015001400130010000f000e000c000900060003000200010000 38 (by decide +kernel)
/-- LastCloudModel.isPlace(I)Z -/
def cd_207 : List Instr := [.iload 1, .i2l, .jsr 0, .aload 0, .getfield 12012, .iconst 1, .iaload, .iconst 1, .isub, .i2l, .invokestatic 1615932, .freturn]
def ps_207 : List Nat := [0, 1, 2, 3, 4, 7, 8, 9, 10, 11, 12, 15]
theorem ck_207 : xChkM 12 false (some .boolean) prog_14_method_8_code cd_207 ps_207 = true := xChkN_ok 0xac7500b88564042e040d00b42a09851b 16 0x000f000c000b000a00090008000700040003000200010000 12 (by decide +kernel)
/-- LastCloudModel.ofPlace(II)I -/
def cd_208 : List Instr := [.aload 0, .getfield 12012, .iconst 20, .iconst 8, .iload 1, .imul, .iadd, .iload 2, .iadd, .iaload, .ireturn]
def ps_208 : List Nat := [0, 1, 4, 6, 8, 9, 10, 11, 12, 13, 14]
theorem ck_208 : xChkM 12 false (some .int) prog_14_method_9_code cd_208 ps_208 = true := xChkN_ok 0xac2e601c60681b081014100d00b42a 15 0x000e000d000c000b000a000900080006000400010000 11 (by decide +kernel)
/-- LastCloudModel.ofLeg(II)I -/
def cd_209 : List Instr := [.aload 0, .getfield 12012, .iconst 84, .iconst 6, .iload 1, .imul, .iadd, .iload 2, .iadd, .iaload, .ireturn]
def ps_209 : List Nat := [0, 1, 4, 6, 8, 9, 10, 11, 12, 13, 14]
theorem ck_209 : xChkM 12 false (some .int) prog_14_method_10_code cd_209 ps_209 = true := xChkN_ok 0xac2e601c60681b061054100d00b42a 15 0x000e000d000c000b000a000900080006000400010000 11 (by decide +kernel)
/-- LastCloudModel.feed(IIIII)I -/
def cd_210 : List Instr := [.aload 0, .getfield 12050, .iconst 20, .iadd, .iconst 1600, .if_icmp .le 8, .iconst (-1), .ireturn, .aload 0, .getfield 12062, .iconst 0, .iload 1, .iastore, .aload 0, .getfield 12062, .iconst 1, 
  .iload 2, .iastore, .aload 0, .getfield 12062, .iconst 2, .iload 3, .iastore, .aload 0, .getfield 12062, .iconst 3, .iload 4, .iastore, .aload 0, .getfield 12062, .iconst 4, .iload 5, .iastore, 
  .iconst 0, .istore 6, .iload 6, .iconst 20, .if_icmp .ge 62, .aload 0, .getfield 12042, .aload 0, .getfield 12050, .iload 6, .iadd, .aload 0, .getfield 12062, .iload 6, .iconst 4, .idiv, .iaload, 
  .iconst 24, .iconst 8, .iload 6, .iconst 4, .irem, .imul, .isub, .ishr, .i2b, .bastore, .iinc 6 1, .goto 35, .aload 0, .dup, .getfield 12050, .iconst 20, .iadd, .putfield 12050, .aload 0, 
  .getfield 12050, .ireturn]
def ps_210 : List Nat := [0, 1, 4, 6, 7, 10, 13, 14, 15, 16, 19, 20, 21, 22, 23, 26, 27, 28, 29, 30, 33, 34, 35, 36, 37, 40, 41, 43, 44, 45, 48, 49, 51, 52, 53, 55, 57, 59, 62, 63, 66, 67, 70, 72, 73, 74, 77, 79, 80, 81, 82, 
  84, 86, 88, 89, 90, 91, 92, 93, 94, 95, 98, 101, 102, 103, 106, 108, 109, 112, 113, 116]
theorem ck_210 : xChkM 12 false (some .int) prog_14_method_11_code cd_210 ps_210 = true := xChkN_ok 0xac7900b42a7900b56014107900b4592ad5ffa701068454917a646870070615081018102e6c0706151c00b42a6006157900b42a1800b42a2a00a2141006150636034f0515071c00b42a4f0415061c00b42a4f1d051c00b42a4f1c041c00b42a4f1b031c00b42aac020500a44006116014107900b42a 117 0x007400710070006d006c006a0067006600650062005f005e005d005c005b005a0059005800560054005200510050004f004d004a00490048004600430042003f003e003b0039003700350034003300310030002d002c002b0029002800250024002300220021001e001d001c001b001a001700160015001400130010000f000e000d000a00070006000400010000 71 (by decide +kernel)
/-- LastCloudModel.end(I)I -/
def cd_211 : List Instr := [.iload 1, .i2l, .jsr 0, .aload 0, .getfield 12050, .i2l, .invokestatic 1615932, .ifCond .ne 10, .iconst (-1), .ireturn, .aload 0, .iload 1, .putfield 12050, .iload 1, .ireturn]
def ps_211 : List Nat := [0, 1, 2, 3, 4, 7, 8, 11, 14, 15, 16, 17, 18, 21, 22]
theorem ck_211 : xChkM 12 false (some .int) prog_14_method_12_code cd_211 ps_211 = true := xChkN_ok 0xac1b7900b51b2aac0205009a7500b8857900b42a09851b 23 0x00160015001200110010000f000e000b0008000700040003000200010000 15 (by decide +kernel)
/-- LastCloudModel.see(I)I -/
def cd_212 : List Instr := [.iload 1, .aload 0, .getfield 12070, .if_icmp .ge 11, .aload 0, .getfield 12042, .iload 1, .baload, .iconst 255, .iand, .goto 12, .iconst (-1), .ireturn]
def ps_212 : List Nat := [0, 1, 2, 5, 8, 9, 12, 13, 14, 17, 18, 21, 22]
theorem ck_212 : xChkM 12 false (some .int) prog_14_method_13_code cd_212 ps_212 = true := xChkN_ok 0xac020400a77eff0011331b1800b42a1000a27c00b42a1b 23 0x0016001500120011000e000d000c000900080005000200010000 13 (by decide +kernel)
/-- LastCloudModel.advance()V -/
def cd_213 : List Instr := [.aload 0, .aload 0, .getfield 12080, .invokevirtual 1696968, .iconst 32, .if_icmp .eq 12, .aload 0, .aload 0, .getfield 12080, .invokevirtual 1696968, .iconst 10, .if_icmp .ne 19, .aload 0, .dup, 
  .getfield 12080, .iconst 1, .iadd, .putfield 12080, .goto 0, .aload 0, .aload 0, .getfield 12080, .putfield 12090, .aload 0, .aload 0, .getfield 12080, .invokevirtual 1696968, .istore 1, .iload 1, 
  .iconst (-1), .if_icmp .ne 35, .aload 0, .iconst 0, .putfield 12100, .goto 119, .iload 1, .i2l, .jsr 97, .jsr 122, .invokestatic 1615932, .ifCond .eq 61, .aload 0, .aload 0, .getfield 12080, 
  .invokevirtual 1696968, .i2l, .jsr 97, .jsr 122, .invokestatic 1615932, .ifCond .eq 57, .aload 0, .dup, .getfield 12080, .iconst 1, .iadd, .putfield 12080, .goto 41, .aload 0, .iconst 1, 
  .putfield 12100, .goto 119, .iload 1, .i2l, .jsr 48, .jsr 57, .invokestatic 1615932, .ifCond .eq 105, .aload 0, .iconst 0, .putfield 12110, .aload 0, .aload 0, .getfield 12080, .invokevirtual 1696968, 
  .i2l, .jsr 48, .jsr 57, .invokestatic 1615932, .ifCond .eq 101, .aload 0, .iconst 99999, .iconst 10, .aload 0, .getfield 12110, .imul, .aload 0, .aload 0, .getfield 12080, .invokevirtual 1696968, 
  .iadd, .iconst 48, .isub, .dsub, .putfield 12110, .aload 0, .dup, .getfield 12080, .iconst 1, .iadd, .putfield 12080, .goto 70, .aload 0, .iconst 2, .putfield 12100, .goto 119, .aload 0, .iload 1, 
  .iconst 59, .if_icmp .ne 111, .iconst 3, .goto 112, .iconst 4, .putfield 12100, .aload 0, .dup, .getfield 12080, .iconst 1, .iadd, .putfield 12080, .return_]
def ps_213 : List Nat := [0, 1, 2, 5, 8, 10, 13, 14, 15, 18, 21, 23, 26, 27, 28, 31, 32, 33, 36, 39, 40, 41, 44, 47, 48, 49, 52, 55, 56, 57, 58, 61, 62, 63, 66, 69, 70, 71, 74, 77, 80, 83, 84, 85, 88, 91, 92, 95, 98, 101, 104, 
  105, 106, 109, 110, 111, 114, 117, 118, 119, 122, 125, 126, 127, 130, 133, 136, 139, 140, 141, 144, 145, 146, 149, 152, 153, 156, 159, 162, 165, 166, 168, 170, 171, 174, 175, 176, 177, 180, 183, 184, 
  186, 187, 190, 193, 194, 195, 198, 199, 200, 203, 206, 207, 208, 211, 214, 215, 216, 218, 221, 222, 225, 226, 229, 230, 231, 234, 235, 236, 239]
theorem ck_213 : xChkM 12 false none prog_14_method_14_code cd_213 ps_213 = true := xChkN_ok 0xb17f00b560047f00b4592a8900b5070400a7060700a03b101b2a1c00a78900b5052ac5ffa77f00b560047f00b4592a9400b59800b8643010608200b67f00b42a2a689400b42a0a1097122a2c00997500b8920014900014858200b67f00b42a2a9400b5032a4e00997500b8920014900014851b7500a78900b5042ae1ffa77f00b560047f00b4592a1000997500b88e00148c0014858200b67f00b42a2a2d00997500b88e00148c0014851bad00a78900b5032a0b00a0021b3c8200b67f00b42a2a8600b57f00b42a2adcffa77f00b560047f00b4592a1000a00a108200b67f00b42a2a10009f20108200b67f00b42a2a 240 0x00ef00ec00eb00ea00e700e600e500e200e100de00dd00da00d800d700d600d300d000cf00ce00cb00c800c700c600c300c200c100be00bb00ba00b800b700b400b100b000af00ae00ab00aa00a800a600a500a2009f009c009900980095009200910090008d008c008b008800850082007f007e007d007a0077007600750072006f006e006d006a0069006800650062005f005c005b00580055005400530050004d004a0047004600450042003f003e003d003a003900380037003400310030002f002c002900280027002400210020001f001c001b001a001700150012000f000e000d000a00080005000200010000 120 (by decide +kernel)
/-- LastCloudModel.good()Z -/
def cd_214 : List Instr := [.aload 0, .getfield 12120, .ifCond .ne 5, .iconst 1, .goto 6, .iconst 0, .freturn]
def ps_214 : List Nat := [0, 1, 4, 7, 8, 11, 12]
theorem ck_214 : xChkM 12 false (some .boolean) prog_14_method_15_code cd_214 ps_214 = true := xChkN_ok 0xac030400a70407009a9e00b42a 13 0x000c000b00080007000400010000 7 (by decide +kernel)
/-- LastCloudModel.errs(I)V -/
def cd_215 : List Instr := [.aload 0, .invokevirtual 1712964, .ifCond .ne 4, .return_, .aload 0, .iload 1, .putfield 12120, .aload 0, .aload 0, .getfield 12090, .putfield 12130, .return_]
def ps_215 : List Nat := [0, 1, 4, 7, 8, 9, 10, 13, 14, 15, 18, 21]
theorem ck_215 : xChkM 12 false none prog_14_method_16_code cd_215 ps_215 = true := xChkN_ok 0xb11f00b58600b42a2a9e00b51b2ab104009aa100b62a 22 0x00150012000f000e000d000a000900080007000400010000 12 (by decide +kernel)
