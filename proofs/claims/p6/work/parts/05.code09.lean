/-- LastCloudModel.bySign(IIZI)I -/
def cd_243 : List Instr := [.iload 3, .ifCond .eq 7, .aload 0, .iload 1, .iconst 6, .invokevirtual 1664972, .goto 13, .iconst 100, .aload 0, .iload 1, .iconst 6, .invokevirtual 1664972, .isub, .istore 5, .iload 3, .ifCond .eq 21, 
  .aload 0, .iload 1, .iconst 7, .invokevirtual 1664972, .goto 27, .iconst 100, .aload 0, .iload 1, .iconst 7, .invokevirtual 1664972, .isub, .istore 6, .iload 2, .iload 5, .imul, .iconst 100, .iload 2, 
  .isub, .iload 6, .imul, .iadd, .istore 7, .iload 7, .ifCond .ne 42, .iconst (-1), .goto 49, .iload 4, .iload 2, .imul, .iload 5, .imul, .iload 7, .idiv, .ireturn]
def ps_243 : List Nat := [0, 1, 4, 5, 6, 8, 11, 14, 16, 17, 18, 20, 23, 24, 26, 27, 30, 31, 32, 34, 37, 40, 42, 43, 44, 46, 49, 50, 52, 53, 55, 56, 58, 59, 60, 62, 63, 64, 66, 68, 71, 72, 75, 77, 78, 79, 81, 82, 84, 85]
theorem ck_243 : xChkM 12 false (some .int) prog_14_method_44_code cd_243 ps_243 = true := xChkN_ok 0xac6c0715680515681c04150d00a70207009a0715073660680615641c64106805151c0636642501b607101b2a64100d00a72501b607101b2a0d00991d0536642501b606101b2a64100d00a72501b606101b2a0d00991d 86 0x0055005400520051004f004e004d004b00480047004400420040003f003e003c003b003a003800370035003400320031002e002c002b002a0028002500220020001f001e001b001a001800170014001200110010000e000b000800060005000400010000 50 (by decide +kernel)
/-- LastCloudModel.chanceNow(I)I -/
def cd_244 : List Instr := [.aload 0, .iload 1, .iconst 4, .invokevirtual 1664972, .istore 2, .iconst 0, .istore 3, .iload 3, .aload 0, .getfield 12012, .iconst 4, .iaload, .if_icmp .ge 65, .aload 0, .getfield 12012, .iconst 156, 
  .iconst 2, .iload 3, .imul, .iadd, .iaload, .iload 1, .if_icmp .eq 24, .goto 63, .aload 0, .getfield 12012, .iconst 156, .iconst 2, .iload 3, .imul, .iadd, .iconst 1, .iadd, .iaload, .istore 4, 
  .iload 4, .iconst 2, .if_icmp .ge 44, .iconst 100, .iconst 100, .iload 4, .imul, .isub, .goto 55, .aload 0, .iload 1, .iload 2, .iload 4, .iconst 2, .if_icmp .ne 52, .iconst 1, .goto 53, .iconst 0, 
  .iconst 100, .invokevirtual 1944980, .istore 5, .iload 5, .iconst (-1), .if_icmp .ne 61, .iload 2, .goto 62, .iload 5, .istore 2, .iinc 3 1, .goto 7, .iload 2, .ireturn]
def ps_244 : List Nat := [0, 1, 2, 3, 6, 7, 8, 9, 10, 11, 14, 15, 16, 19, 20, 23, 26, 27, 28, 29, 30, 31, 32, 35, 38, 39, 42, 45, 46, 47, 48, 49, 50, 51, 52, 54, 56, 57, 60, 62, 64, 66, 67, 68, 71, 72, 73, 74, 76, 77, 80, 81, 
  84, 85, 87, 90, 92, 94, 95, 98, 99, 102, 104, 105, 108, 111, 112]
theorem ck_244 : xChkM 12 false (some .int) prog_14_method_45_code cd_244 ps_244 = true := xChkN_ok 0xac1c9dffa70103843d05150500a71c0700a002051505364b01b66410030400a7040700a00504151c1b2a1600a764680415641064100e00a205041504362e600460681d059c00110d00b42a4600a706009f1b2e60681d059c00110d00b42a5f00a22e070d00b42a1d3e033d2501b6071b2a 113 0x0070006f006c00690068006600630062005f005e005c005a00570055005400510050004d004c004a0049004800470044004300420040003e003c00390038003600340033003200310030002f002e002d002a0027002600230020001f001e001d001c001b001a0017001400130010000f000e000b000a00090008000700060003000200010000 67 (by decide +kernel)
/-- LastCloudModel.chanceOf(I)I -/
def cd_245 : List Instr := [.iload 1, .aload 0, .getfield 12160, .if_icmp .ne 7, .aload 0, .getfield 12170, .goto 10, .aload 0, .iload 1, .invokevirtual 1952968, .ireturn]
def ps_245 : List Nat := [0, 1, 2, 5, 8, 9, 12, 15, 16, 17, 20]
theorem ck_245 : xChkM 12 false (some .int) prog_14_method_46_code cd_245 ps_245 = true := xChkN_ok 0xac5201b61b2a0800a74f01b42a0a00a02500b42a1b 21 0x001400110010000f000c000900080005000200010000 11 (by decide +kernel)
/-- LastCloudModel.chance(I)I -/
def cd_246 : List Instr := [.aload 0, .iload 1, .invokevirtual 1656968, .ifCond .eq 8, .aload 0, .iload 1, .invokevirtual 1952968, .goto 9, .iconst (-2), .ireturn]
def ps_246 : List Nat := [0, 1, 2, 5, 8, 9, 10, 13, 16, 18]
theorem ck_246 : xChkM 12 false (some .int) prog_14_method_47_code cd_246 ps_246 = true := xChkN_ok 0xacfe100500a75201b61b2a0b00994401b61b2a 19 0x00120010000d000a000900080005000200010000 10 (by decide +kernel)
/-- LastCloudModel.sight(II)I -/
def cd_247 : List Instr := [.aload 0, .iload 1, .invokevirtual 1656968, .ifCond .eq 10, .iload 2, .i2l, .jsr 0, .jsr 3, .invokestatic 1615932, .ifCond .ne 12, .iconst (-2), .ireturn, .aload 0, .getfield 12012, .iconst 4, .iaload, 
  .iconst 20, .if_icmp .ne 20, .iconst (-3), .ireturn, .aload 0, .getfield 12012, .iconst 156, .iconst 2, .aload 0, .getfield 12012, .iconst 4, .iaload, .imul, .iadd, .iload 1, .iastore, .aload 0, 
  .getfield 12012, .iconst 156, .iconst 2, .aload 0, .getfield 12012, .iconst 4, .iaload, .imul, .iadd, .iconst 1, .iadd, .iload 2, .iastore, .aload 0, .getfield 12012, .iconst 4, .dup2, .iaload, 
  .iconst 1, .iadd, .iastore, .aload 0, .invokevirtual 2128967, .aload 0, .getfield 12012, .iconst 4, .iaload, .ireturn]
def ps_247 : List Nat := [0, 1, 2, 5, 8, 9, 10, 11, 14, 17, 20, 22, 23, 24, 27, 28, 29, 31, 34, 36, 37, 38, 41, 44, 45, 46, 49, 50, 51, 52, 53, 54, 55, 56, 59, 62, 63, 64, 67, 68, 69, 70, 71, 72, 73, 74, 75, 76, 79, 80, 81, 82, 
  83, 84, 85, 86, 89, 90, 93, 94, 95]
theorem ck_247 : xChkM 12 false (some .int) prog_14_method_48_code cd_247 ps_247 = true := xChkN_ok 0xac2e070d00b42a7000b62a4f60042e5c070d00b42a4f1c600460682e070d00b42a059c00110d00b42a4f1b60682e070d00b42a059c00110d00b42aacfd100600a014102e070d00b42aacfe1006009a7500b855011409851c0f00994401b61b2a 96 0x005f005e005d005a00590056005500540053005200510050004f004c004b004a00490048004700460045004400430040003f003e003b00380037003600350034003300320031002e002d002c00290026002500240022001f001d001c001b00180017001600140011000e000b000a000900080005000200010000 61 (by decide +kernel)
/-- LastCloudModel.unsee(I)I -/
def cd_248 : List Instr := [.iload 1, .i2l, .jsr 0, .aload 0, .getfield 12012, .iconst 4, .iaload, .i2l, .invokestatic 1615932, .ifCond .ne 12, .iconst (-2), .ireturn, .aload 0, .getfield 12012, .iconst 4, .dup2, .iaload, 
  .iload 1, .isub, .iastore, .aload 0, .invokevirtual 2128967, .aload 0, .getfield 12012, .iconst 4, .iaload, .ireturn]
def ps_248 : List Nat := [0, 1, 2, 3, 4, 7, 8, 9, 10, 13, 16, 18, 19, 20, 23, 24, 25, 26, 27, 28, 29, 30, 33, 34, 37, 38, 39]
theorem ck_248 : xChkM 12 false (some .int) prog_14_method_49_code cd_248 ps_248 = true := xChkN_ok 0xac2e070d00b42a7000b62a4f641b2e5c070d00b42aacfe1006009a7500b8852e070d00b42a09851b 40 0x00270026002500220021001e001d001c001b001a0019001800170014001300120010000d000a00090008000700040003000200010000 27 (by decide +kernel)
/-- LastCloudModel.sign(IZ)I -/
def cd_249 : List Instr := [.aload 0, .iload 1, .invokevirtual 1656968, .ifCond .eq 14, .aload 0, .iload 1, .aload 0, .iload 1, .iconst 4, .invokevirtual 1664972, .iload 2, .iconst 10000, .invokevirtual 1944980, .goto 15, 
  .iconst (-2), .ireturn]
def ps_249 : List Nat := [0, 1, 2, 5, 8, 9, 10, 11, 12, 13, 16, 17, 20, 23, 26, 28]
theorem ck_249 : xChkM 12 false (some .int) prog_14_method_50_code cd_249 ps_249 = true := xChkN_ok 0xacfe100500a74b01b61027111c2501b6071b2a1b2a1500994401b61b2a 29 0x001c001a0017001400110010000d000c000b000a000900080005000200010000 16 (by decide +kernel)
/-- LastCloudModel.laysWays()V -/
def cd_250 : List Instr := [.aload 0, .getfield 12220, .ifCond .eq 4, .return_, .aload 0, .iconst 1, .putfield 12223, .iconst 0, .istore 1, .iload 1, .iconst 2, .if_icmp .ge 25, .iconst 0, .istore 2, .iload 2, .iconst 8, 
  .if_icmp .ge 23, .aload 0, .iload 2, .iload 1, .invokevirtual 2008975, .iinc 2 1, .goto 14, .iinc 1 1, .goto 9, .return_]
def ps_250 : List Nat := [0, 1, 4, 7, 8, 9, 10, 13, 14, 15, 16, 17, 20, 21, 22, 23, 25, 28, 29, 30, 31, 34, 37, 40, 43, 46]
theorem ck_250 : xChkM 12 false none prog_14_method_51_code cd_250 ps_250 = true := xChkN_ok 0xb1e4ffa7010184f1ffa70102845a01b61b1c2a0f00a208101c3d031d00a2051b3c035701b5042ab10400995701b42a 47 0x002e002b002800250022001f001e001d001c0019001700160015001400110010000f000e000d000a000900080007000400010000 26 (by decide +kernel)
/-- LastCloudModel.laysFrom(II)V -/
def cd_251 : List Instr := [.iconst 2, .iload 1, .imul, .iload 2, .iadd, .istore 3, .aload 0, .getfield 12202, .iload 3, .iconst 0, .iastore, .iconst 0, .istore 4, .iload 4, .aload 0, .getfield 12012, .iconst 2, .iaload, 
  .if_icmp .ge 129, .aload 0, .iload 4, .iconst 1, .invokevirtual 1672972, .iload 1, .if_icmp .ne 27, .iconst 1, .goto 28, .iconst 0, .istore 5, .iload 5, .ifCond .ne 38, .aload 0, .iload 4, .iconst 0, 
  .invokevirtual 1672972, .iload 1, .if_icmp .eq 38, .goto 127, .iconst 0, .istore 6, .iload 6, .aload 0, .getfield 12012, .iconst 3, .iaload, .if_icmp .ge 127, .aload 0, .iload 4, .iload 5, .iload 6, 
  .iload 2, .iconst 1, .if_icmp .ne 55, .iconst 1, .goto 56, .iconst 0, .invokevirtual 1888980, .istore 7, .iload 7, .iconst (-1), .if_icmp .ne 62, .goto 125, .iconst 300, .iload 3, .imul, .iconst 5, 
  .aload 0, .getfield 12202, .iload 3, .iaload, .imul, .iadd, .istore 8, .aload 0, .getfield 12212, .iload 8, .iload 4, .iastore, .aload 0, .getfield 12212, .iload 8, .iconst 1, .iadd, .iload 6, 
  .iastore, .aload 0, .getfield 12212, .iload 8, .iconst 2, .iadd, .aload 0, .iload 4, .iload 5, .ifCond .eq 96, .iconst 0, .goto 97, .iconst 1, .invokevirtual 1672972, .iastore, .aload 0, 
  .getfield 12212, .iload 8, .iconst 3, .iadd, .iload 7, .iastore, .aload 0, .getfield 12212, .iload 8, .iconst 4, .iadd, .aload 0, .iload 4, .iload 6, .iload 7, .invokevirtual 1896976, .iastore, 
  .aload 0, .getfield 12202, .iload 3, .dup2, .iaload, .iconst 1, .iadd, .iastore, .iinc 6 1, .goto 40, .iinc 4 1, .goto 13, .return_]
def ps_251 : List Nat := [0, 1, 2, 3, 4, 5, 6, 7, 10, 11, 12, 13, 14, 16, 18, 19, 22, 23, 24, 27, 28, 30, 31, 34, 35, 38, 39, 42, 43, 45, 47, 50, 51, 53, 54, 57, 58, 61, 64, 65, 67, 69, 70, 73, 74, 75, 78, 79, 81, 83, 85, 86, 
  87, 90, 91, 94, 95, 98, 100, 102, 103, 106, 109, 112, 113, 114, 115, 116, 119, 120, 121, 122, 123, 125, 126, 129, 131, 133, 134, 135, 138, 140, 141, 142, 144, 145, 146, 149, 151, 152, 153, 154, 156, 
  158, 161, 162, 165, 166, 169, 170, 171, 174, 176, 177, 178, 180, 181, 182, 185, 187, 188, 189, 190, 192, 194, 196, 199, 200, 201, 204, 205, 206, 207, 208, 209, 210, 213, 216, 219, 222]
theorem ck_251 : xChkM 12 false none prog_14_method_52_code cd_251 ps_251 = true := xChkN_ok 0xb135ffa70104846effa70106844f60042e5c1d2b00b42a4f3a01b60715061504152a600708152e00b42a4f0715600608152e00b42a4f2b01b6040400a703070099051504152a600508152e00b42a4f0615600408152e00b42a4f041508152e00b42a083660682e1d2b00b42a08681d2c01116800a70600a002071507363501b6030400a7040700a0041c0615051504152a8d00a22e060d00b42a06150636039b00a706009f1b2b01b60304152a11009a05150536030400a7040700a01b2b01b60404152ac600a22e050d00b42a04150436034f031d2b00b42a3e601c681b05 223 0x00de00db00d800d500d200d100d000cf00ce00cd00cc00c900c800c700c400c200c000be00bd00bc00bb00b900b600b500b400b200b100b000ae00ab00aa00a900a600a500a200a1009e009c009a0099009800970095009200910090008e008d008c008a00870086008500830081007e007d007b007a00790078007700740073007200710070006d006a0067006600640062005f005e005b005a00570056005500530051004f004e004b004a004900460045004300410040003d003a00390036003500330032002f002d002b002a0027002600230022001f001e001c001b001800170016001300120010000e000d000c000b000a00070006000500040003000200010000 130 (by decide +kernel)
/-- LastCloudModel.comesAt(II)I -/
def cd_252 : List Instr := [.aload 0, .getfield 12212, .iload 1, .iconst 2, .iadd, .iaload, .istore 3, .aload 0, .getfield 12012, .iconst 7, .iaload, .iload 2, .aload 0, .getfield 12212, .iload 1, .iconst 4, .iadd, .iaload, 
  .isub, .dsub, .istore 4, .iload 2, .aload 0, .getfield 12212, .iload 1, .iconst 4, .iadd, .iaload, .iconst 2, .idiv, .isub, .aload 0, .aload 0, .getfield 12212, .iload 1, .iaload, .iconst 5, 
  .invokevirtual 1672972, .if_icmp .lt 45, .iload 4, .aload 0, .iload 3, .iconst 0, .invokevirtual 1664972, .if_icmp .ge 47, .iconst (-1), .goto 48, .iload 4, .ireturn]
def ps_252 : List Nat := [0, 1, 4, 5, 6, 7, 8, 9, 10, 13, 15, 16, 17, 18, 21, 22, 23, 24, 25, 26, 29, 31, 32, 33, 36, 37, 38, 39, 40, 41, 42, 43, 44, 45, 48, 49, 50, 51, 54, 57, 59, 60, 61, 62, 65, 68, 69, 72, 74]
theorem ck_252 : xChkM 12 false (some .int) prog_14_method_53_code cd_252 ps_252 = true := xChkN_ok 0xac04150500a7020700a22501b6031d2a04150e00a12b01b6082e1b2e00b42a2a646c052e60071b2e00b42a1c04369800b8642e60071b2e00b42a1c2e07100d00b42a3e2e60051b2e00b42a 75 0x004a0048004500440041003e003d003c003b003900360033003200310030002d002c002b002a00290028002700260025002400210020001f001d001a00190018001700160015001200110010000f000d000a00090008000700060005000400010000 49 (by decide +kernel)
/-- LastCloudModel.glides(IIZ)V -/
def cd_253 : List Instr := [.aload 0, .invokevirtual 2000967, .iconst 0, .istore 4, .iload 4, .iconst 8, .if_icmp .ge 14, .aload 0, .getfield 12232, .iload 4, .iconst (-1), .iastore, .iinc 4 1, .goto 4, .aload 0, .getfield 12232, 
  .iload 1, .iload 2, .iastore, .iconst 1, .istore 4, .iload 4, .ifCond .eq 102, .iconst 0, .istore 4, .iconst 0, .istore 5, .iload 5, .aload 0, .getfield 12012, .iconst 1, .iaload, .if_icmp .ge 101, 
  .iconst 2, .iload 5, .imul, .iload 3, .ifCond .eq 40, .iconst 1, .goto 41, .iconst 0, .iadd, .istore 6, .iconst 0, .istore 7, .iload 7, .aload 0, .getfield 12202, .iload 6, .iaload, .if_icmp .ge 99, 
  .aload 0, .getfield 12232, .iload 5, .iaload, .iconst (-1), .if_icmp .eq 99, .iconst 300, .iload 6, .imul, .iconst 5, .iload 7, .imul, .iadd, .istore 8, .aload 0, .iload 8, .aload 0, .getfield 12232, 
  .iload 5, .iaload, .invokevirtual 2016972, .istore 9, .iload 9, .aload 0, .getfield 12232, .aload 0, .getfield 12212, .iload 8, .iconst 2, .iadd, .iaload, .iaload, .if_icmp .gt 85, .goto 97, .aload 0, 
  .getfield 12232, .aload 0, .getfield 12212, .iload 8, .iconst 2, .iadd, .iaload, .iload 9, .iastore, .iconst 1, .istore 4, .iinc 7 1, .goto 45, .iinc 5 1, .goto 27, .goto 21, .return_]
def ps_253 : List Nat := [0, 1, 4, 5, 7, 9, 11, 14, 15, 18, 20, 21, 22, 25, 28, 29, 32, 33, 34, 35, 36, 38, 40, 43, 44, 46, 47, 49, 51, 52, 55, 56, 57, 60, 61, 63, 64, 65, 68, 69, 72, 73, 74, 76, 77, 79, 81, 82, 85, 87, 88, 91, 
  92, 95, 97, 98, 99, 102, 105, 107, 108, 109, 111, 112, 113, 115, 116, 118, 119, 122, 124, 125, 128, 130, 132, 133, 136, 137, 140, 142, 143, 144, 145, 146, 149, 152, 153, 156, 157, 160, 162, 163, 164, 
  165, 167, 168, 169, 171, 174, 177, 180, 183, 186]
theorem ck_253 : xChkM 12 false none prog_14_method_54_code cd_253 ps_253 = true := xChkN_ok 0xb16fffa77dffa7010584a1ffa70107840436044f09152e600508152e00b42a3100b42a1600a70600a32e2e600508152e00b42a3100b42a091509366101b62e05153100b42a08152a083660680715086806152c01114e009f022e05153100b42a5900a22e06152b00b42a0715073603063660030400a7040700991d680515057e00a22e040d00b42a051505360304360392009904150436044f1c1b3100b42aeeffa70104844f0204153100b42a1100a2081004150436035e01b62a 187 0x00ba00b700b400b100ae00ab00a900a800a700a500a400a300a200a0009d009c009900980095009200910090008f008e008c008900880085008400820080007d007c007a007700760074007300710070006f006d006c006b00690066006300620061005f005c005b00580057005500520051004f004d004c004a004900480045004400410040003f003d003c003900380037003400330031002f002e002c002b0028002600240023002200210020001d001c00190016001500140012000f000e000b000900070005000400010000 103 (by decide +kernel)
/-- LastCloudModel.isHeight(II)Z -/
def cd_254 : List Instr := [.aload 0, .iload 1, .invokevirtual 1656968, .ifCond .eq 20, .iload 2, .i2l, .aload 0, .iload 1, .iconst 0, .invokevirtual 1664972, .i2l, .aload 0, .getfield 12012, .iconst 7, .iaload, .i2l, 
  .invokestatic 1615932, .ifCond .eq 20, .iconst 1, .goto 21, .iconst 0, .freturn]
def ps_254 : List Nat := [0, 1, 2, 5, 8, 9, 10, 11, 12, 13, 16, 17, 18, 21, 23, 24, 25, 28, 31, 32, 35, 36]
theorem ck_254 : xChkM 12 false (some .boolean) prog_14_method_55_code cd_254 ps_254 = true := xChkN_ok 0xac030400a7040700997500b8852e07100d00b42a852501b6031b2a851c1e00994401b61b2a 37 0x002400230020001f001c0019001800170015001200110010000d000c000b000a000900080005000200010000 22 (by decide +kernel)
/-- LastCloudModel.reach(IIIZ)I -/
def cd_255 : List Instr := [.aload 0, .iload 1, .iload 2, .invokevirtual 2032972, .ifCond .eq 9, .aload 0, .iload 3, .invokevirtual 1656968, .ifCond .ne 11, .iconst (-2), .ireturn, .aload 0, .iload 1, .iload 2, .iload 4, 
  .invokevirtual 2024979, .aload 0, .getfield 12232, .iload 3, .iaload, .ireturn]
def ps_255 : List Nat := [0, 1, 2, 3, 6, 9, 10, 11, 14, 17, 19, 20, 21, 22, 23, 25, 28, 29, 32, 33, 34]
theorem ck_255 : xChkM 12 false (some .int) prog_14_method_56_code cd_255 ps_255 = true := xChkN_ok 0xac2e1d3100b42a6701b604151c1b2aacfe1006009a4401b61d2a0b00996401b61c1b2a 35 0x002200210020001d001c0019001700160015001400130011000e000b000a000900060003000200010000 21 (by decide +kernel)
/-- LastCloudModel.fieldsOf(IIZ)I -/
def cd_256 : List Instr := [.iconst 61, .iload 1, .imul, .iload 2, .iadd, .iconst 2, .imul, .iload 3, .ifCond .eq 11, .iconst 1, .goto 12, .iconst 0, .iadd, .istore 4, .aload 0, .getfield 12242, .iload 4, .iaload, .iconst (-1), 
  .if_icmp .eq 25, .aload 0, .getfield 12242, .iload 4, .iaload, .ireturn, .aload 0, .iload 1, .iload 2, .iload 3, .invokevirtual 2024979, .iconst 0, .istore 5, .iconst 0, .istore 6, .iload 6, .aload 0, 
  .getfield 12012, .iconst 1, .iaload, .if_icmp .ge 61, .iload 5, .aload 0, .getfield 12232, .iload 6, .iaload, .iconst (-1), .if_icmp .eq 56, .aload 0, .iload 6, .iconst 1, .invokevirtual 1664972, 
  .ifCond .le 56, .iconst 1, .iload 6, .ishl, .goto 57, .iconst 0, .ior, .istore 5, .iinc 6 1, .goto 34, .aload 0, .getfield 12242, .iload 4, .iload 5, .iastore, .iload 5, .ireturn]
def ps_256 : List Nat := [0, 2, 3, 4, 5, 6, 7, 8, 9, 12, 13, 16, 17, 18, 20, 21, 24, 26, 27, 28, 31, 32, 35, 37, 38, 39, 40, 41, 42, 43, 46, 47, 49, 50, 52, 54, 55, 58, 59, 60, 63, 65, 66, 69, 71, 72, 73, 76, 77, 79, 80, 83, 
  86, 87, 89, 90, 93, 94, 95, 97, 100, 103, 104, 107, 109, 111, 112, 114]
theorem ck_256 : xChkM 12 false (some .int) prog_14_method_57_code cd_256 ps_256 = true := xChkN_ok 0xac05154f051504153400b42ad0ffa7010684053680030400a7780615040a009e2501b60406152a14009f022e06153100b42a05152b00a22e040d00b42a06150636030536036701b61d1c1b2aac2e04153400b42a0b009f022e04153400b42a043660030400a7040700991d6805601c681b3d10 115 0x00720070006f006d006b0068006700640061005f005e005d005a00590057005600530050004f004d004c004900480047004500420041003f003c003b003a00370036003400320031002f002e002b002a0029002800270026002500230020001f001c001b001a001800150014001200110010000d000c000900080007000600050004000300020000 68 (by decide +kernel)
/-- LastCloudModel.fields(IIZ)I -/
def cd_257 : List Instr := [.aload 0, .iload 1, .iload 2, .invokevirtual 2032972, .ifCond .eq 11, .aload 0, .iload 1, .iload 2, .iload 3, .invokevirtual 2048976, .goto 12, .iconst (-2), .ireturn]
def ps_257 : List Nat := [0, 1, 2, 3, 6, 9, 10, 11, 12, 13, 16, 19, 21]
theorem ck_257 : xChkM 12 false (some .int) prog_14_method_58_code cd_257 ps_257 = true := xChkN_ok 0xacfe100500a76b01b61d1c1b2a0d00996401b61c1b2a 22 0x001500130010000d000c000b000a000900060003000200010000 13 (by decide +kernel)
/-- LastCloudModel.edge(IZ)I -/
def cd_258 : List Instr := [.aload 0, .iload 1, .invokevirtual 1656968, .ifCond .ne 6, .iconst (-2), .ireturn, .aload 0, .iload 1, .iconst 0, .invokevirtual 1664972, .istore 3, .iload 3, .aload 0, .getfield 12012, .iconst 7, 
  .iaload, .if_icmp .gt 27, .aload 0, .iload 1, .iload 3, .iload 2, .invokevirtual 2048976, .ifCond .eq 25, .iload 3, .ireturn, .iinc 3 1, .goto 11, .iconst (-1), .ireturn]
def ps_258 : List Nat := [0, 1, 2, 5, 8, 10, 11, 12, 13, 14, 17, 18, 19, 20, 23, 25, 26, 29, 30, 31, 32, 33, 36, 39, 40, 41, 44, 47, 48]
theorem ck_258 : xChkM 12 false (some .int) prog_14_method_59_code cd_258 ps_258 = true := xChkN_ok 0xac02e6ffa7010384ac1d0500996b01b61c1d1b2a1500a32e07100d00b42a1d3e2501b6031b2aacfe1006009a4401b61b2a 49 0x0030002f002c002900280027002400210020001f001e001d001a001900170014001300120011000e000d000c000b000a00080005000200010000 29 (by decide +kernel)
/-- LastCloudModel.tour(IIZ)I -/
def cd_259 : List Instr := [.aload 0, .iload 1, .iload 2, .invokevirtual 2032972, .ifCond .ne 7, .iconst (-2), .ireturn, .iconst 0, .istore 4, .iconst 0, .istore 5, .iload 5, .aload 0, .getfield 12012, .iconst 1, .iaload, 
  .if_icmp .ge 46, .aload 0, .iload 1, .iload 2, .iload 3, .invokevirtual 2024979, .aload 0, .getfield 12232, .iload 5, .iaload, .istore 6, .iload 4, .iload 6, .iconst (-1), .if_icmp .eq 41, .aload 0, 
  .iload 5, .iload 6, .iload 3, .invokevirtual 2048976, .ifCond .eq 41, .iconst 1, .iload 5, .ishl, .goto 42, .iconst 0, .ior, .istore 4, .iinc 5 1, .goto 11, .iload 4, .ireturn]
def ps_259 : List Nat := [0, 1, 2, 3, 6, 9, 11, 12, 13, 15, 16, 18, 20, 21, 24, 25, 26, 29, 30, 31, 32, 33, 36, 37, 40, 42, 43, 45, 47, 49, 50, 53, 54, 56, 58, 59, 62, 65, 66, 68, 69, 72, 73, 74, 76, 79, 82, 84]
theorem ck_259 : xChkM 12 false (some .int) prog_14_method_60_code cd_259 ps_259 = true := xChkN_ok 0xac0415c3ffa7010584043680030400a7780515040a00996b01b61d061505152a16009f020615041506362e05153100b42a6701b61d1c1b2a3800a22e040d00b42a0515053603043603acfe1006009a6401b61c1b2a 85 0x00540052004f004c004a004900480045004400420041003e003b003a00380036003500320031002f002d002b002a00280025002400210020001f001e001d001a001900180015001400120010000f000d000c000b000900060003000200010000 48 (by decide +kernel)
/-- LastCloudModel.street()I -/
def cd_260 : List Instr := [.aload 0, .invokevirtual 2000967, .iconst 0, .istore 1, .iload 1, .iconst 2048, .if_icmp .ge 14, .aload 0, .getfield 12252, .iload 1, .iconst 0, .castore, .iinc 1 1, .goto 4, .iconst 0, .istore 1, 
  .iload 1, .aload 0, .getfield 12012, .iconst 1, .iaload, .if_icmp .ge 35, .aload 0, .getfield 12252, .iconst 8, .iconst 1, .iload 1, .ishl, .imul, .iload 1, .iadd, .iconst 1, .castore, .iinc 1 1, 
  .goto 16, .iconst 0, .istore 1, .iconst 1, .istore 2, .iload 2, .iconst 256, .if_icmp .ge 128, .iconst 0, .istore 3, .iload 3, .aload 0, .getfield 12012, .iconst 1, .iaload, .if_icmp .ge 126, .aload 0, 
  .getfield 12252, .iconst 8, .iload 2, .imul, .iload 3, .iadd, .caload, .ifCond .ne 60, .goto 124, .iload 1, .iload 2, .invokestatic 1839924, .dadd, .istore 1, .iconst 0, .istore 4, .iload 4, .aload 0, 
  .getfield 12202, .iconst 2, .iload 3, .imul, .iaload, .if_icmp .ge 124, .iconst 600, .iload 3, .imul, .iconst 5, .iload 4, .imul, .iadd, .istore 5, .aload 0, .getfield 12212, .iload 5, .iconst 4, 
  .iadd, .iaload, .ifCond .gt 122, .iload 2, .aload 0, .getfield 12212, .iload 5, .iconst 2, .iadd, .iaload, .invokestatic 1623928, .ifCond .ne 122, .aload 0, .getfield 12252, .iconst 8, .iload 2, 
  .iconst 1, .aload 0, .getfield 12212, .iload 5, .iconst 2, .iadd, .iaload, .ishl, .ior, .imul, .aload 0, .getfield 12212, .iload 5, .iconst 2, .iadd, .iaload, .iadd, .iconst 1, .castore, .iinc 4 1, 
  .goto 67, .iinc 3 1, .goto 44, .iinc 2 1, .goto 39, .iload 1, .ireturn]
def ps_260 : List Nat := [0, 1, 4, 5, 6, 7, 10, 13, 14, 17, 18, 19, 20, 23, 26, 27, 28, 29, 30, 33, 34, 35, 38, 39, 42, 44, 45, 46, 47, 48, 49, 50, 51, 52, 55, 58, 59, 60, 61, 62, 63, 66, 69, 70, 71, 72, 73, 76, 77, 78, 81, 82, 
  85, 87, 88, 89, 90, 91, 92, 95, 98, 99, 100, 103, 106, 107, 108, 110, 112, 113, 116, 117, 118, 119, 120, 123, 126, 127, 128, 129, 131, 132, 133, 135, 136, 139, 141, 142, 143, 144, 147, 148, 149, 152, 
  154, 155, 156, 157, 160, 163, 164, 167, 169, 170, 171, 172, 175, 177, 178, 179, 180, 181, 182, 183, 184, 187, 189, 190, 191, 192, 193, 194, 195, 198, 201, 204, 207, 210, 213, 214]
theorem ck_260 : xChkM 12 false (some .int) prog_14_method_61_code cd_260 ps_260 = true := xChkN_ok 0xac1b6cffa70102847bffa7010384a8ffa70104845404602e600505152e00b42a6880782e600505152e00b42a041c08103700b42a23009ae800b82e600505152e00b42a1c33009d2e600705152e00b42a05366068041508681d5802115100a22e681d052b00b42a04150436033c2801b80e01b81c1b6a00a706009a33601d681c08103700b42a8100a22e040d00b42a1d3e039300a20001111c3d043c03e5ffa70101845404601b68781b0408103700b42a1700a22e040d00b42a1b3c03efffa701018454031b3700b42a1000a20008111b3c035e01b62a 215 0x00d600d500d200cf00cc00c900c600c300c200c100c000bf00be00bd00bb00b800b700b600b500b400b300b200b100af00ac00ab00aa00a900a700a400a300a0009d009c009b009a00980095009400930090008f008e008d008b0088008700850084008300810080007f007e007b0078007700760075007400710070006e006c006b006a0067006400630062005f005c005b005a005900580057005500520051004e004d004c004900480047004600450042003f003e003d003c003b003a003700340033003200310030002f002e002d002c002a00270026002300220021001e001d001c001b001a00170014001300120011000e000d000a000700060005000400010000 130 (by decide +kernel)
/-- LastCloudModel.fastOf(I)I -/
def cd_261 : List Instr := [.iconst (-1), .istore 2, .iconst 0, .istore 3, .iload 3, .aload 0, .getfield 12012, .iconst 3, .iaload, .if_icmp .ge 57, .iconst 144, .iconst 2, .iload 3, .imul, .iadd, .istore 4, .iconst 144, 
  .iconst 2, .iload 2, .imul, .iadd, .istore 5, .iload 2, .iconst (-1), .if_icmp .eq 53, .aload 0, .getfield 12012, .iload 4, .iaload, .iload 1, .aload 0, .getfield 12012, .iload 5, .iconst 1, .iadd, 
  .iaload, .iadd, .imul, .aload 0, .getfield 12012, .iload 5, .iaload, .iload 1, .aload 0, .getfield 12012, .iload 4, .iconst 1, .iadd, .iaload, .iadd, .imul, .if_icmp .gt 53, .goto 55, .iload 3, 
  .istore 2, .iinc 3 1, .goto 4, .iload 2, .ireturn]
def ps_261 : List Nat := [0, 1, 2, 3, 4, 5, 6, 9, 10, 11, 14, 17, 18, 19, 20, 21, 23, 26, 27, 28, 29, 30, 32, 33, 34, 37, 38, 41, 43, 44, 45, 46, 49, 51, 52, 53, 54, 55, 56, 57, 60, 62, 63, 64, 65, 68, 70, 71, 72, 73, 74, 75, 
  78, 81, 82, 83, 86, 89, 90]
theorem ck_261 : xChkM 12 false (some .int) prog_14_method_62_code cd_261 ps_261 = true := xChkN_ok 0xac1caeffa70103843d1d0500a70600a368602e600404150d00b42a1b2e05150d00b42a68602e600405150d00b42a1b2e04150d00b42a2f009f021c053660681c05900011043660681d059000114e00a22e060d00b42a1d3e033d02 91 0x005a00590056005300520051004e004b004a0049004800470046004400410040003f003e003c00390038003700360035003400330031002e002d002c002b002900260025002200210020001e001d001c001b001a001700150014001300120011000e000b000a00090006000500040003000200010000 59 (by decide +kernel)
/-- LastCloudModel.isClimb(I)Z -/
def cd_262 : List Instr := [.iload 0, .i2l, .jsr 1, .jsr 2000, .invokestatic 1615932, .freturn]
def ps_262 : List Nat := [0, 1, 2, 3, 6, 9]
theorem ck_262 : xChkM 12 false (some .boolean) prog_14_method_63_code cd_262 ps_262 = true := xChkN_ok 0xac7500b86f01140a851a 10 0x000900060003000200010000 6 (by decide +kernel)
/-- LastCloudModel.fast(I)I -/
def cd_263 : List Instr := [.iload 1, .invokestatic 2103924, .ifCond .eq 7, .aload 0, .iload 1, .invokevirtual 2088968, .goto 8, .iconst (-2), .ireturn]
def ps_263 : List Nat := [0, 1, 4, 7, 8, 9, 12, 15, 17]
theorem ck_263 : xChkM 12 false (some .int) prog_14_method_64_code cd_263 ps_263 = true := xChkN_ok 0xacfe100500a77401b61b2a0b00997101b81b 18 0x0011000f000c000900080007000400010000 9 (by decide +kernel)
/-- LastCloudModel.average(I)I -/
def cd_264 : List Instr := [.iload 1, .invokestatic 2103924, .ifCond .ne 5, .iconst (-2), .ireturn, .aload 0, .iload 1, .invokevirtual 2088968, .istore 2, .iload 2, .iconst (-1), .if_icmp .ne 14, .iconst (-1), .goto 39, 
  .iconst 10, .aload 0, .getfield 12012, .iconst 144, .iconst 2, .iload 2, .imul, .iadd, .iaload, .imul, .iload 1, .imul, .iload 1, .aload 0, .getfield 12012, .iconst 144, .iconst 2, .iload 2, .imul, 
  .iadd, .iconst 1, .iadd, .iaload, .iadd, .idiv, .ireturn]
def ps_264 : List Nat := [0, 1, 4, 7, 9, 10, 11, 12, 15, 16, 17, 18, 21, 22, 25, 27, 28, 31, 34, 35, 36, 37, 38, 39, 40, 41, 42, 43, 44, 47, 50, 51, 52, 53, 54, 55, 56, 57, 58, 59]
theorem ck_264 : xChkM 12 false (some .int) prog_14_method_65_code cd_264 ps_264 = true := xChkN_ok 0xac6c602e600460681c059000110d00b42a1b681b682e60681c059000110d00b42a0a102500a7020700a0021c3d7401b61b2aacfe1006009a7101b81b 60 0x003b003a00390038003700360035003400330032002f002c002b002a00290028002700260025002400230022001f001c001b001900160015001200110010000f000c000b000a00090007000400010000 40 (by decide +kernel)
/-- LastCloudModel.farthest()I -/
def cd_265 : List Instr := [.iconst (-1), .istore 1, .iconst 0, .istore 2, .iload 2, .aload 0, .getfield 12012, .iconst 3, .iaload, .if_icmp .ge 53, .iconst 144, .iconst 2, .iload 2, .imul, .iadd, .istore 3, .iconst 144, 
  .iconst 2, .iload 1, .imul, .iadd, .istore 4, .iload 1, .iconst (-1), .if_icmp .eq 49, .aload 0, .getfield 12012, .iload 3, .iaload, .aload 0, .getfield 12012, .iload 4, .iconst 1, .iadd, .iaload, 
  .imul, .aload 0, .getfield 12012, .iload 4, .iaload, .aload 0, .getfield 12012, .iload 3, .iconst 1, .iadd, .iaload, .imul, .if_icmp .gt 49, .goto 51, .iload 2, .istore 1, .iinc 2 1, .goto 4, .iload 1, 
  .ireturn]
def ps_265 : List Nat := [0, 1, 2, 3, 4, 5, 6, 9, 10, 11, 14, 17, 18, 19, 20, 21, 22, 25, 26, 27, 28, 29, 31, 32, 33, 36, 37, 40, 41, 42, 43, 46, 48, 49, 50, 51, 52, 53, 56, 58, 59, 60, 63, 64, 65, 66, 67, 68, 71, 74, 75, 76, 
  79, 82, 83]
theorem ck_265 : xChkM 12 false (some .int) prog_14_method_66_code cd_265 ps_265 = true := xChkN_ok 0xac1bb5ffa70102843c1c0500a70600a3682e60041d0d00b42a2e04150d00b42a682e600404150d00b42a2e1d0d00b42a29009f021b043660681b059000113e60681c059000114700a22e060d00b42a1c3d033c02 84 0x00530052004f004c004b004a004700440043004200410040003f003c003b003a0038003500340033003200310030002e002b002a002900280025002400210020001f001d001c001b001a0019001600150014001300120011000e000b000a00090006000500040003000200010000 55 (by decide +kernel)
/-- LastCloudModel.forgets()V -/
def cd_266 : List Instr := [.aload 0, .iconst (-1), .putfield 12290, .aload 0, .iconst 0, .putfield 12223, .iconst 0, .istore 1, .iload 1, .iconst 976, .if_icmp .ge 18, .aload 0, .getfield 12242, .iload 1, .iconst (-1), .iastore, 
  .iinc 1 1, .goto 8, .return_]
def ps_266 : List Nat := [0, 1, 2, 5, 6, 7, 10, 11, 12, 13, 16, 19, 20, 23, 24, 25, 26, 29, 32]
theorem ck_266 : xChkM 12 false none prog_14_method_67_code cd_266 ps_266 = true := xChkN_ok 0xb1efffa70101844f021b3400b42a1000a2d003111b3c035701b5032a4400b5022a 33 0x0020001d001a001900180017001400130010000d000c000b000a000700060005000200010000 19 (by decide +kernel)
/-- LastCloudModel.state(IIIII)I -/
def cd_267 : List Instr := [.iconst 61, .iload 0, .imul, .iload 1, .iadd, .iconst 48, .imul, .iload 2, .iadd, .iconst 4, .imul, .iconst 2, .iload 3, .imul, .iadd, .iload 4, .iadd, .ireturn]
def ps_267 : List Nat := [0, 2, 3, 4, 5, 6, 8, 9, 10, 11, 12, 13, 14, 15, 16, 17, 19, 20]
theorem ck_267 : xChkM 12 false (some .int) prog_14_method_68_code cd_267 ps_267 = true := xChkN_ok 0xac60041560681d056807601c683010601b681a3d10 21 0x0014001300110010000f000e000d000c000b000a00090008000600050004000300020000 18 (by decide +kernel)
/-- LastCloudModel.landingOf(II)I -/
def cd_268 : List Instr := [.aload 0, .iload 1, .iconst 1, .invokevirtual 1664972, .istore 3, .iload 3, .iconst 2, .if_icmp .ne 13, .aload 0, .getfield 12012, .iconst 9, .iaload, .goto 17, .aload 0, .iload 1, .iconst 2, 
  .invokevirtual 1664972, .istore 4, .iload 3, .ifCond .ne 26, .aload 0, .getfield 12012, .iconst 11, .iaload, .ineg, .goto 34, .iload 4, .aload 0, .getfield 12012, .iconst 10, .iaload, .iload 2, .imul, 
  .isub, .ireturn]
def ps_268 : List Nat := [0, 1, 2, 3, 6, 7, 8, 9, 12, 13, 16, 18, 19, 22, 23, 24, 25, 28, 30, 31, 34, 35, 38, 40, 41, 42, 45, 47, 48, 51, 53, 54, 55, 56, 57]
theorem ck_268 : xChkM 12 false (some .int) prog_14_method_69_code cd_268 ps_268 = true := xChkN_ok 0xac64681c2e0a100d00b42a04150f00a7742e0b100d00b42a0e009a1d04362501b6051b2a0900a72e09100d00b42a0d00a0051d3e2501b6041b2a 58 0x0039003800370036003500330030002f002d002a00290028002600230022001f001e001c0019001800170016001300120010000d000c00090008000700060003000200010000 35 (by decide +kernel)
/-- LastCloudModel.higher(III)I -/
def cd_269 : List Instr := [.aload 0, .getfield 12012, .iconst 7, .iaload, .iload 2, .aload 0, .iload 1, .iload 3, .iconst 1, .if_icmp .ne 12, .iconst 1, .goto 13, .iconst 0, .invokevirtual 1928972, .iadd, .dsub, .ireturn]
def ps_269 : List Nat := [0, 1, 4, 6, 7, 8, 9, 10, 11, 12, 15, 16, 19, 20, 23, 24, 27]
theorem ck_269 : xChkM 12 false (some .int) prog_14_method_70_code cd_269 ps_269 = true := xChkN_ok 0xac9800b8604701b6030400a7040700a0041d1b2a1c2e07100d00b42a 28 0x001b00180017001400130010000f000c000b000a0009000800070006000400010000 17 (by decide +kernel)
