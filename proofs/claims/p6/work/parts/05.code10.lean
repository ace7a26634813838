/-- LastCloudModel.mixed([IIIII)I -/
def cd_270 : List Instr := [.aload 0, .iload 2, .invokevirtual 1960968, .istore 6, .iload 6, .aload 1, .iload 2, .iload 3, .iload 4, .iconst 1, .iload 5, .invokestatic 2143940, .iaload, .imul, .iconst 100, .iload 6, .isub, 
  .aload 1, .iload 2, .iload 3, .iload 4, .iconst 0, .iload 5, .invokestatic 2143940, .iaload, .imul, .iadd, .iconst 100, .idiv, .ireturn]
def ps_270 : List Nat := [0, 1, 2, 5, 7, 9, 10, 11, 12, 14, 15, 17, 20, 21, 22, 24, 26, 27, 28, 29, 30, 32, 33, 35, 38, 39, 40, 41, 43, 44]
theorem ck_270 : xChkM 12 false (some .int) prog_14_method_71_code cd_270 ps_270 = true := xChkN_ok 0xac6c641060682e7a01b805150304151d1c2b6406156410682e7a01b805150404151d1c2b061506367701b61c2a 45 0x002c002b0029002800270026002300210020001e001d001c001b001a00180016001500140011000f000e000c000b000a000900070005000200010000 30 (by decide +kernel)
/-- LastCloudModel.isRuled(IIII)Z -/
def cd_271 : List Instr := [.iload 1, .iconst 1, .if_icmp .ne 23, .aload 0, .aload 0, .getfield 12212, .iload 2, .iconst 2, .iadd, .iaload, .iload 3, .iload 4, .iconst 1, .if_icmp .ne 16, .iconst 1, .goto 17, .iconst 0, 
  .invokevirtual 2048976, .ifCond .eq 21, .iconst 1, .goto 22, .iconst 0, .freturn, .iload 1, .iconst 3, .if_icmp .ne 42, .aload 0, .getfield 12212, .iload 2, .iconst 1, .iadd, .iaload, .aload 0, 
  .getfield 12302, .aload 0, .getfield 12212, .iload 2, .iconst 2, .iadd, .iaload, .iaload, .if_icmp .ne 44, .iconst 1, .goto 45, .iconst 0, .freturn]
def ps_271 : List Nat := [0, 1, 2, 5, 6, 7, 10, 11, 12, 13, 14, 15, 17, 18, 21, 22, 25, 26, 29, 32, 33, 36, 37, 38, 39, 40, 43, 44, 47, 48, 49, 50, 51, 52, 55, 56, 59, 60, 61, 62, 63, 64, 67, 68, 71, 72]
theorem ck_271 : xChkM 12 false (some .boolean) prog_14_method_72_code cd_271 ps_271 = true := xChkN_ok 0xac030400a7040700a02e2e60051c2e00b42a4700b42a2e60041c2e00b42a1b00a0061bac030400a7040700996b01b6030400a7040700a00404151d2e60051c2e00b42a2a2400a0041b 73 0x00480047004400430040003f003e003d003c003b0038003700340033003200310030002f002c002b0028002700260025002400210020001d001a00190016001500120011000f000e000d000c000b000a000700060005000200010000 46 (by decide +kernel)
/-- LastCloudModel.looks(IIIIII)V -/
def cd_272 : List Instr := [.iload 2, .iload 3, .iload 4, .iload 5, .iload 6, .invokestatic 2143940, .istore 7, .aload 0, .iload 2, .iconst 1, .invokevirtual 1664972, .iconst 2, .if_icmp .ne 15, .iconst 1, .goto 16, .iconst 0, 
  .istore 8, .aload 0, .getfield 12262, .iload 7, .iload 1, .iconst 2, .if_icmp .ne 31, .iload 8, .ifCond .eq 29, .iconst 10000, .iload 4, .isub, .goto 35, .iconst 0, .goto 35, .aload 0, .iload 2, 
  .iload 4, .invokevirtual 2144972, .iastore, .aload 0, .getfield 12272, .iload 7, .iconst (-1), .iastore, .aload 0, .getfield 12282, .iload 7, .iload 8, .ifCond .eq 48, .iconst 10000, .goto 49, 
  .iconst 0, .iastore, .aload 0, .iload 2, .iload 3, .iload 6, .invokevirtual 2152976, .istore 9, .iload 5, .iconst 1, .if_icmp .ne 80, .iload 4, .aload 0, .getfield 12012, .iconst 8, .iaload, 
  .if_icmp .ge 80, .iload 9, .iload 3, .if_icmp .le 80, .aload 0, .iload 7, .iload 2, .iload 9, .iload 4, .iconst 1, .iadd, .iconst 1, .iload 6, .invokestatic 2143940, .iconst 0, .invokevirtual 2184979, 
  .iload 6, .iconst 1, .if_icmp .ne 93, .aload 0, .iload 7, .iload 2, .iload 3, .iload 4, .iload 5, .iconst 0, .invokestatic 2143940, .iconst 1, .invokevirtual 2184979, .iconst 2, .iload 2, .imul, 
  .iload 6, .iadd, .istore 10, .iconst 0, .istore 11, .iload 11, .aload 0, .getfield 12202, .iload 10, .iaload, .if_icmp .ge 212, .iconst 300, .iload 10, .imul, .iconst 5, .iload 11, .imul, .iadd, 
  .istore 12, .iload 4, .aload 0, .getfield 12212, .iload 12, .iconst 3, .iadd, .iaload, .iadd, .istore 13, .iload 13, .aload 0, .getfield 12012, .iconst 8, .iaload, .if_icmp .le 132, .iconst (-1), 
  .goto 136, .aload 0, .iload 12, .iload 3, .invokevirtual 2016972, .istore 14, .iload 14, .iconst (-1), .if_icmp .eq 210, .aload 0, .iload 1, .iload 12, .iload 14, .iload 6, .invokevirtual 2168980, 
  .ifCond .ne 148, .goto 210, .aload 0, .aload 0, .getfield 12262, .aload 0, .getfield 12212, .iload 12, .iconst 2, .iadd, .iaload, .iload 14, .iload 13, .iload 6, .invokevirtual 2160984, .istore 15, 
  .iload 15, .aload 0, .getfield 12262, .iload 7, .iaload, .if_icmp .gt 169, .goto 210, .aload 0, .getfield 12262, .iload 7, .iload 15, .iastore, .aload 0, .getfield 12272, .iload 7, .iconst 100, 
  .iconst 10, .aload 0, .getfield 12212, .iload 12, .iaload, .imul, .iadd, .aload 0, .getfield 12212, .iload 12, .iconst 1, .iadd, .iaload, .iadd, .iastore, .aload 0, .getfield 12282, .iload 7, .aload 0, 
  .aload 0, .getfield 12282, .aload 0, .getfield 12212, .iload 12, .iconst 2, .iadd, .iaload, .iload 14, .iload 13, .iload 6, .invokevirtual 2160984, .iastore, .iinc 11 1, .goto 101, .return_]
def ps_272 : List Nat := [0, 1, 2, 4, 6, 8, 11, 13, 14, 15, 16, 19, 20, 23, 24, 27, 28, 30, 31, 34, 36, 37, 38, 41, 43, 46, 49, 51, 52, 55, 56, 59, 60, 61, 63, 66, 67, 68, 71, 73, 74, 75, 76, 79, 81, 83, 86, 89, 92, 93, 94, 95, 
  96, 97, 99, 102, 104, 106, 107, 110, 112, 113, 116, 118, 119, 122, 124, 125, 128, 129, 131, 132, 134, 136, 137, 138, 139, 141, 144, 145, 148, 150, 151, 154, 155, 157, 158, 159, 161, 163, 164, 167, 168, 
  171, 172, 173, 174, 176, 177, 179, 180, 182, 184, 185, 188, 190, 191, 194, 197, 199, 200, 201, 203, 204, 205, 207, 209, 210, 213, 215, 216, 217, 218, 219, 221, 223, 224, 227, 229, 230, 233, 234, 237, 
  238, 240, 241, 244, 246, 248, 249, 252, 253, 254, 256, 258, 260, 263, 266, 269, 270, 271, 274, 275, 278, 280, 281, 282, 283, 285, 287, 289, 292, 294, 296, 297, 300, 302, 303, 306, 309, 310, 313, 315, 
  317, 318, 319, 322, 324, 326, 328, 329, 332, 334, 335, 336, 337, 338, 341, 343, 344, 345, 346, 347, 348, 349, 352, 354, 355, 356, 359, 360, 363, 365, 366, 367, 368, 370, 372, 374, 377, 378, 381, 384]
theorem ck_272 : xChkM 12 false none prog_14_method_73_code cd_272 ps_272 = true := xChkN_ok 0xb139ffa7010b844f8c01b606150d150e152e60050c152e00b42a4100b42a2a07154100b42a4f602e60040c152e00b42a60682e0c152e00b42a0a10641007153e00b42a4f0f1507153b00b42a4800a70600a32e07153b00b42a0f150f368c01b606150d150e152e60050c152e00b42a3b00b42a2a7000a706009a8801b606150e150c151b2a81009f020e150e366101b61d0c152a0a00a7020700a42e08100d00b42a0d150d36602e60060c152e00b42a04150c3660680b1508680a152c0111c100a22e0a152b00b42a0b150b36030a36600615681c058401b6047a01b803051504151d1c07152a1400a00406158401b6037a01b80615046004041509151c07152a1700a41d09151d00a22e08100d00b42a04152900a004051509368101b606151d1c2a4f030400a7102711090099081507154100b42a4f0207153e00b42a4f7e01b604151c2a0a00a7030e00a76404151027110c009908151500a0051b07153b00b42a0836030400a7040700a0052501b6041c2a07367a01b80615051504151d1c 385 0x0180017d017a01790176017401720170016f016e016d016b016801670164016301620160015d015c015b015a0159015801570155015201510150014f014e014c01490148014601440142013f013e013d013b0139013601350132012f012e012c01290128012601240121011f011d011b011a01190118011601130112010f010e010d010a010701040102010000fe00fd00fc00f900f800f600f400f100f000ee00ed00ea00e900e600e500e300e000df00dd00db00da00d900d800d700d500d200d100cf00cd00cc00cb00c900c800c700c500c200bf00be00bc00b900b800b600b400b300b100b000ae00ad00ac00ab00a800a700a400a300a1009f009e009d009b009a00970096009400910090008d008b008a0089008800860084008300810080007d007c007a00770076007400710070006e006b006a00680066006300610060005f005e005d005c0059005600530051004f004c004b004a00490047004400430042003f003d003c003b00380037003400330031002e002b00290026002500240022001f001e001c001b00180017001400130010000f000e000d000b000800060004000200010000 213 (by decide +kernel)
/-- LastCloudModel.takesOver(III)V -/
def cd_273 : List Instr := [.aload 0, .getfield 12262, .iload 2, .iaload, .aload 0, .getfield 12262, .iload 1, .iaload, .if_icmp .gt 10, .return_, .aload 0, .getfield 12262, .iload 1, .aload 0, .getfield 12262, .iload 2, .iaload, 
  .iastore, .aload 0, .getfield 12272, .iload 1, .iload 3, .iastore, .aload 0, .getfield 12282, .iload 1, .aload 0, .getfield 12282, .iload 2, .iaload, .iastore, .return_]
def ps_273 : List Nat := [0, 1, 4, 5, 6, 7, 10, 11, 12, 15, 16, 17, 20, 21, 22, 25, 26, 27, 28, 29, 32, 33, 34, 35, 36, 39, 40, 41, 44, 45, 46, 47]
theorem ck_273 : xChkM 12 false none prog_14_method_74_code cd_273 ps_273 = true := xChkN_ok 0xb14f2e1c4100b42a1b4100b42a4f1d1b3e00b42a4f2e1c3b00b42a1b3b00b42ab10400a32e1b3b00b42a2e1c3b00b42a 48 0x002f002e002d002c00290028002700240023002200210020001d001c001b001a001900160015001400110010000f000c000b000a000700060005000400010000 32 (by decide +kernel)
/-- LastCloudModel.solves(I)V -/
def cd_274 : List Instr := [.aload 0, .getfield 12290, .iload 1, .if_icmp .ne 5, .return_, .aload 0, .invokevirtual 2000967, .iconst 0, .istore 2, .iload 2, .aload 0, .getfield 12012, .iconst 1, .iaload, .if_icmp .ge 42, 
  .aload 0, .getfield 12302, .iload 2, .aload 0, .aload 0, .iload 2, .iconst 3, .invokevirtual 1664972, .iconst 1, .if_icmp .ne 37, .iconst 1, .aload 0, .iload 2, .iconst 5, .invokevirtual 1664972, 
  .aload 0, .getfield 12012, .iconst 5, .iaload, .isub, .dadd, .goto 38, .iconst 100, .invokevirtual 2088968, .iastore, .iinc 2 1, .goto 9, .aload 0, .getfield 12012, .iconst 8, .iaload, .istore 2, 
  .iload 2, .ifCond .lt 103, .iconst 0, .istore 3, .iload 3, .aload 0, .getfield 12012, .iconst 6, .iaload, .ifCond .le 59, .iconst 1, .goto 60, .iconst 0, .if_icmp .gt 101, .iconst 0, .istore 4, 
  .iload 4, .aload 0, .getfield 12012, .iconst 1, .iaload, .if_icmp .ge 99, .aload 0, .iload 4, .iconst 0, .invokevirtual 1664972, .istore 5, .iload 5, .aload 0, .getfield 12012, .iconst 7, .iaload, 
  .if_icmp .gt 97, .iconst 0, .istore 6, .iload 6, .iconst 2, .if_icmp .ge 95, .aload 0, .iload 1, .iload 4, .iload 5, .iload 2, .iload 6, .iload 3, .invokevirtual 2176991, .iinc 6 1, .goto 82, 
  .iinc 5 1, .goto 74, .iinc 4 1, .goto 63, .iinc 3 1, .goto 51, .iinc 2 (-1), .goto 47, .aload 0, .iload 1, .putfield 12290, .return_]
def ps_274 : List Nat := [0, 1, 4, 5, 8, 9, 10, 13, 14, 15, 16, 17, 20, 21, 22, 25, 26, 29, 30, 31, 32, 33, 34, 37, 38, 41, 42, 43, 44, 45, 48, 49, 52, 53, 54, 55, 58, 61, 63, 66, 67, 70, 73, 74, 77, 79, 80, 81, 82, 85, 86, 87, 
  88, 89, 92, 94, 95, 98, 99, 102, 103, 106, 107, 109, 111, 112, 115, 116, 117, 120, 121, 123, 124, 127, 129, 131, 132, 135, 137, 138, 141, 142, 144, 146, 147, 150, 151, 152, 154, 156, 157, 159, 160, 
  163, 166, 169, 172, 175, 178, 181, 184, 187, 190, 193, 194, 195, 198]
theorem ck_274 : xChkM 12 false none prog_14_method_75_code cd_274 ps_274 = true := xChkN_ok 0xb14400b51b2a93ffa7ff02849fffa7010384bbffa7010484d5ffa7010584eaffa70106849001b61d06151c051504151b2a1600a20506150636032500a32e07100d00b42a051505362501b60304152a4000a22e040d00b42a04150436035400a3030400a70407009e2e06100d00b42a1d3e036f009b1c3d2e08100d00b42ac9ffa70102844f7401b664100500a72801b8642e080d00b42a2501b6081c2a041700a0042501b6061c2a2a1c4700b42a3300a22e040d00b42a1c3d035e01b62ab10400a01b4400b42a 199 0x00c600c300c200c100be00bb00b800b500b200af00ac00a900a600a300a0009f009d009c009a009800970096009300920090008e008d008a00890087008400830081007f007c007b007900780075007400730070006f006d006b006a0067006600630062005f005e005c00590058005700560055005200510050004f004d004a0049004600430042003f003d003a003700360035003400310030002d002c002b002a002900260025002200210020001f001e001d001a001900160015001400110010000f000e000d000a000900080005000400010000 107 (by decide +kernel)
/-- LastCloudModel.isRule(I)Z -/
def cd_275 : List Instr := [.iload 0, .i2l, .jsr 0, .jsr 3, .invokestatic 1615932, .freturn]
def ps_275 : List Nat := [0, 1, 2, 3, 6, 9]
theorem ck_275 : xChkM 12 false (some .boolean) prog_14_method_76_code cd_275 ps_275 = true := xChkN_ok 0xac7500b855011409851a 10 0x000900060003000200010000 6 (by decide +kernel)
/-- LastCloudModel.isState(IIIZ)Z -/
def cd_276 : List Instr := [.aload 0, .iload 1, .iload 2, .invokevirtual 2032972, .ifCond .eq 24, .iload 3, .i2l, .jsr 0, .aload 0, .getfield 12012, .iconst 8, .iaload, .i2l, .invokestatic 1615932, .ifCond .eq 24, .iload 4, 
  .ifCond .eq 22, .aload 0, .getfield 12012, .iconst 6, .iaload, .ifCond .le 24, .iconst 1, .goto 25, .iconst 0, .freturn]
def ps_276 : List Nat := [0, 1, 2, 3, 6, 9, 10, 11, 12, 13, 16, 18, 19, 20, 23, 26, 28, 31, 32, 35, 37, 38, 41, 42, 45, 46]
theorem ck_276 : xChkM 12 false (some .boolean) prog_14_method_77_code cd_276 ps_276 = true := xChkN_ok 0xac030400a70407009e2e06100d00b42a0d009904151600997500b8852e08100d00b42a09851d2700996401b61c1b2a 47 0x002e002d002a00290026002500230020001f001c001a00170014001300120010000d000c000b000a000900060003000200010000 26 (by decide +kernel)
/-- LastCloudModel.bit(Z)I -/
def cd_277 : List Instr := [.iload 0, .ifCond .eq 4, .iconst 1, .goto 5, .iconst 0, .ireturn]
def ps_277 : List Nat := [0, 1, 4, 5, 8, 9]
theorem ck_277 : xChkM 12 false (some .int) prog_14_method_78_code cd_277 ps_277 = true := xChkN_ok 0xac030400a7040700991a 10 0x000900080005000400010000 6 (by decide +kernel)
/-- LastCloudModel.worth(IIIIZZ)I -/
def cd_278 : List Instr := [.iload 1, .invokestatic 2207924, .ifCond .eq 10, .aload 0, .iload 2, .iload 3, .iload 4, .iload 6, .invokevirtual 2208980, .ifCond .ne 12, .iconst (-2000000000), .ireturn, .aload 0, .iload 1, 
  .invokevirtual 2192971, .aload 0, .getfield 12262, .iload 2, .iload 3, .iload 4, .iload 5, .invokestatic 2223924, .iload 6, .invokestatic 2223924, .invokestatic 2143940, .iaload, .ireturn]
def ps_278 : List Nat := [0, 1, 4, 7, 8, 9, 10, 12, 14, 17, 20, 23, 24, 25, 26, 29, 30, 33, 34, 35, 37, 39, 42, 44, 47, 50, 51]
theorem ck_278 : xChkM 12 false (some .int) prog_14_method_79_code cd_278 ps_278 = true := xChkN_ok 0xac2e7a01b89e01b806159e01b8051504151d1c3b00b42a9b01b61b2aac39011307009a9701b6061504151d1c2a1000999401b81b 52 0x00330032002f002c002a00270025002300220021001e001d001a00190018001700140011000e000c000a000900080007000400010000 27 (by decide +kernel)
/-- LastCloudModel.deed(IIIIZZ)I -/
def cd_279 : List Instr := [.iload 1, .invokestatic 2207924, .ifCond .eq 10, .aload 0, .iload 2, .iload 3, .iload 4, .iload 6, .invokevirtual 2208980, .ifCond .ne 12, .iconst (-2), .ireturn, .aload 0, .iload 1, 
  .invokevirtual 2192971, .aload 0, .getfield 12272, .iload 2, .iload 3, .iload 4, .iload 5, .invokestatic 2223924, .iload 6, .invokestatic 2223924, .invokestatic 2143940, .iaload, .ireturn]
def ps_279 : List Nat := [0, 1, 4, 7, 8, 9, 10, 12, 14, 17, 20, 22, 23, 24, 25, 28, 29, 32, 33, 34, 36, 38, 41, 43, 46, 49, 50]
theorem ck_279 : xChkM 12 false (some .int) prog_14_method_80_code cd_279 ps_279 = true := xChkN_ok 0xac2e7a01b89e01b806159e01b8051504151d1c3e00b42a9b01b61b2aacfe1006009a9701b6061504151d1c2a1000999401b81b 51 0x00320031002e002b002900260024002200210020001d001c001900180017001600140011000e000c000a000900080007000400010000 27 (by decide +kernel)
/-- LastCloudModel.home(IIIIZZ)I -/
def cd_280 : List Instr := [.iload 1, .invokestatic 2207924, .ifCond .eq 10, .aload 0, .iload 2, .iload 3, .iload 4, .iload 6, .invokevirtual 2208980, .ifCond .ne 12, .iconst (-2), .ireturn, .aload 0, .iload 1, 
  .invokevirtual 2192971, .aload 0, .getfield 12282, .iload 2, .iload 3, .iload 4, .iload 5, .invokestatic 2223924, .iload 6, .invokestatic 2223924, .invokestatic 2143940, .iaload, .ireturn]
def ps_280 : List Nat := [0, 1, 4, 7, 8, 9, 10, 12, 14, 17, 20, 22, 23, 24, 25, 28, 29, 32, 33, 34, 36, 38, 41, 43, 46, 49, 50]
theorem ck_280 : xChkM 12 false (some .int) prog_14_method_81_code cd_280 ps_280 = true := xChkN_ok 0xac2e7a01b89e01b806159e01b8051504151d1c4100b42a9b01b61b2aacfe1006009a9701b6061504151d1c2a1000999401b81b 51 0x00320031002e002b002900260024002200210020001d001c001900180017001600140011000e000c000a000900080007000400010000 27 (by decide +kernel)
/-- LastCloudModel.hasStart()Z -/
def cd_281 : List Instr := [.aload 0, .getfield 12012, .iconst 12, .iaload, .iconst (-1), .if_icmp .eq 8, .iconst 1, .goto 9, .iconst 0, .freturn]
def ps_281 : List Nat := [0, 1, 4, 6, 7, 8, 11, 12, 15, 16]
theorem ck_281 : xChkM 12 false (some .boolean) prog_14_method_82_code cd_281 ps_281 = true := xChkN_ok 0xac030400a70407009f022e0c100d00b42a 17 0x0010000f000c000b000800070006000400010000 10 (by decide +kernel)
/-- LastCloudModel.startWet()I -/
def cd_282 : List Instr := [.aload 0, .getfield 12012, .iconst 14, .iaload, .iconst 1, .if_icmp .ne 13, .aload 0, .getfield 12012, .iconst 6, .iaload, .ifCond .le 13, .iconst 1, .goto 14, .iconst 0, .ireturn]
def ps_282 : List Nat := [0, 1, 4, 6, 7, 8, 11, 12, 15, 17, 18, 21, 22, 25, 26]
theorem ck_282 : xChkM 12 false (some .int) prog_14_method_83_code cd_282 ps_282 = true := xChkN_ok 0xac030400a70407009e2e06100d00b42a1100a0042e0e100d00b42a 27 0x001a00190016001500120011000f000c000b000800070006000400010000 15 (by decide +kernel)
/-- LastCloudModel.startOf(II)I -/
def cd_283 : List Instr := [.aload 0, .iload 1, .invokevirtual 2192971, .aload 0, .aload 0, .getfield 12262, .aload 0, .getfield 12012, .iconst 12, .iaload, .aload 0, .getfield 12012, .iconst 13, .iaload, .iconst 0, .iload 2, 
  .invokevirtual 2160984, .ireturn]
def ps_283 : List Nat := [0, 1, 2, 5, 6, 7, 10, 11, 14, 16, 17, 18, 21, 23, 24, 25, 26, 29]
theorem ck_283 : xChkM 12 false (some .int) prog_14_method_84_code cd_283 ps_283 = true := xChkN_ok 0xac8c01b61c032e0d100d00b42a2e0c100d00b42a3b00b42a2a9b01b61b2a 30 0x001d001a0019001800170015001200110010000e000b000a000700060005000200010000 18 (by decide +kernel)
/-- LastCloudModel.start(I)I -/
def cd_284 : List Instr := [.iload 1, .invokestatic 2207924, .ifCond .eq 12, .aload 0, .invokevirtual 2248964, .ifCond .eq 12, .aload 0, .iload 1, .aload 0, .invokevirtual 2256964, .invokevirtual 2264972, .goto 13, 
  .iconst (-2000000000), .ireturn]
def ps_284 : List Nat := [0, 1, 4, 7, 8, 11, 14, 15, 16, 17, 20, 23, 26, 29]
theorem ck_284 : xChkM 12 false (some .int) prog_14_method_85_code cd_284 ps_284 = true := xChkN_ok 0xac3901130600a7a801b6a501b62a1b2a0f0099a201b62a1600999401b81b 30 0x001d001a0017001400110010000f000e000b00080007000400010000 14 (by decide +kernel)
/-- LastCloudModel.cost(I)I -/
def cd_285 : List Instr := [.iload 1, .iconst 1, .if_icmp .eq 6, .iload 1, .iconst 3, .if_icmp .ne 9, .aload 0, .invokevirtual 2248964, .ifCond .ne 11, .iconst (-2000000000), .ireturn, .aload 0, .iload 1, .aload 0, 
  .invokevirtual 2256964, .invokevirtual 2264972, .istore 2, .aload 0, .iconst 0, .aload 0, .invokevirtual 2256964, .invokevirtual 2264972, .iload 2, .isub, .ireturn]
def ps_285 : List Nat := [0, 1, 2, 5, 6, 7, 10, 11, 14, 17, 20, 21, 22, 23, 24, 27, 30, 31, 32, 33, 34, 37, 40, 41, 42]
theorem ck_285 : xChkM 12 false (some .int) prog_14_method_86_code cd_285 ps_285 = true := xChkN_ok 0xac641ca801b6a501b62a032a3da801b6a501b62a1b2aac39011307009aa201b62a0a00a0061b08009f041b 43 0x002a002900280025002200210020001f001e001b001800170016001500140011000e000b000a000700060005000200010000 25 (by decide +kernel)
/-- LastCloudModel.leaves(IIZI)I -/
def cd_286 : List Instr := [.aload 0, .iload 1, .invokevirtual 1656968, .ifCond .eq 21, .iload 2, .i2l, .jsr 0, .aload 0, .getfield 12012, .iconst 8, .iaload, .i2l, .invokestatic 1615932, .ifCond .eq 21, .iload 3, .ifCond .eq 23, 
  .aload 0, .getfield 12012, .iconst 6, .iaload, .ifCond .ne 23, .iconst (-2), .ireturn, .aload 0, .iconst 0, .invokevirtual 2192971, .aload 0, .iload 1, .iconst 0, .invokevirtual 1664972, .istore 5, 
  .iload 5, .aload 0, .getfield 12012, .iconst 7, .iaload, .if_icmp .gt 53, .aload 0, .getfield 12272, .iload 1, .iload 5, .iload 2, .iload 4, .iload 3, .invokestatic 2223924, .invokestatic 2143940, 
  .iaload, .iconst 100, .if_icmp .lt 51, .iload 5, .ireturn, .iinc 5 1, .goto 31, .iconst (-1), .ireturn]
def ps_286 : List Nat := [0, 1, 2, 5, 8, 9, 10, 11, 12, 15, 17, 18, 19, 22, 25, 26, 29, 30, 33, 35, 36, 39, 41, 42, 43, 44, 47, 48, 49, 50, 53, 55, 57, 58, 61, 63, 64, 67, 68, 71, 72, 74, 75, 77, 78, 81, 84, 85, 87, 90, 92, 93, 
  96, 99, 100]
theorem ck_286 : xChkM 12 false (some .int) prog_14_method_87_code cd_286 ps_286 = true := xChkN_ok 0xac02d7ffa7010584ac05150600a164102e7a01b89e01b81d04151c05151b3e00b42a2300a32e07100d00b42a051505362501b6031b2a9b01b6032aacfe1006009a2e06100d00b42a1000991d1100997500b8852e08100d00b42a09851c2200994401b61b2a 101 0x006400630060005d005c005a0057005500540051004e004d004b004a00480047004400430040003f003d003a003900370035003200310030002f002c002b002a00290027002400230021001e001d001a00190016001300120011000f000c000b000a000900080005000200010000 55 (by decide +kernel)
/-- LastCloudModel.leave(IIZ)I -/
def cd_287 : List Instr := [.aload 0, .iload 1, .iload 2, .iload 3, .iconst 1, .invokevirtual 2288980, .ireturn]
def ps_287 : List Nat := [0, 1, 2, 3, 4, 5, 8]
theorem ck_287 : xChkM 12 false (some .int) prog_14_method_88_code cd_287 ps_287 = true := xChkN_ok 0xacab01b6041d1c1b2a 9 0x0008000500040003000200010000 7 (by decide +kernel)
/-- LastCloudModel.on(IIZ)I -/
def cd_288 : List Instr := [.aload 0, .iload 1, .iload 2, .iload 3, .iconst 0, .invokevirtual 2288980, .ireturn]
def ps_288 : List Nat := [0, 1, 2, 3, 4, 5, 8]
theorem ck_288 : xChkM 12 false (some .int) prog_14_method_89_code cd_288 ps_288 = true := xChkN_ok 0xacab01b6031d1c1b2a 9 0x0008000500040003000200010000 7 (by decide +kernel)
/-- LastCloudModel.last(II)I -/
def cd_289 : List Instr := [.aload 0, .iload 1, .iload 2, .invokevirtual 2032972, .ifCond .ne 7, .iconst (-2), .ireturn, .aload 0, .iconst 0, .invokevirtual 2192971, .aload 0, .getfield 12012, .iconst 8, .iaload, .istore 3, 
  .iload 3, .ifCond .lt 32, .aload 0, .getfield 12282, .iload 1, .iload 2, .iload 3, .iconst 0, .iconst 0, .invokestatic 2143940, .iaload, .iconst 10000, .if_icmp .ne 30, .iload 3, .ireturn, 
  .iinc 3 (-1), .goto 15, .iconst (-1), .ireturn]
def ps_289 : List Nat := [0, 1, 2, 3, 6, 9, 11, 12, 13, 14, 17, 18, 21, 23, 24, 25, 26, 29, 30, 33, 34, 35, 36, 37, 38, 41, 42, 45, 48, 49, 50, 53, 56, 57]
theorem ck_289 : xChkM 12 false (some .int) prog_14_method_90_code cd_289 ps_289 = true := xChkN_ok 0xac02e4ffa7ff0384ac1d0500a01027112e7a01b803031d1c1b4100b42a1e009b1d3e2e08100d00b42a9b01b6032aacfe1006009a6401b61c1b2a 58 0x003900380035003200310030002d002a0029002600250024002300220021001e001d001a001900180017001500120011000e000d000c000b000900060003000200010000 34 (by decide +kernel)
/-- LastCloudModel.weak(III)I -/
def cd_290 : List Instr := [.aload 0, .iload 1, .iload 2, .iload 3, .iconst 0, .invokevirtual 2208980, .ifCond .ne 9, .iconst (-2), .ireturn, .aload 0, .iload 1, .iconst 3, .invokevirtual 1664972, .ifCond .ne 16, .iconst (-1), 
  .ireturn, .iconst (-1), .istore 4, .aload 0, .iload 1, .putfield 12180, .aload 0, .iconst 0, .putfield 12190, .aload 0, .getfield 12190, .iconst 2000, .if_icmp .gt 57, .iload 4, .iconst (-1), 
  .if_icmp .ne 57, .aload 0, .iconst (-1), .putfield 12290, .aload 0, .iconst 0, .invokevirtual 2192971, .aload 0, .getfield 12272, .iload 1, .iload 2, .iload 3, .iconst 1, .iconst 0, 
  .invokestatic 2143940, .iaload, .ifCond .ne 50, .aload 0, .getfield 12190, .istore 4, .aload 0, .dup, .getfield 12190, .iconst 250, .iadd, .putfield 12190, .goto 24, .aload 0, .iconst (-1), 
  .putfield 12180, .aload 0, .iconst (-1), .putfield 12290, .iload 4, .ireturn]
def ps_290 : List Nat := [0, 1, 2, 3, 4, 5, 8, 11, 13, 14, 15, 16, 17, 20, 23, 24, 25, 26, 28, 29, 30, 33, 34, 35, 38, 39, 42, 45, 48, 50, 51, 54, 55, 56, 59, 60, 61, 64, 65, 68, 69, 70, 71, 72, 73, 76, 77, 80, 81, 84, 86, 87, 
  88, 91, 94, 95, 98, 101, 102, 103, 106, 107, 108, 111, 113]
theorem ck_290 : xChkM 12 false (some .int) prog_14_method_91_code cd_290 ps_290 = true := xChkN_ok 0xac04154400b5022a2800b5022ac4ffa73e01b560fa00113e01b4592a04363e01b42a09009a2e7a01b803041d1c1b3e00b42a9b01b6032a4400b5022a3200a00204153800a3d007113e01b42a3e01b5032a2800b51b2a043602ac0205009a2501b6061b2aacfe1006009a9701b6031d1c1b2a 114 0x0071006f006c006b006a0067006600650062005f005e005b005800570056005400510050004d004c00490048004700460045004400410040003d003c003b003800370036003300320030002d002a00270026002300220021001e001d001c001a001900180017001400110010000f000e000d000b0008000500040003000200010000 65 (by decide +kernel)
/-- LastCloudModel.endsBehind(IIIIZ)I -/
def cd_291 : List Instr := [.aload 0, .iload 1, .invokevirtual 1960968, .istore 6, .aload 0, .getfield 12312, .iload 1, .iload 2, .iload 3, .iconst 1, .iload 4, .invokestatic 2143940, .iaload, .istore 7, .aload 0, 
  .getfield 12312, .iload 1, .iload 2, .iload 3, .iconst 0, .iload 4, .invokestatic 2143940, .iaload, .istore 8, .iload 6, .ifCond .ne 28, .iload 8, .ireturn, .iload 6, .iconst 100, .if_icmp .ne 33, 
  .iload 7, .ireturn, .iload 5, .ifCond .eq 39, .iload 7, .iload 8, .dadd, .goto 42, .iload 7, .iload 8, .dsub, .ireturn]
def ps_291 : List Nat := [0, 1, 2, 5, 7, 8, 11, 12, 13, 14, 15, 17, 20, 21, 23, 24, 27, 28, 29, 30, 31, 33, 36, 37, 39, 41, 44, 46, 47, 49, 51, 54, 56, 57, 59, 62, 64, 66, 69, 72, 74, 76, 79]
theorem ck_291 : xChkM 12 false (some .int) prog_14_method_92_code cd_291 ps_291 = true := xChkN_ok 0xac9800b8081507150a00a72801b8081507150d00990515ac07150600a064100615ac081506009a061508362e7a01b80415031d1c1b4a00b42a07362e7a01b80415041d1c1b4a00b42a06367701b61b2a 80 0x004f004c004a0048004500420040003e003b00390038003600330031002f002e002c00290027002500240021001f001e001d001c001b00180017001500140011000f000e000d000c000b000800070005000200010000 43 (by decide +kernel)
/-- LastCloudModel.endOf(IIIIIZ)I -/
def cd_292 : List Instr := [.aload 0, .getfield 12272, .iload 1, .iload 2, .iload 3, .iload 4, .iload 5, .invokestatic 2143940, .iaload, .istore 7, .iload 7, .iconst (-1), .if_icmp .ne 18, .aload 0, .iload 1, .iload 3, 
  .invokevirtual 2144972, .ireturn, .iload 7, .ifCond .ne 36, .aload 0, .getfield 12312, .iload 1, .aload 0, .iload 1, .iload 2, .iload 5, .invokevirtual 2152976, .iload 3, .iconst 1, .iadd, .iconst 1, 
  .iload 5, .invokestatic 2143940, .iaload, .ireturn, .iload 7, .iconst 1, .if_icmp .ne 49, .aload 0, .getfield 12312, .iload 1, .iload 2, .iload 3, .iload 4, .iconst 0, .invokestatic 2143940, .iaload, 
  .ireturn, .aload 0, .iload 1, .iload 5, .iload 7, .invokevirtual 2344976, .istore 8, .aload 0, .aload 0, .getfield 12212, .iload 8, .iconst 2, .iadd, .iaload, .aload 0, .iload 8, .iload 2, 
  .invokevirtual 2016972, .iload 3, .aload 0, .getfield 12212, .iload 8, .iconst 3, .iadd, .iaload, .iadd, .iload 5, .iload 6, .invokevirtual 2328984, .ireturn]
def ps_292 : List Nat := [0, 1, 4, 5, 6, 7, 9, 11, 14, 15, 17, 19, 20, 23, 24, 25, 26, 29, 30, 32, 35, 36, 39, 40, 41, 42, 43, 45, 48, 49, 50, 51, 52, 54, 57, 58, 59, 61, 62, 65, 66, 69, 70, 71, 72, 74, 75, 78, 79, 80, 81, 82, 
  84, 86, 89, 91, 92, 93, 96, 98, 99, 100, 101, 102, 104, 105, 108, 109, 110, 113, 115, 116, 117, 118, 119, 121, 123, 126]
theorem ck_292 : xChkM 12 false (some .int) prog_14_method_93_code cd_292 ps_292 = true := xChkN_ok 0xacb101b606150515602e600608152e00b42a1d6101b61c08152a2e600508152e00b42a2a0836ae01b6071505151b2aac2e7a01b80304151d1c1b4a00b42a1200a0040715ac2e7a01b805150460041d8101b605151c1b2a1b4a00b42a1b009a0715ac7e01b61d1b2a0a00a002071507362e7a01b8051504151d1c1b3e00b42a 127 0x007e007b0079007700760075007400730071006e006d006c00690068006600650064006300620060005d005c005b005900560054005200510050004f004e004b004a004800470046004500420041003e003d003b003a0039003600340033003200310030002d002b002a002900280027002400230020001e001d001a001900180017001400130011000f000e000b0009000700060005000400010000 78 (by decide +kernel)
/-- LastCloudModel.wayOf(III)I -/
def cd_293 : List Instr := [.iconst 2, .iload 1, .imul, .iload 2, .iadd, .istore 4, .iconst 0, .istore 5, .iload 5, .aload 0, .getfield 12202, .iload 4, .iaload, .if_icmp .ge 43, .iconst 300, .iload 4, .imul, .iconst 5, .iload 5, 
  .imul, .iadd, .istore 6, .iconst 100, .iconst 10, .aload 0, .getfield 12212, .iload 6, .iaload, .imul, .iadd, .aload 0, .getfield 12212, .iload 6, .iconst 1, .iadd, .iaload, .iadd, .iload 3, 
  .if_icmp .ne 41, .iload 6, .ireturn, .iinc 5 1, .goto 8, .iconst (-1), .ireturn]
def ps_293 : List Nat := [0, 1, 2, 3, 4, 5, 7, 8, 10, 12, 13, 16, 18, 19, 22, 25, 27, 28, 29, 31, 32, 33, 35, 37, 39, 40, 43, 45, 46, 47, 48, 49, 52, 54, 55, 56, 57, 58, 59, 62, 64, 65, 68, 71, 72]
theorem ck_293 : xChkM 12 false (some .int) prog_14_method_94_code cd_293 ps_293 = true := xChkN_ok 0xac02c6ffa7010584ac06150600a01d602e600406152e00b42a60682e06152e00b42a0a106410063660680515086804152c01113400a22e04152b00b42a05150536030436601c681b05 73 0x00480047004400410040003e003b003a0039003800370036003400310030002f002e002d002b002800270025002300210020001f001d001c001b00190016001300120010000d000c000a00080007000500040003000200010000 45 (by decide +kernel)
/-- LastCloudModel.ends(IZ)I -/
def cd_294 : List Instr := [.iload 1, .invokestatic 2207924, .ifCond .eq 6, .aload 0, .invokevirtual 2248964, .ifCond .ne 8, .iconst (-2000000000), .ireturn, .aload 0, .iload 1, .invokevirtual 2192971, .aload 0, .getfield 12012, 
  .iconst 8, .iaload, .istore 3, .iload 3, .ifCond .lt 81, .iconst 0, .istore 4, .iload 4, .aload 0, .getfield 12012, .iconst 6, .iaload, .ifCond .le 28, .iconst 1, .goto 29, .iconst 0, .if_icmp .gt 79, 
  .iconst 0, .istore 5, .iload 5, .aload 0, .getfield 12012, .iconst 1, .iaload, .if_icmp .ge 77, .aload 0, .iload 5, .iconst 0, .invokevirtual 1664972, .istore 6, .iload 6, .aload 0, .getfield 12012, 
  .iconst 7, .iaload, .if_icmp .gt 75, .iconst 0, .istore 7, .iload 7, .iconst 2, .if_icmp .ge 73, .aload 0, .getfield 12312, .iload 5, .iload 6, .iload 3, .iload 7, .iload 4, .invokestatic 2143940, 
  .aload 0, .iload 5, .iload 6, .iload 3, .iload 7, .iload 4, .iload 2, .invokevirtual 2336988, .iastore, .iinc 7 1, .goto 51, .iinc 6 1, .goto 43, .iinc 5 1, .goto 32, .iinc 4 1, .goto 20, .iinc 3 (-1), 
  .goto 16, .aload 0, .aload 0, .getfield 12012, .iconst 12, .iaload, .aload 0, .getfield 12012, .iconst 13, .iaload, .iconst 0, .aload 0, .invokevirtual 2256964, .iload 2, .invokevirtual 2328984, 
  .ireturn]
def ps_294 : List Nat := [0, 1, 4, 7, 8, 11, 14, 17, 18, 19, 20, 23, 24, 27, 29, 30, 31, 32, 35, 36, 38, 40, 41, 44, 46, 47, 50, 51, 54, 55, 58, 59, 61, 63, 64, 67, 68, 69, 72, 73, 75, 76, 79, 81, 83, 84, 87, 89, 90, 93, 94, 
  96, 98, 99, 102, 103, 106, 108, 110, 111, 113, 115, 118, 119, 121, 123, 124, 126, 128, 129, 132, 133, 136, 139, 142, 145, 148, 151, 154, 157, 160, 163, 164, 165, 168, 170, 171, 172, 175, 177, 178, 179, 
  180, 183, 184, 187]
theorem ck_294 : xChkM 12 false (some .int) prog_14_method_95_code cd_294 ps_294 = true := xChkN_ok 0xacb101b61ca501b62a032e0d100d00b42a2e0c100d00b42a2a7fffa7ff03848cffa7010484a9ffa7010584c3ffa7010684d8ffa70107844fb501b61c041507151d061505152a7a01b8041507151d061505154a00b42a2800a20507150736033700a32e07100d00b42a061506362501b60305152a5200a22e040d00b42a05150536036600a3030400a70407009e2e06100d00b42a041504360383009b1d3e2e08100d00b42a9b01b61b2aac39011307009aa201b62a0a00999401b81b 188 0x00bb00b800b700b400b300b200b100af00ac00ab00aa00a800a500a400a300a0009d009a009700940091008e008b00880085008400810080007e007c007b00790077007600730071006f006e006c006a00670066006300620060005e005d005a00590057005400530051004f004c004b004900480045004400430040003f003d003b003a0037003600330032002f002e002c002900280026002400230020001f001e001d001b001800170014001300120011000e000b00080007000400010000 96 (by decide +kernel)
/-- LastCloudModel.startWith(II)I -/
def cd_295 : List Instr := [.aload 0, .iload 1, .putfield 12160, .aload 0, .iload 2, .putfield 12170, .aload 0, .iconst (-1), .putfield 12290, .aload 0, .iconst 0, .aload 0, .invokevirtual 2256964, .invokevirtual 2264972, 
  .istore 3, .aload 0, .iconst (-1), .putfield 12160, .aload 0, .iconst (-1), .putfield 12290, .iload 3, .ireturn]
def ps_295 : List Nat := [0, 1, 2, 5, 6, 7, 10, 11, 12, 15, 16, 17, 18, 21, 24, 25, 26, 27, 30, 31, 32, 35, 36]
theorem ck_295 : xChkM 12 false (some .int) prog_14_method_96_code cd_295 ps_295 = true := xChkN_ok 0xac1d4400b5022a2500b5022a3ea801b6a501b62a032a4400b5022a4f01b51c2a2500b51b2a 37 0x002400230020001f001e001b001a001900180015001200110010000f000c000b000a000700060005000200010000 23 (by decide +kernel)
/-- LastCloudModel.share(I)I -/
def cd_296 : List Instr := [.aload 0, .iload 1, .invokevirtual 1656968, .ifCond .eq 18, .aload 0, .invokevirtual 2248964, .ifCond .eq 18, .aload 0, .iload 1, .iconst 100, .invokevirtual 2360972, .aload 0, .iconst 0, .aload 0, 
  .invokevirtual 2256964, .invokevirtual 2264972, .isub, .goto 19, .iconst (-2000000000), .ireturn]
def ps_296 : List Nat := [0, 1, 2, 5, 8, 9, 12, 15, 16, 17, 19, 22, 23, 24, 25, 28, 31, 32, 35, 38]
theorem ck_296 : xChkM 12 false (some .int) prog_14_method_97_code cd_296 ps_296 = true := xChkN_ok 0xac3901130600a764a801b6a501b62a032ab901b664101b2a170099a201b62a1e00994401b61b2a 39 0x002600230020001f001c0019001800170016001300110010000f000c000900080005000200010000 20 (by decide +kernel)
