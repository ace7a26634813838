/-- LastCloudModel.known(I)I -/
def cd_297 : List Instr := [.aload 0, .iload 1, .invokevirtual 1656968, .ifCond .eq 7, .aload 0, .invokevirtual 2248964, .ifCond .ne 9, .iconst (-2000000000), .ireturn, .aload 0, .iload 1, .invokevirtual 1952968, .istore 2, 
  .aload 0, .iload 1, .iconst 100, .invokevirtual 2360972, .istore 3, .aload 0, .iload 1, .iconst 0, .invokevirtual 2360972, .istore 4, .iload 2, .iload 3, .imul, .iconst 100, .iload 2, .isub, .iload 4, 
  .imul, .iadd, .iconst 100, .idiv, .aload 0, .iconst 0, .aload 0, .invokevirtual 2256964, .invokevirtual 2264972, .isub, .ireturn]
def ps_297 : List Nat := [0, 1, 2, 5, 8, 9, 12, 15, 18, 19, 20, 21, 24, 25, 26, 27, 29, 32, 33, 34, 35, 36, 39, 41, 42, 43, 44, 46, 47, 48, 50, 51, 52, 54, 55, 56, 57, 58, 61, 64, 65]
theorem ck_297 : xChkM 12 false (some .int) prog_14_method_98_code cd_297 ps_297 = true := xChkN_ok 0xac64a801b6a501b62a032a6c641060680415641c6410681d1c0436b901b6031b2a3eb901b664101b2a3d5201b61b2aac39011307009aa201b62a0a00994401b61b2a 66 0x00410040003d003a00390038003700360034003300320030002f002e002c002b002a0029002700240023002200210020001d001b001a001900180015001400130012000f000c000900080005000200010000 41 (by decide +kernel)
/-- LastCloudModel.hawk(I)I -/
def cd_298 : List Instr := [.aload 0, .iload 1, .invokevirtual 1656968, .ifCond .eq 7, .aload 0, .invokevirtual 2248964, .ifCond .ne 9, .iconst (-2000000000), .ireturn, .aload 0, .iload 1, .invokevirtual 1952968, .istore 2, 
  .iload 2, .aload 0, .iload 1, .iconst 6, .invokevirtual 1664972, .imul, .iconst 100, .iload 2, .isub, .aload 0, .iload 1, .iconst 7, .invokevirtual 1664972, .imul, .iadd, .istore 3, .aload 0, .iload 1, 
  .iload 2, .iconst 1, .iconst 100, .invokevirtual 1944980, .istore 4, .aload 0, .iload 1, .iload 2, .iconst 0, .iconst 100, .invokevirtual 1944980, .istore 5, .aload 0, .iload 1, .iload 4, .iconst (-1), 
  .if_icmp .ne 50, .iload 2, .goto 51, .iload 4, .invokevirtual 2360972, .istore 6, .aload 0, .iload 1, .iload 5, .iconst (-1), .if_icmp .ne 60, .iload 2, .goto 61, .iload 5, .invokevirtual 2360972, 
  .istore 7, .iload 3, .iload 6, .imul, .iconst 10000, .iload 3, .isub, .iload 7, .imul, .iadd, .iconst 10000, .idiv, .aload 0, .iconst 0, .aload 0, .invokevirtual 2256964, .invokevirtual 2264972, .isub, 
  .ireturn]
def ps_298 : List Nat := [0, 1, 2, 5, 8, 9, 12, 15, 18, 19, 20, 21, 24, 25, 26, 27, 28, 30, 33, 34, 36, 37, 38, 39, 40, 42, 45, 46, 47, 48, 49, 50, 51, 52, 54, 57, 59, 60, 61, 62, 63, 65, 68, 70, 71, 72, 74, 75, 78, 79, 82, 84, 
  87, 89, 90, 91, 93, 94, 97, 98, 101, 103, 106, 108, 109, 111, 112, 115, 116, 117, 119, 120, 121, 124, 125, 126, 127, 128, 131, 134, 135]
theorem ck_298 : xChkM 12 false (some .int) prog_14_method_99_code cd_298 ps_298 = true := xChkN_ok 0xac64a801b6a501b62a032a6c10271160680715641d1027116806151d0736b901b605150500a71c0700a00205151b2a0636b901b604150500a71c0700a00204151b2a05364b01b66410031c1b2a04364b01b66410041c1b2a3e60682501b607101b2a641c6410682501b606101b2a1c3d5201b61b2aac39011307009aa201b62a0a00994401b61b2a 136 0x0087008600830080007f007e007d007c0079007800770075007400730070006f006d006c006a0067006500620061005e005d005b005a0059005700540052004f004e004b004a00480047004600440041003f003e003d003c003b0039003600340033003200310030002f002e002d002a0028002700260025002400220021001e001c001b001a001900180015001400130012000f000c000900080005000200010000 81 (by decide +kernel)
/-- LastCloudModel.water()I -/
def cd_299 : List Instr := [.aload 0, .invokevirtual 2248964, .ifCond .ne 5, .iconst (-2000000000), .ireturn, .aload 0, .getfield 12012, .iconst 6, .iaload, .ifCond .ne 12, .iconst 0, .goto 21, .aload 0, .iconst 0, .iconst 1, 
  .invokevirtual 2264972, .aload 0, .iconst 0, .iconst 0, .invokevirtual 2264972, .isub, .ireturn]
def ps_299 : List Nat := [0, 1, 4, 7, 10, 11, 12, 15, 17, 18, 21, 22, 25, 26, 27, 28, 31, 32, 33, 34, 37, 38]
theorem ck_299 : xChkM 12 false (some .int) prog_14_method_100_code cd_299 ps_299 = true := xChkN_ok 0xac64a801b603032aa801b604032a1000a70307009a2e06100d00b42aac39011307009aa201b62a 39 0x00260025002200210020001f001c001b001a00190016001500120011000f000c000b000a0007000400010000 22 (by decide +kernel)
/-- LastCloudModel.drop()I -/
def cd_300 : List Instr := [.aload 0, .invokevirtual 2248964, .ifCond .eq 6, .aload 0, .invokevirtual 2256964, .ifCond .ne 8, .iconst (-1), .ireturn, .aload 0, .iconst 0, .invokevirtual 2192971, .aload 0, .getfield 12012, 
  .iconst 12, .iaload, .istore 1, .aload 0, .getfield 12012, .iconst 13, .iaload, .istore 2, .iconst 0, .istore 3, .aload 0, .getfield 12272, .iload 1, .iload 2, .iload 3, .aload 0, .iload 1, .iconst 3, 
  .invokevirtual 1664972, .iconst 1, .invokestatic 2143940, .iaload, .istore 4, .iload 4, .iconst (-1), .if_icmp .ne 41, .iconst (-1), .ireturn, .iload 4, .iconst 1, .if_icmp .ne 46, .iload 3, .ireturn, 
  .iload 4, .ifCond .ne 56, .aload 0, .iload 1, .iload 2, .iconst 1, .invokevirtual 2152976, .istore 2, .iinc 3 1, .goto 23, .aload 0, .iload 1, .iconst 1, .iload 4, .invokevirtual 2344976, .istore 5, 
  .aload 0, .iload 5, .iload 2, .invokevirtual 2016972, .istore 2, .iload 3, .aload 0, .getfield 12212, .iload 5, .iconst 3, .iadd, .iaload, .iadd, .istore 3, .aload 0, .getfield 12212, .iload 5, 
  .iconst 2, .iadd, .iaload, .istore 1, .goto 23]
def ps_300 : List Nat := [0, 1, 4, 7, 8, 11, 14, 15, 16, 17, 18, 21, 22, 25, 27, 28, 29, 30, 33, 35, 36, 37, 38, 39, 40, 43, 44, 45, 46, 47, 48, 49, 52, 53, 56, 57, 59, 61, 62, 65, 66, 67, 69, 70, 73, 74, 75, 77, 80, 81, 82, 
  83, 84, 87, 88, 91, 94, 95, 96, 97, 99, 102, 104, 105, 107, 108, 111, 112, 113, 114, 117, 119, 120, 121, 122, 123, 124, 125, 128, 130, 131, 132, 133, 134]
theorem ck_300 : xChkM 12 false (some .int) prog_14_method_101_code cd_300 ps_300 = true := xChkN_ok 0xa1ffa73c2e600505152e00b42a3e602e600605152e00b42a1d3d6101b61c05152a0536ae01b60415041b2accffa70103843d8101b6041c1b2a11009a0415ac1d0500a0040415ac020500a002041504362e7a01b8042501b6061b2a1d1c1b3e00b42a3e033d2e0d100d00b42a3c2e0c100d00b42a9b01b6032aac0205009aa501b62a0a0099a201b62a 137 0x008600850084008300820080007d007c007b007a0079007800770075007200710070006f006c006b006900680066006300610060005f005e005b0058005700540053005200510050004d004b004a004900460045004300420041003e003d003b003900380035003400310030002f002e002d002c002b0028002700260025002400230021001e001d001c001b001900160015001200110010000f000e000b00080007000400010000 84 (by decide +kernel)
/-- LastCloudModel.draw(I)I -/
def cd_301 : List Instr := [.aload 0, .jsr 1103515245, .aload 0, .getfield 12321, .lmul, .jsr 12345, .ladd, .jsr 2147483648, .lrem, .putfield 12321, .aload 0, .getfield 12321, .jsr 65536, .ldiv, .iload 1, .i2l, .lrem, .l2i, 
  .ireturn]
def ps_301 : List Nat := [0, 1, 4, 5, 8, 9, 12, 13, 16, 17, 20, 21, 24, 27, 28, 29, 30, 31, 32]
theorem ck_301 : xChkM 12 false (some .int) prog_14_method_102_code cd_301 ps_301 = true := xChkN_ok 0xac8871851b6dc60114be01b42abe01b571c4011461c2011469be01b42abc01142a 33 0x0020001f001e001d001c001b00180015001400110010000d000c000900080005000400010000 19 (by decide +kernel)
/-- LastCloudModel.sets(I)V -/
def cd_302 : List Instr := [.aload 0, .iload 1, .i2l, .putfield 12321, .aload 0, .aload 0, .getfield 12012, .iconst 12, .iaload, .putfield 12330, .aload 0, .aload 0, .getfield 12012, .iconst 13, .iaload, .putfield 12340, 
  .aload 0, .iconst 0, .putfield 12350, .aload 0, .aload 0, .invokevirtual 2256964, .putfield 12370, .aload 0, .aload 0, .iconst 100, .invokevirtual 2408968, .aload 0, .aload 0, .getfield 12330, 
  .invokevirtual 1960968, .if_icmp .ge 34, .iconst 1, .goto 35, .iconst 0, .putfield 12360, .aload 0, .iconst 0, .putfield 12380, .return_]
def ps_302 : List Nat := [0, 1, 2, 3, 6, 7, 8, 11, 13, 14, 17, 18, 19, 22, 24, 25, 28, 29, 30, 33, 34, 35, 38, 41, 42, 43, 45, 48, 49, 50, 53, 56, 59, 60, 63, 64, 67, 68, 69, 72]
theorem ck_302 : xChkM 12 false none prog_14_method_103_code cd_302 ps_302 = true := xChkN_ok 0xb1da01b5032ad701b5030400a7040700a27701b6c801b42a2ad401b664102a2ad101b5a501b62a2ace01b5032acb01b52e0d100d00b42a2ac801b52e0c100d00b42a2abe01b5851b2a 73 0x00480045004400430040003f003c003b00380035003200310030002d002b002a00290026002300220021001e001d001c001900180016001300120011000e000d000b0008000700060003000200010000 40 (by decide +kernel)
/-- LastCloudModel.does(J)Z -/
def cd_303 : List Instr := [.lload 1, .jsr (-1), .lcmp, .ifCond .ne 6, .iconst 1, .freturn, .lload 1, .jsr 0, .lcmp, .ifCond .ne 46, .aload 0, .aload 0, .getfield 12330, .aload 0, .getfield 12340, .aload 0, .getfield 12370, 
  .invokevirtual 2152976, .istore 3, .aload 0, .getfield 12360, .ifCond .eq 33, .aload 0, .getfield 12350, .aload 0, .getfield 12012, .iconst 8, .iaload, .if_icmp .ge 33, .iload 3, .aload 0, 
  .getfield 12340, .if_icmp .gt 35, .iconst 0, .freturn, .aload 0, .iload 3, .putfield 12340, .aload 0, .dup, .getfield 12350, .iconst 1, .iadd, .putfield 12350, .iconst 1, .freturn, .lload 1, .jsr 1, 
  .lcmp, .ifCond .ne 60, .aload 0, .getfield 12370, .ifCond .ne 55, .iconst 0, .freturn, .aload 0, .iconst 0, .putfield 12370, .iconst 1, .freturn, .lload 1, .jsr 100, .jsr 199, .invokestatic 1615932, 
  .ifCond .eq 74, .aload 0, .aload 0, .getfield 12330, .aload 0, .getfield 12370, .lload 1, .l2i, .invokevirtual 2344976, .goto 75, .iconst (-1), .istore 3, .iload 3, .iconst (-1), .if_icmp .eq 100, 
  .aload 0, .getfield 12350, .aload 0, .getfield 12212, .iload 3, .iconst 3, .iadd, .iaload, .iadd, .aload 0, .getfield 12012, .iconst 8, .iaload, .if_icmp .gt 100, .aload 0, .iload 3, .aload 0, 
  .getfield 12340, .invokevirtual 2016972, .iconst (-1), .if_icmp .ne 102, .iconst 0, .freturn, .aload 0, .aload 0, .iload 3, .aload 0, .getfield 12340, .invokevirtual 2016972, .putfield 12340, .aload 0, 
  .dup, .getfield 12350, .aload 0, .getfield 12212, .iload 3, .iconst 3, .iadd, .iaload, .iadd, .putfield 12350, .aload 0, .aload 0, .getfield 12212, .iload 3, .iconst 2, .iadd, .iaload, .putfield 12330, 
  .aload 0, .aload 0, .iconst 100, .invokevirtual 2408968, .aload 0, .aload 0, .getfield 12330, .invokevirtual 1960968, .if_icmp .ge 139, .iconst 1, .goto 140, .iconst 0, .putfield 12360, .iconst 1, 
  .freturn]
def ps_303 : List Nat := [0, 1, 4, 5, 8, 9, 10, 11, 12, 13, 16, 17, 18, 21, 22, 25, 26, 29, 32, 33, 34, 37, 40, 41, 44, 45, 48, 50, 51, 54, 55, 56, 59, 62, 63, 64, 65, 66, 69, 70, 71, 74, 75, 76, 79, 80, 81, 82, 83, 84, 87, 88, 
  91, 94, 95, 96, 97, 98, 101, 102, 103, 104, 107, 110, 113, 116, 117, 118, 121, 122, 125, 126, 127, 130, 133, 134, 135, 136, 137, 140, 141, 144, 145, 148, 149, 150, 151, 152, 153, 154, 157, 159, 160, 
  163, 164, 165, 166, 169, 172, 173, 176, 177, 178, 179, 180, 181, 182, 185, 188, 191, 192, 193, 196, 197, 200, 201, 202, 203, 204, 205, 208, 209, 210, 213, 214, 215, 216, 217, 220, 221, 222, 224, 227, 
  228, 229, 232, 235, 238, 239, 242, 243, 246, 247]
theorem ck_303 : xChkM 12 false (some .boolean) prog_14_method_104_code cd_303 ps_303 = true := xChkN_ok 0xac04d701b5030400a7040700a27701b6c801b42a2ad401b664102a2ac801b52e60051d2e00b42a2ace01b5602e60061d2e00b42ace01b4592acb01b56101b6cb01b42a1d2a2aac030500a0026101b6cb01b42a1d2a1000a32e08100d00b42a602e60061d2e00b42ace01b42a27009f021d3e020400a7ae01b6881fd101b42ac801b42a2a1400997500b8e10114df01141fac04d101b5032aac0305009ad101b42a13009a940a1fac04ce01b56004ce01b4592acb01b51d2aac030500a3cb01b42a1d0b00a22e08100d00b42ace01b42a190099d701b42a3e8101b6d101b42acb01b42ac801b42a2a44009a94091fac0405009a94dd01141f 248 0x00f700f600f300f200ef00ee00eb00e800e500e400e300e000de00dd00dc00d900d800d700d600d500d200d100d000cd00cc00cb00ca00c900c800c500c400c100c000bf00bc00b900b600b500b400b300b200b100b000ad00ac00a900a600a500a400a300a0009f009d009a00990098009700960095009400910090008d008c008900880087008600850082007f007e007d007a00790076007500740071006e006b0068006700660065006200610060005f005e005b0058005700540053005200510050004f004c004b004a004700460045004200410040003f003e003b003800370036003300320030002d002c002900280025002200210020001d001a001900160015001200110010000d000c000b000a000900080005000400010000 143 (by decide +kernel)
/-- LastCloudModel.flies(II)V -/
def cd_304 : List Instr := [.aload 0, .iload 1, .invokevirtual 2192971, .aload 0, .iload 2, .invokevirtual 2416971, .iconst 0, .istore 3, .iload 3, .iconst (-1), .if_icmp .eq 87, .aload 0, .getfield 12380, .iconst 100, 
  .if_icmp .ne 17, .iconst (-1), .goto 31, .aload 0, .getfield 12272, .aload 0, .getfield 12330, .aload 0, .getfield 12340, .aload 0, .getfield 12350, .aload 0, .getfield 12360, .aload 0, 
  .getfield 12370, .invokestatic 2143940, .iaload, .istore 3, .iconst 5, .aload 0, .getfield 12380, .imul, .istore 4, .aload 0, .getfield 12392, .iload 4, .iload 3, .iastore, .aload 0, .getfield 12392, 
  .iload 4, .iconst 1, .iadd, .aload 0, .getfield 12330, .iastore, .aload 0, .getfield 12392, .iload 4, .iconst 2, .iadd, .aload 0, .getfield 12340, .iastore, .aload 0, .getfield 12392, .iload 4, 
  .iconst 3, .iadd, .aload 0, .getfield 12350, .iastore, .aload 0, .getfield 12392, .iload 4, .iconst 4, .iadd, .aload 0, .getfield 12360, .iastore, .aload 0, .dup, .getfield 12380, .iconst 1, .iadd, 
  .putfield 12380, .aload 0, .iload 3, .i2l, .invokevirtual 2424968, .ifCond .ne 86, .return_, .goto 8, .return_]
def ps_304 : List Nat := [0, 1, 2, 5, 6, 7, 10, 11, 12, 13, 14, 17, 18, 21, 23, 26, 27, 30, 31, 34, 35, 38, 39, 42, 43, 46, 47, 50, 51, 54, 57, 58, 59, 60, 61, 64, 65, 67, 68, 71, 73, 74, 75, 76, 79, 81, 82, 83, 84, 87, 88, 89, 
  92, 94, 95, 96, 97, 100, 101, 102, 105, 107, 108, 109, 110, 113, 114, 115, 118, 120, 121, 122, 123, 126, 127, 128, 129, 132, 133, 134, 137, 138, 139, 140, 143, 146, 147, 150]
theorem ck_304 : xChkM 12 false none prog_14_method_105_code cd_304 ps_304 = true := xChkN_ok 0xb179ffa7b104009ae601b6851d2ada01b56004da01b4592a4fd701b42a600704154d00b42a4fce01b42a600604154d00b42a4fcb01b42a600504154d00b42a4fc801b42a600404154d00b42a4f1d04154d00b42a043668da01b42a083e2e7a01b8d101b42ad701b42ace01b42acb01b42ac801b42a3e00b42a1f00a7020700a06410da01b42a88009f021d3e03e301b61c2a9b01b61b2a 151 0x009600930092008f008c008b008a008900860085008400810080007f007e007b007a007900780076007300720071006e006d006c006b006900660065006400610060005f005e005c0059005800570054005300520051004f004c004b004a004900470044004300410040003d003c003b003a0039003600330032002f002e002b002a0027002600230022001f001e001b001a0017001500120011000e000d000c000b000a000700060005000200010000 88 (by decide +kernel)
/-- LastCloudModel.canFly(II)Z -/
def cd_305 : List Instr := [.iload 1, .invokestatic 2207924, .ifCond .eq 14, .iload 2, .i2l, .jsr 0, .jsr 2000000000, .invokestatic 1615932, .ifCond .eq 14, .aload 0, .invokevirtual 2248964, .ifCond .eq 14, .iconst 1, .goto 15, 
  .iconst 0, .freturn]
def ps_305 : List Nat := [0, 1, 4, 7, 8, 9, 10, 13, 16, 19, 20, 23, 26, 27, 30, 31]
theorem ck_305 : xChkM 12 false (some .boolean) prog_14_method_106_code cd_305 ps_305 = true := xChkN_ok 0xac030400a704070099a201b62a0e00997500b8ea011409851c1a00999401b81b 32 0x001f001e001b001a0017001400130010000d000a000900080007000400010000 16 (by decide +kernel)
/-- LastCloudModel.fly(II)I -/
def cd_306 : List Instr := [.aload 0, .iload 1, .iload 2, .invokevirtual 2440972, .ifCond .ne 7, .iconst (-2), .ireturn, .aload 0, .iload 1, .iload 2, .invokevirtual 2432975, .aload 0, .aload 0, .getfield 12380, .putfield 12400, 
  .iconst 0, .istore 3, .iload 3, .iconst 5, .aload 0, .getfield 12380, .imul, .if_icmp .ge 33, .aload 0, .getfield 12412, .iload 3, .aload 0, .getfield 12392, .iload 3, .iaload, .iastore, .iinc 3 1, 
  .goto 17, .aload 0, .getfield 12422, .iconst 0, .aload 0, .getfield 12330, .iastore, .aload 0, .getfield 12422, .iconst 1, .aload 0, .getfield 12340, .iastore, .aload 0, .getfield 12422, .iconst 2, 
  .aload 0, .getfield 12350, .iastore, .aload 0, .getfield 12422, .iconst 3, .aload 0, .aload 0, .getfield 12330, .aload 0, .getfield 12350, .invokevirtual 2144972, .iastore, .aload 0, .getfield 12422, 
  .iconst 4, .aload 0, .aload 0, .getfield 12330, .iconst 1, .invokevirtual 1664972, .iconst 2, .if_icmp .ne 73, .iconst 1, .goto 83, .aload 0, .aload 0, .getfield 12330, .iconst 1, 
  .invokevirtual 1664972, .iconst 1, .if_icmp .ne 82, .iconst 2, .goto 83, .iconst 3, .iastore, .aload 0, .getfield 12380, .ireturn]
def ps_306 : List Nat := [0, 1, 2, 3, 6, 9, 11, 12, 13, 14, 15, 18, 19, 20, 23, 26, 27, 28, 29, 30, 31, 34, 35, 38, 39, 42, 43, 44, 47, 48, 49, 50, 53, 56, 57, 60, 61, 62, 65, 66, 67, 70, 71, 72, 75, 76, 77, 80, 81, 82, 85, 86, 
  87, 90, 91, 92, 93, 96, 97, 100, 103, 104, 105, 108, 109, 110, 111, 114, 115, 118, 119, 122, 123, 126, 127, 128, 131, 132, 135, 136, 139, 140, 143, 144, 145, 146, 149]
theorem ck_306 : xChkM 12 false (some .int) prog_14_method_107_code cd_306 ps_306 = true := xChkN_ok 0xacda01b42a4f060400a7050700a0042501b604c801b42a2a1500a7040700a0052501b604c801b42a2a075300b42a4f7e01b6ce01b42ac801b42a2a065300b42a4fce01b42a055300b42a4fcb01b42a045300b42a4fc801b42a035300b42ae7ffa70103844f2e1d4d00b42a1d5000b42a1500a268da01b42a081d3e03f201b5da01b42a2aef01b61c1b2aacfe1006009aec01b61c1b2a 150 0x0095009200910090008f008c008b00880087008400830080007f007e007b007a0077007600730072006f006e006d006c006900680067006400610060005d005c005b005a005700560055005200510050004d004c004b004800470046004300420041003e003d003c003900380035003200310030002f002c002b002a0027002600230022001f001e001d001c001b001a0017001400130012000f000e000d000c000b000900060003000200010000 87 (by decide +kernel)
/-- LastCloudModel.flown(II)I -/
def cd_307 : List Instr := [.iload 1, .i2l, .jsr 0, .aload 0, .getfield 12400, .iconst 1, .isub, .i2l, .invokestatic 1615932, .ifCond .eq 25, .iload 2, .i2l, .jsr 0, .jsr 4, .invokestatic 1615932, .ifCond .eq 25, .aload 0, 
  .getfield 12412, .iconst 5, .iload 1, .imul, .iload 2, .iadd, .iaload, .goto 26, .iconst (-1), .ireturn]
def ps_307 : List Nat := [0, 1, 2, 3, 4, 7, 8, 9, 10, 13, 16, 17, 18, 19, 22, 25, 28, 29, 32, 33, 34, 35, 36, 37, 38, 41, 42]
theorem ck_307 : xChkM 12 false (some .int) prog_14_method_108_code cd_307 ps_307 = true := xChkN_ok 0xac020400a72e601c681b085000b42a1000997500b8f5011409851c1c00997500b8856404f201b42a09851b 43 0x002a00290026002500240023002200210020001d001c001900160013001200110010000d000a00090008000700040003000200010000 27 (by decide +kernel)
/-- LastCloudModel.landed(I)I -/
def cd_308 : List Instr := [.iload 1, .i2l, .jsr 0, .jsr 4, .invokestatic 1615932, .ifCond .eq 11, .aload 0, .getfield 12422, .iload 1, .iaload, .goto 12, .iconst (-1), .ireturn]
def ps_308 : List Nat := [0, 1, 2, 3, 6, 9, 12, 13, 16, 17, 18, 21, 22]
theorem ck_308 : xChkM 12 false (some .int) prog_14_method_109_code cd_308 ps_308 = true := xChkN_ok 0xac020400a72e1b5300b42a0c00997500b8f5011409851b 23 0x00160015001200110010000d000c000900060003000200010000 13 (by decide +kernel)
/-- LastCloudModel.judge(II)I -/
def cd_309 : List Instr := [.iload 1, .invokestatic 2623924, .ifCond .eq 12, .iload 2, .i2l, .jsr 0, .jsr 2000000000, .invokestatic 1615932, .ifCond .eq 12, .aload 0, .invokevirtual 2248964, .ifCond .ne 14, .iconst (-2), 
  .ireturn, .aload 0, .getfield 12492, .iload 1, .iaload, .iconst (-1), .if_icmp .ne 22, .iconst (-6), .ireturn, .aload 0, .invokevirtual 2000967, .aload 0, .iload 2, .invokevirtual 2416971, .iconst 0, 
  .istore 3, .iload 3, .aload 0, .getfield 12492, .iload 1, .iaload, .if_icmp .ge 60, .aload 0, .getfield 12512, .iconst 60, .iload 1, .imul, .iload 3, .iadd, .laload, .lstore 4, .aload 0, .lload 4, 
  .invokevirtual 2424968, .ifCond .ne 50, .iload 3, .ireturn, .lload 4, .jsr (-1), .lcmp, .ifCond .ne 58, .iload 3, .iconst 1, .iadd, .ireturn, .iinc 3 1, .goto 29, .aload 0, .getfield 12492, .iload 1, 
  .iaload, .ireturn]
def ps_309 : List Nat := [0, 1, 4, 7, 8, 9, 10, 13, 16, 19, 20, 23, 26, 28, 29, 30, 33, 34, 35, 36, 39, 41, 42, 43, 46, 47, 48, 51, 52, 53, 54, 55, 58, 59, 60, 63, 64, 67, 69, 70, 71, 72, 73, 74, 76, 77, 79, 82, 85, 86, 87, 89, 
  92, 93, 96, 97, 98, 99, 100, 103, 106, 107, 110, 111, 112]
theorem ck_309 : xChkM 12 false (some .int) prog_14_method_110_code cd_309 ps_309 = true := xChkN_ok 0xac2e1b5f00b42aceffa7010384ac60041d07009a94dd01140416ac1d05009ae601b604162a04372f601d681b3c106500b42a2e00a22e1b5f00b42a1d3e03e301b61c2a5e01b62aacfa100600a0022e1b5f00b42aacfe1006009aa201b62a0a00997500b8ea011409851c160099f701b81b 113 0x0070006f006e006b006a006700640063006200610060005d005c00590057005600550052004f004d004c004a0049004800470046004500430040003f003c003b003a003700360035003400330030002f002e002b002a002900270024002300220021001e001d001c001a0017001400130010000d000a000900080007000400010000 65 (by decide +kernel)
/-- LastCloudModel.fliesAll(III)V -/
def cd_310 : List Instr := [.aload 0, .iconst 0, .putfield 12430, .aload 0, .iconst 0, .putfield 12440, .iconst 0, .istore 4, .iload 4, .iconst 5, .if_icmp .ge 18, .aload 0, .getfield 12452, .iload 4, .iconst 0, .iastore, 
  .iinc 4 1, .goto 8, .iconst 0, .istore 4, .iload 4, .iload 3, .if_icmp .ge 123, .aload 0, .iload 1, .iload 2, .iload 4, .iadd, .invokevirtual 2432975, .aload 0, .aload 0, .getfield 12330, .aload 0, 
  .getfield 12350, .invokevirtual 2144972, .istore 5, .aload 0, .dup, .getfield 12430, .aload 0, .aload 0, .getfield 12330, .iconst 1, .invokevirtual 1664972, .iconst 2, .if_icmp .ne 48, .iconst 1, 
  .goto 49, .iconst 0, .iadd, .putfield 12430, .aload 0, .dup, .getfield 12440, .iload 5, .iadd, .putfield 12440, .aload 0, .getfield 12452, .iconst 0, .iload 4, .ifCond .ne 64, .iload 5, .goto 70, 
  .aload 0, .getfield 12452, .iconst 0, .iaload, .iload 5, .dsub, .iastore, .aload 0, .getfield 12452, .iconst 1, .iload 4, .ifCond .ne 78, .iload 5, .goto 84, .aload 0, .getfield 12452, .iconst 1, 
  .iaload, .iload 5, .dadd, .iastore, .aload 0, .getfield 12452, .iconst 2, .dup2, .iaload, .aload 0, .aload 0, .getfield 12330, .iconst 1, .invokevirtual 1664972, .ifCond .ne 98, .iconst 1, .goto 99, 
  .iconst 0, .iadd, .iastore, .aload 0, .getfield 12452, .iconst 3, .dup2, .iaload, .aload 0, .getfield 12350, .iadd, .iastore, .aload 0, .getfield 12452, .iconst 4, .aload 0, .getfield 12452, .iconst 4, 
  .iaload, .aload 0, .getfield 12380, .dadd, .iastore, .iinc 4 1, .goto 20, .return_]
def ps_310 : List Nat := [0, 1, 2, 5, 6, 7, 10, 11, 13, 15, 16, 19, 20, 23, 25, 26, 27, 30, 33, 34, 36, 38, 39, 42, 43, 44, 45, 47, 48, 51, 52, 53, 56, 57, 60, 63, 65, 66, 67, 70, 71, 72, 75, 76, 79, 80, 83, 84, 87, 88, 89, 92, 
  93, 94, 97, 99, 100, 103, 104, 107, 108, 110, 113, 115, 118, 119, 122, 123, 124, 126, 129, 130, 131, 134, 135, 137, 140, 142, 145, 146, 149, 150, 151, 153, 156, 157, 158, 161, 162, 163, 164, 165, 166, 
  169, 170, 173, 176, 177, 180, 181, 182, 183, 184, 187, 188, 189, 190, 191, 194, 195, 196, 197, 200, 201, 202, 205, 206, 207, 208, 211, 214, 215, 218, 221]
theorem ck_310 : xChkM 12 false none prog_14_method_111_code cd_310 ps_310 = true := xChkN_ok 0xb14affa70104844f2801b8da01b42a2e075600b42a075600b42a4f60ce01b42a2e5c065600b42a4f60030400a70407009a2501b604c801b42a2a2e5c055600b42a4f2801b805152e045600b42a0e00a7051508009a0415045600b42a4f9800b805152e035600b42a0e00a7051508009a0415035600b42afd01b5600515fd01b4592afa01b560030400a7040700a0052501b604c801b42a2afa01b4592a05367e01b6ce01b42ac801b42a2aef01b66004151c1b2ab600a21d0415043603efffa70104844f0304155600b42a1100a2080415043603fd01b5032afa01b5032a 222 0x00dd00da00d700d600d300d000cf00ce00cd00ca00c900c800c500c400c300c200bf00be00bd00bc00bb00b800b700b600b500b400b100b000ad00aa00a900a600a500a400a300a200a1009e009d009c009900970096009500920091008e008c008900870086008300820081007e007c007b007a0077007600730071006e006c006b00680067006400630061005e005d005c005900580057005400530050004f004c004b004800470046004300420041003f003c003900380035003400330030002f002d002c002b002a00270026002400220021001e001b001a00190017001400130010000f000d000b000a000700060005000200010000 124 (by decide +kernel)
/-- LastCloudModel.canFlyAll(III)Z -/
def cd_311 : List Instr := [.aload 0, .iload 1, .iload 2, .invokevirtual 2440972, .ifCond .eq 13, .iload 3, .i2l, .jsr 1, .jsr 40, .invokestatic 1615932, .ifCond .eq 13, .iconst 1, .goto 14, .iconst 0, .freturn]
def ps_311 : List Nat := [0, 1, 2, 3, 6, 9, 10, 11, 12, 15, 18, 21, 22, 25, 26]
theorem ck_311 : xChkM 12 false (some .boolean) prog_14_method_112_code cd_311 ps_311 = true := xChkN_ok 0xac030400a7040700997500b80002140a851d130099ec01b61c1b2a 27 0x001a0019001600150012000f000c000b000a000900060003000200010000 15 (by decide +kernel)
/-- LastCloudModel.flights(III)I -/
def cd_312 : List Instr := [.aload 0, .iload 1, .iload 2, .iload 3, .invokevirtual 2488976, .ifCond .ne 8, .iconst (-2), .ireturn, .aload 0, .iload 1, .iload 2, .iload 3, .invokevirtual 2480979, .aload 0, .getfield 12430, 
  .ireturn]
def ps_312 : List Nat := [0, 1, 2, 3, 4, 7, 10, 12, 13, 14, 15, 16, 17, 20, 21, 24]
theorem ck_312 : xChkM 12 false (some .int) prog_14_method_113_code cd_312 ps_312 = true := xChkN_ok 0xacfa01b42a0602b61d1c1b2aacfe1006009a0202b61d1c1b2a 25 0x00180015001400110010000f000e000d000c000a000700040003000200010000 16 (by decide +kernel)
/-- LastCloudModel.sum(III)I -/
def cd_313 : List Instr := [.aload 0, .iload 1, .iload 2, .iload 3, .invokevirtual 2488976, .ifCond .ne 8, .iconst (-2000000000), .ireturn, .aload 0, .iload 1, .iload 2, .iload 3, .invokevirtual 2480979, .aload 0, 
  .getfield 12440, .ireturn]
def ps_313 : List Nat := [0, 1, 2, 3, 4, 7, 10, 13, 14, 15, 16, 17, 18, 21, 22, 25]
theorem ck_313 : xChkM 12 false (some .int) prog_14_method_114_code cd_313 ps_313 = true := xChkN_ok 0xacfd01b42a0602b61d1c1b2aac39011307009a0202b61d1c1b2a 26 0x001900160015001200110010000f000e000d000a000700040003000200010000 16 (by decide +kernel)
/-- LastCloudModel.spread(IIII)I -/
def cd_314 : List Instr := [.aload 0, .iload 1, .iload 2, .iload 3, .invokevirtual 2488976, .ifCond .eq 12, .iload 4, .i2l, .jsr 0, .jsr 4, .invokestatic 1615932, .ifCond .ne 14, .iconst (-2000000000), .ireturn, .aload 0, 
  .iload 1, .iload 2, .iload 3, .invokevirtual 2480979, .aload 0, .getfield 12452, .iload 4, .iaload, .ireturn]
def ps_314 : List Nat := [0, 1, 2, 3, 4, 7, 10, 12, 13, 14, 17, 20, 23, 26, 27, 28, 29, 30, 31, 34, 35, 38, 40, 41]
theorem ck_314 : xChkM 12 false (some .int) prog_14_method_115_code cd_314 ps_314 = true := xChkN_ok 0xac2e04155600b42a0602b61d1c1b2aac39011307009a7500b8f50114098504151000990202b61d1c1b2a 42 0x00290028002600230022001f001e001d001c001b001a001700140011000e000d000c000a000700040003000200010000 24 (by decide +kernel)
/-- LastCloudModel.spot(III)I -/
def cd_315 : List Instr := [.iconst 8, .iload 0, .imul, .iload 1, .iadd, .iconst 61, .imul, .iload 2, .iadd, .ireturn]
def ps_315 : List Nat := [0, 2, 3, 4, 5, 6, 8, 9, 10, 11]
theorem ck_315 : xChkM 12 false (some .int) prog_14_method_116_code cd_315 ps_315 = true := xChkN_ok 0xac601c683d10601b681a0810 12 0x000b000a00090008000600050004000300020000 10 (by decide +kernel)
/-- LastCloudModel.reckons(I)V -/
def cd_316 : List Instr := [.aload 0, .invokevirtual 2000967, .iconst 0, .istore 2, .iconst 0, .istore 3, .iload 3, .iconst 8, .if_icmp .ge 40, .aload 0, .getfield 12472, .iload 3, .aload 0, .getfield 12012, .iconst 15, .iaload, 
  .iload 3, .invokestatic 1623928, .ifCond .eq 23, .iconst 1, .iload 2, .ishl, .goto 24, .iconst 0, .iastore, .iload 2, .aload 0, .getfield 12012, .iconst 15, .iaload, .iload 3, .invokestatic 1623928, 
  .ifCond .eq 35, .iconst 1, .goto 36, .iconst 0, .iadd, .istore 2, .iinc 3 1, .goto 6, .aload 0, .iconst 1, .iload 2, .ishl, .iconst 1, .isub, .putfield 12480, .iconst 0, .istore 3, .iload 3, 
  .iconst 3904, .if_icmp .ge 59, .aload 0, .getfield 12462, .iload 3, .iconst 1000, .iastore, .iinc 3 1, .goto 49, .iconst 0, .istore 3, .iload 3, .aload 0, .getfield 12012, .iconst 8, .iaload, 
  .if_icmp .gt 124, .iconst 0, .istore 4, .iload 4, .aload 0, .getfield 12480, .if_icmp .gt 122, .iconst 0, .istore 5, .iload 5, .aload 0, .getfield 12012, .iconst 1, .iaload, .if_icmp .ge 120, .aload 0, 
  .iload 5, .iconst 0, .invokevirtual 1664972, .istore 6, .iload 6, .aload 0, .getfield 12012, .iconst 7, .iaload, .if_icmp .gt 118, .iload 4, .iload 5, .iload 6, .invokestatic 2527932, .istore 7, 
  .aload 0, .getfield 12462, .iload 7, .iaload, .iconst 1000, .if_icmp .ne 116, .aload 0, .iload 4, .iload 5, .iload 6, .iload 3, .iload 1, .invokevirtual 2536984, .ifCond .eq 116, .aload 0, 
  .getfield 12462, .iload 7, .iload 3, .iastore, .iinc 6 1, .goto 86, .iinc 5 1, .goto 75, .iinc 4 1, .goto 69, .iinc 3 1, .goto 61, .return_]
def ps_316 : List Nat := [0, 1, 4, 5, 6, 7, 8, 9, 11, 14, 15, 18, 19, 20, 23, 25, 26, 27, 30, 33, 34, 35, 36, 39, 40, 41, 42, 43, 46, 48, 49, 50, 53, 56, 57, 60, 61, 62, 63, 66, 69, 70, 71, 72, 73, 74, 75, 78, 79, 80, 81, 84, 
  87, 88, 91, 92, 95, 96, 99, 102, 103, 104, 105, 106, 109, 111, 112, 115, 116, 118, 120, 121, 124, 127, 128, 130, 132, 133, 136, 137, 138, 141, 142, 144, 145, 148, 150, 152, 153, 156, 158, 159, 162, 
  164, 166, 168, 171, 173, 174, 177, 179, 180, 183, 186, 187, 189, 191, 193, 194, 195, 198, 201, 202, 205, 207, 208, 209, 212, 215, 218, 221, 224, 227, 230, 233]
theorem ck_316 : xChkM 12 false none prog_14_method_117_code cd_316 ps_316 = true := xChkN_ok 0xb182ffa701038496ffa7010484a8ffa7010584c2ffa70106844f1d07155900b42a0b00990f02b61b1d0615051504152a1a00a0e803112e07155900b42a07360c02b80615051504153800a32e07100d00b42a061506362501b60305152a5300a22e040d00b42a05150536036700a30902b42a04150436037900a32e08100d00b42a1d3e03edffa70103844fe803111d5900b42a1200a2400f111d3e030902b56404781c042ac6ffa70103843d60030400a704070099e800b81d2e0f100d00b42a1c4f030400a7781c04090099e800b81d2e0f100d00b42a1d5c00b42a3a00a208101d3e033d035e01b62a 234 0x00e900e600e300e000dd00da00d700d400d100d000cf00cd00ca00c900c600c300c200c100bf00bd00bb00ba00b700b400b300b100ae00ad00ab00a800a600a400a2009f009e009c009900980096009400910090008e008d008a008900880085008400820080007f007c007900780076007400730070006f006d006a006900680067006600630060005f005c005b00580057005400510050004f004e004b004a004900480047004600450042003f003e003d003c003900380035003200310030002e002b002a0029002800270024002300220021001e001b001a00190017001400130012000f000e000b00090008000700060005000400010000 125 (by decide +kernel)
/-- LastCloudModel.isIn(IIIII)Z -/
def cd_317 : List Instr := [.iload 4, .ifCond .ne 16, .iload 1, .aload 0, .getfield 12480, .if_icmp .ne 14, .aload 0, .iload 2, .iconst 1, .invokevirtual 1664972, .iconst 2, .if_icmp .ne 14, .iconst 1, .goto 15, .iconst 0, 
  .freturn, .aload 0, .iload 1, .iload 2, .iload 3, .iload 4, .iload 5, .invokevirtual 2544984, .ifCond .eq 26, .iconst 1, .freturn, .iconst 2, .iload 2, .imul, .aload 0, .invokevirtual 2256964, .iadd, 
  .istore 6, .iconst 0, .istore 7, .iload 7, .aload 0, .getfield 12202, .iload 6, .iaload, .if_icmp .ge 58, .aload 0, .iload 1, .iconst 300, .iload 6, .imul, .iconst 5, .iload 7, .imul, .iadd, .iload 3, 
  .iload 4, .invokevirtual 2552980, .ifCond .eq 56, .iconst 1, .freturn, .iinc 7 1, .goto 35, .iconst 0, .freturn]
def ps_317 : List Nat := [0, 2, 5, 6, 7, 10, 13, 14, 15, 16, 19, 20, 23, 24, 27, 28, 29, 30, 31, 32, 33, 35, 37, 40, 43, 44, 45, 46, 47, 48, 49, 52, 53, 55, 56, 58, 60, 61, 64, 66, 67, 70, 71, 72, 75, 77, 78, 79, 81, 82, 83, 
  84, 86, 89, 92, 93, 94, 97, 100, 101]
theorem ck_317 : xChkM 12 false (some .boolean) prog_14_method_118_code cd_317 ps_317 = true := xChkN_ok 0xac03d9ffa7010784ac040500991602b604151d60680715086806152c01111b2a2100a22e06152b00b42a0715073603063660a501b62a681c05ac040500991302b6051504151d1c1b2aac030400a7040700a0052501b6041c2a1100a00902b42a1b1b009a0415 102 0x006500640061005e005d005c005900560054005300520051004f004e004d004b004800470046004300420040003d003c003a003800370035003400310030002f002e002d002c002b00280025002300210020001f001e001d001c001b00180017001400130010000f000e000d000a00070006000500020000 60 (by decide +kernel)
/-- LastCloudModel.climbsIn(IIIII)Z -/
def cd_318 : List Instr := [.aload 0, .iload 2, .iload 3, .aload 0, .invokevirtual 2256964, .invokevirtual 2152976, .istore 6, .iload 5, .iload 2, .invokestatic 1623928, .ifCond .eq 27, .iload 6, .iload 3, .if_icmp .le 27, 
  .aload 0, .getfield 12462, .iload 1, .iload 2, .iload 6, .invokestatic 2527932, .iaload, .iload 4, .iconst 1, .isub, .if_icmp .ne 27, .iconst 1, .goto 28, .iconst 0, .freturn]
def ps_318 : List Nat := [0, 1, 2, 3, 4, 7, 10, 12, 14, 15, 18, 21, 23, 24, 27, 28, 31, 32, 33, 35, 38, 39, 41, 42, 43, 46, 47, 50, 51]
theorem ck_318 : xChkM 12 false (some .boolean) prog_14_method_119_code cd_318 ps_318 = true := xChkN_ok 0xac030400a7040700a0640404152e0c02b806151c1b5900b42a1a00a41d0615200099e800b81c051506368101b6a501b62a1d1c2a 52 0x00330032002f002e002b002a002900270026002300210020001f001c001b0018001700150012000f000e000c000a000700040003000200010000 29 (by decide +kernel)
/-- LastCloudModel.goesIn(IIII)Z -/
def cd_319 : List Instr := [.aload 0, .getfield 12212, .iload 2, .iconst 3, .iadd, .iaload, .iload 4, .if_icmp .le 10, .iconst 0, .freturn, .aload 0, .iload 2, .iload 3, .invokevirtual 2016972, .istore 5, .iload 5, .iconst (-1), 
  .if_icmp .eq 51, .aload 0, .getfield 12462, .iload 1, .aload 0, .getfield 12472, .aload 0, .getfield 12212, .iload 2, .iconst 2, .iadd, .iaload, .iaload, .ior, .aload 0, .getfield 12212, .iload 2, 
  .iconst 2, .iadd, .iaload, .iload 5, .invokestatic 2527932, .iaload, .iload 4, .aload 0, .getfield 12212, .iload 2, .iconst 3, .iadd, .iaload, .isub, .if_icmp .ne 51, .iconst 1, .goto 52, .iconst 0, 
  .freturn]
def ps_319 : List Nat := [0, 1, 4, 5, 6, 7, 8, 10, 13, 14, 15, 16, 17, 18, 21, 23, 25, 26, 29, 30, 33, 34, 35, 38, 39, 42, 43, 44, 45, 46, 47, 48, 49, 52, 53, 54, 55, 56, 58, 61, 62, 64, 65, 68, 69, 70, 71, 72, 73, 76, 77, 80, 
  81]
theorem ck_319 : xChkM 12 false (some .boolean) prog_14_method_120_code cd_319 ps_319 = true := xChkN_ok 0xac030400a7040700a0642e60061c2e00b42a04152e0c02b805152e60051c2e00b42a802e2e60051c2e00b42a5c00b42a1b5900b42a36009f02051505366101b61d1c2aac030500a404152e60061c2e00b42a 82 0x00510050004d004c00490048004700460045004400410040003e003d003a0038003700360035003400310030002f002e002d002c002b002a00270026002300220021001e001d001a001900170015001200110010000f000e000d000a0008000700060005000400010000 53 (by decide +kernel)
/-- LastCloudModel.liftSet()I -/
def cd_320 : List Instr := [.iconst 0, .istore 1, .iconst 0, .istore 2, .iload 2, .aload 0, .getfield 12012, .iconst 1, .iaload, .if_icmp .ge 26, .iload 1, .aload 0, .iload 2, .iconst 3, .invokevirtual 1664972, .iconst 1, 
  .if_icmp .ne 21, .iconst 1, .iload 2, .ishl, .goto 22, .iconst 0, .ior, .istore 1, .iinc 2 1, .goto 4, .iload 1, .ireturn]
def ps_320 : List Nat := [0, 1, 2, 3, 4, 5, 6, 9, 10, 11, 14, 15, 16, 17, 18, 21, 22, 25, 26, 27, 28, 31, 32, 33, 34, 37, 40, 41]
theorem ck_320 : xChkM 12 false (some .int) prog_14_method_121_code cd_320 ps_320 = true := xChkN_ok 0xac1bdfffa70102843c80030400a7781c040900a0042501b6061c2a1b1d00a22e040d00b42a1c3d033c03 42 0x002900280025002200210020001f001c001b001a001900160015001200110010000f000e000b000a00090006000500040003000200010000 28 (by decide +kernel)
/-- LastCloudModel.soonBy(I)I -/
def cd_321 : List Instr := [.aload 0, .iload 1, .invokevirtual 2528971, .aload 0, .getfield 12462, .aload 0, .getfield 12472, .aload 0, .getfield 12012, .iconst 12, .iaload, .iaload, .aload 0, .getfield 12012, .iconst 12, 
  .iaload, .aload 0, .getfield 12012, .iconst 13, .iaload, .invokestatic 2527932, .iaload, .istore 2, .iload 2, .iconst 1000, .if_icmp .ne 28, .iconst (-1), .goto 29, .iload 2, .ireturn]
def ps_321 : List Nat := [0, 1, 2, 5, 6, 9, 10, 13, 14, 17, 19, 20, 21, 22, 25, 27, 28, 29, 32, 34, 35, 38, 39, 40, 41, 44, 47, 48, 51, 52]
theorem ck_321 : xChkM 12 false (some .int) prog_14_method_122_code cd_321 ps_321 = true := xChkN_ok 0xac1c0400a7020700a0e803111c3d2e0c02b82e0d100d00b42a2e0c100d00b42a2e2e0c100d00b42a5c00b42a5900b42a1902b61b2a 53 0x003400330030002f002c0029002800270026002300220020001d001c001b001900160015001400130011000e000d000a000900060005000200010000 30 (by decide +kernel)
/-- LastCloudModel.soon()I -/
def cd_322 : List Instr := [.aload 0, .invokevirtual 2248964, .ifCond .eq 8, .aload 0, .aload 0, .invokevirtual 2560964, .invokevirtual 2568968, .goto 9, .iconst (-2), .ireturn]
def ps_322 : List Nat := [0, 1, 4, 7, 8, 9, 12, 15, 18, 20]
theorem ck_322 : xChkM 12 false (some .int) prog_14_method_123_code cd_322 ps_322 = true := xChkN_ok 0xacfe100500a71f02b61c02b62a2a0e0099a201b62a 21 0x00140012000f000c000900080007000400010000 10 (by decide +kernel)
/-- LastCloudModel.way(I)I -/
def cd_323 : List Instr := [.aload 0, .invokevirtual 2248964, .ifCond .ne 5, .iconst (-2), .ireturn, .aload 0, .aload 0, .invokevirtual 2560964, .invokevirtual 2568968, .istore 2, .iload 2, .iconst (-1), .if_icmp .eq 15, 
  .iload 1, .ifCond .ge 17, .iconst (-1), .ireturn, .aload 0, .getfield 12012, .iconst 12, .iaload, .istore 3, .aload 0, .getfield 12012, .iconst 13, .iaload, .istore 4, .aload 0, .getfield 12472, 
  .iload 3, .iaload, .istore 5, .iconst 0, .istore 6, .iload 2, .ifCond .le 105, .iload 6, .iload 1, .if_icmp .ge 105, .aload 0, .iload 5, .iload 3, .iload 4, .iload 2, .aload 0, .invokevirtual 2560964, 
  .invokevirtual 2544984, .ifCond .eq 57, .aload 0, .iload 3, .iload 4, .aload 0, .invokevirtual 2256964, .invokevirtual 2152976, .istore 4, .iinc 2 (-1), .goto 34, .iconst 300, .iconst 2, .iload 3, 
  .imul, .aload 0, .invokevirtual 2256964, .iadd, .imul, .istore 7, .aload 0, .iload 5, .iload 7, .iload 4, .iload 2, .invokevirtual 2552980, .ifCond .ne 75, .iinc 7 5, .goto 66, .aload 0, .iload 7, 
  .iload 4, .invokevirtual 2016972, .istore 4, .iload 2, .aload 0, .getfield 12212, .iload 7, .iconst 3, .iadd, .iaload, .isub, .istore 2, .aload 0, .getfield 12212, .iload 7, .iconst 2, .iadd, .iaload, 
  .istore 3, .iload 5, .aload 0, .getfield 12472, .iload 3, .iaload, .ior, .istore 5, .iinc 6 1, .goto 34, .iload 6, .iload 1, .if_icmp .ne 110, .iload 3, .goto 111, .iconst (-1), .ireturn]
def ps_323 : List Nat := [0, 1, 4, 7, 9, 10, 11, 12, 15, 18, 19, 20, 21, 24, 25, 28, 29, 30, 31, 34, 36, 37, 38, 39, 42, 44, 45, 47, 48, 51, 52, 53, 55, 56, 58, 59, 62, 64, 65, 68, 69, 71, 72, 74, 75, 76, 79, 82, 85, 86, 87, 
  89, 90, 93, 96, 98, 101, 104, 107, 108, 109, 110, 111, 114, 115, 116, 118, 119, 121, 123, 125, 126, 129, 132, 135, 138, 139, 141, 143, 146, 148, 149, 150, 153, 155, 156, 157, 158, 159, 160, 161, 164, 
  166, 167, 168, 169, 170, 172, 173, 176, 177, 178, 179, 181, 184, 187, 189, 190, 193, 194, 197, 198]
theorem ck_323 : xChkM 12 false (some .int) prog_14_method_124_code cd_323 ps_323 = true := xChkN_ok 0xac020400a71d0700a01b061582ffa70106840536802e1d5c00b42a05153e2e600507152e00b42a3d642e600607152e00b42a1c04366101b6041507152aefffa705078409009a1602b61c0415071505152a07366860a501b62a681d052c0111d5ffa7ff028404368101b6a501b62a04151d2a1600991302b61c02b62a1c04151d05152a7a00a21b061580009e1c06360305362e1d5c00b42a04362e0d100d00b42a3e2e0c100d00b42aac0205009c1b07009f021c3d1f02b61c02b62a2aacfe1006009aa201b62a 199 0x00c600c500c200c100be00bd00bb00b800b500b300b200b100b000ad00ac00aa00a900a800a700a600a400a100a0009f009e009d009c009b00990096009500940092008f008d008b008a008700840081007e007d007b007900770076007400730072006f006e006d006c006b0068006500620060005d005a00590057005600550052004f004c004b004a004800470045004400410040003e003b003a003800370035003400330030002f002d002c002a00270026002500240022001f001e001d001c001900180015001400130012000f000c000b000a00090007000400010000 112 (by decide +kernel)
