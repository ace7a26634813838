/-- LastCloud.cost(I)I -/
def cd_162 : List Instr := [.iload 1, .iconst 1, .if_icmp .eq 6, .iload 1, .iconst 3, .if_icmp .ne 10, .aload 0, .getfield 11052, .invokevirtual 944804, .ifCond .ne 12, .iconst (-2000000000), .ireturn, .aload 0, .getfield 11052, 
  .invokevirtual 952804, .istore 2, .aload 0, .iconst 0, .invokevirtual 1272890, .iload 2, .invokevirtual 464408, .aload 0, .iload 1, .invokevirtual 1272890, .iload 2, .invokevirtual 464408, .isub, 
  .ireturn]
def ps_162 : List Nat := [0, 1, 2, 5, 6, 7, 10, 11, 14, 17, 20, 22, 23, 24, 27, 30, 31, 32, 33, 36, 37, 40, 41, 42, 45, 46, 49, 50]
theorem ck_162 : xChkM 11 false (some .int) prog_1_method_31_code cd_162 ps_162 = true := xChkN_ok 0xac640b01b61ceb00b61b2a0b01b61ceb00b6032a3d0801b61d00b42aac8e1206009a0401b61d00b42a0d00a0061b08009f041b 51 0x00320031002e002d002a002900280025002400210020001f001e001b00180017001600140011000e000b000a000700060005000200010000 28 (by decide +kernel)
/-- LastCloud.leave(IIZ)I -/
def cd_163 : List Instr := [.aload 0, .iload 1, .iload 2, .iconst 1, .iload 3, .invokevirtual 1320900, .ireturn]
def ps_163 : List Nat := [0, 1, 2, 3, 4, 5, 8]
theorem ck_163 : xChkM 11 false (some .int) prog_1_method_32_code cd_163 ps_163 = true := xChkN_ok 0xac0f01b61d041c1b2a 9 0x0008000500040003000200010000 7 (by decide +kernel)
/-- LastCloud.on(IIZ)I -/
def cd_164 : List Instr := [.aload 0, .iload 1, .iload 2, .iconst 0, .iload 3, .invokevirtual 1320900, .ireturn]
def ps_164 : List Nat := [0, 1, 2, 3, 4, 5, 8]
theorem ck_164 : xChkM 11 false (some .int) prog_1_method_33_code cd_164 ps_164 = true := xChkN_ok 0xac0f01b61d031c1b2a 9 0x0008000500040003000200010000 7 (by decide +kernel)
/-- LastCloud.leastToLeave(IIZZ)I -/
def cd_165 : List Instr := [.aload 0, .getfield 11052, .iload 1, .aload 0, .getfield 11052, .getfield 10090, .iload 2, .iload 4, .invokevirtual 936820, .ifCond .ne 12, .iconst (-2), .ireturn, .aload 0, .iconst 0, 
  .invokevirtual 1272890, .astore 5, .aload 5, .iload 2, .iload 4, .invokevirtual 472415, .aload 0, .getfield 11052, .getfield 10002, .iload 1, .aaload, .getfield 4000, .istore 6, .iload 6, .aload 0, 
  .getfield 11052, .getfield 10090, .if_icmp .gt 46, .aload 5, .iload 2, .iload 4, .iload 1, .iload 6, .invokestatic 375936, .iload 3, .invokevirtual 448412, .iconst 100, .if_icmp .lt 44, .iload 6, 
  .ireturn, .iinc 6 1, .goto 27, .iconst (-1), .ireturn]
def ps_165 : List Nat := [0, 1, 4, 5, 6, 9, 12, 13, 15, 18, 21, 23, 24, 25, 26, 29, 31, 33, 34, 36, 39, 40, 43, 46, 47, 48, 51, 53, 55, 56, 59, 62, 65, 67, 68, 70, 71, 73, 76, 77, 80, 82, 85, 87, 88, 91, 94, 95]
theorem ck_165 : xChkM 11 false (some .int) prog_1_method_34_code cd_165 ps_165 = true := xChkN_ok 0xac02daffa7010684ac06150600a16410f900b61df200b806151b04151c05192000a31301b41d00b42a061506361601b4321baa00b41d00b42aef00b604151c0519053aeb00b6032aacfe1006009ae700b604151c1301b41d00b42a1b1d00b42a 96 0x005f005e005b00580057005500520050004d004c004900470046004400430041003e003b00380037003500330030002f002e002b00280027002400220021001f001d001a00190018001700150012000f000d000c000900060005000400010000 48 (by decide +kernel)
/-- LastCloud.last(II)I -/
def cd_166 : List Instr := [.aload 0, .getfield 11052, .iload 1, .iload 2, .iconst 0, .iconst 0, .invokevirtual 936820, .ifCond .ne 10, .iconst (-2), .ireturn, .aload 0, .iconst 0, .invokevirtual 1272890, .astore 3, .aload 0, 
  .getfield 11052, .getfield 10100, .istore 4, .iload 4, .ifCond .lt 38, .aload 3, .iload 4, .iconst 0, .invokevirtual 472415, .aload 3, .iload 4, .iconst 0, .iload 1, .iload 2, .invokestatic 375936, 
  .iconst 0, .invokevirtual 456412, .iconst 10000, .if_icmp .ne 36, .iload 4, .ireturn, .iinc 4 (-1), .goto 18, .iconst (-1), .ireturn]
def ps_166 : List Nat := [0, 1, 4, 5, 6, 7, 8, 11, 14, 16, 17, 18, 19, 22, 23, 24, 27, 30, 32, 34, 37, 38, 40, 41, 44, 45, 47, 48, 49, 50, 53, 54, 57, 60, 63, 65, 66, 69, 72, 73]
theorem ck_166 : xChkM 11 false (some .int) prog_1_method_35_code cd_166 ps_166 = true := xChkN_ok 0xac02dbffa7ff0484ac04150600a0102711fc00b603f200b81c1b0304152def00b60304152d26009b041504361901b41d00b42a4eeb00b6032aacfe1006009ae700b603031c1b1d00b42a 74 0x00490048004500420041003f003c003900360035003200310030002f002d002c002900280026002500220020001e001b0018001700160013001200110010000e000b0008000700060005000400010000 40 (by decide +kernel)
/-- LastCloud.weak(III)I -/
def cd_167 : List Instr := [.aload 0, .getfield 11052, .iload 1, .iload 2, .iload 3, .iconst 0, .invokevirtual 936820, .ifCond .ne 10, .iconst (-2), .ireturn, .aload 0, .getfield 11052, .getfield 10002, .iload 1, .aaload, 
  .getfield 4020, .ifCond .ne 19, .iconst (-1), .ireturn, .iload 3, .iconst 0, .iload 1, .iload 2, .invokestatic 375936, .istore 4, .iconst 0, .istore 5, .iload 5, .iconst 2000, .if_icmp .gt 54, 
  .aload 0, .invokevirtual 1280886, .astore 6, .aload 6, .iload 1, .aload 0, .getfield 11052, .iload 5, .iconst 0, .invokevirtual 1016812, .invokevirtual 408415, .aload 6, .iload 3, .iconst 0, 
  .invokevirtual 472415, .aload 6, .iload 4, .iconst 1, .invokevirtual 448412, .ifCond .ne 52, .iload 5, .ireturn, .iinc 5 250, .goto 27, .iconst (-1), .ireturn]
def ps_167 : List Nat := [0, 1, 4, 5, 6, 7, 8, 11, 14, 16, 17, 18, 21, 24, 25, 26, 29, 32, 33, 34, 35, 36, 37, 38, 41, 43, 44, 46, 48, 51, 54, 55, 58, 60, 62, 63, 64, 67, 69, 70, 73, 76, 78, 79, 80, 83, 85, 87, 88, 91, 94, 96, 
  97, 103, 106, 107]
theorem ck_167 : xChkM 11 false (some .int) prog_1_method_36_code cd_167 ps_167 = true := xChkN_ok 0xac02c7ffa7fa00050084c4ac051506009af900b60404150619ef00b6031d06192601b62301b60305151d00b42a1b0619063a1f01b62a3700a3d0071105150536030436f200b81c1b031dac0205009a1c01b4321baa00b41d00b42aacfe1006009ae700b6031d1c1b1d00b42a 108 0x006b006a006700610060005e005b00580057005500530050004f004e004c00490046004500430040003f003e003c003a0037003600330030002e002c002b00290026002500240023002200210020001d001a001900180015001200110010000e000b0008000700060005000400010000 56 (by decide +kernel)
/-- LastCloud.ends(IZ)I -/
def cd_168 : List Instr := [.iload 1, .invokestatic 1271924, .ifCond .eq 7, .aload 0, .getfield 11052, .invokevirtual 944804, .ifCond .ne 9, .iconst (-2000000000), .ireturn, .aload 0, .iload 1, .invokevirtual 1272890, .astore 3, 
  .aload 3, .iconst 0, .aload 0, .getfield 11052, .invokevirtual 952804, .invokevirtual 472415, .aload 0, .getfield 11112, .aload 3, .invokevirtual 264251, .iload 2, .ifCond .eq 29, .aload 0, 
  .getfield 11112, .getfield 3020, .goto 32, .aload 0, .getfield 11112, .getfield 3010, .ireturn]
def ps_168 : List Nat := [0, 1, 4, 7, 8, 11, 14, 17, 19, 20, 21, 22, 25, 26, 27, 28, 29, 32, 35, 38, 39, 42, 43, 46, 47, 50, 51, 54, 57, 60, 61, 64, 67]
theorem ck_168 : xChkM 11 false (some .int) prog_1_method_37_code cd_168 ps_168 = true := xChkN_ok 0xac3001b43c00b42a0a00a72d01b43c00b42a0d00991c2901b62d3c00b42aef00b60801b61d00b42a032d4eeb00b61b2aac8e1206009a0401b61d00b42a0d0099e400b81b 68 0x00430040003d003c0039003600330032002f002e002b002a0027002600230020001d001c001b001a001900160015001400130011000e000b00080007000400010000 33 (by decide +kernel)
/-- LastCloud.share(I)I -/
def cd_169 : List Instr := [.aload 0, .getfield 11052, .iload 1, .invokevirtual 904808, .ifCond .eq 9, .aload 0, .getfield 11052, .invokevirtual 944804, .ifCond .ne 11, .iconst (-2000000000), .ireturn, .aload 0, .iload 1, 
  .iconst 100, .invokevirtual 1376892, .aload 0, .invokevirtual 1384884, .isub, .ireturn]
def ps_169 : List Nat := [0, 1, 4, 5, 8, 11, 12, 15, 18, 21, 23, 24, 25, 26, 28, 31, 32, 35, 36]
theorem ck_169 : xChkM 11 false (some .int) prog_1_method_38_code cd_169 ps_169 = true := xChkN_ok 0xac643601b62a3301b664101b2aac8e1206009a0401b61d00b42a0d00999200b61b1d00b42a 37 0x002400230020001f001c001a00190018001700150012000f000c000b00080005000400010000 19 (by decide +kernel)
/-- LastCloud.known(I)I -/
def cd_170 : List Instr := [.aload 0, .getfield 11052, .iload 1, .invokevirtual 904808, .ifCond .eq 9, .aload 0, .getfield 11052, .invokevirtual 944804, .ifCond .ne 11, .iconst (-2000000000), .ireturn, .aload 0, .getfield 11052, 
  .iload 1, .invokevirtual 1032808, .istore 2, .aload 0, .iload 1, .iconst 100, .invokevirtual 1376892, .istore 3, .aload 0, .iload 1, .iconst 0, .invokevirtual 1376892, .istore 4, .iload 2, .iload 3, 
  .iload 4, .invokestatic 1399932, .aload 0, .invokevirtual 1384884, .isub, .ireturn]
def ps_170 : List Nat := [0, 1, 4, 5, 8, 11, 12, 15, 18, 21, 23, 24, 25, 28, 29, 32, 33, 34, 35, 37, 40, 41, 42, 43, 44, 47, 49, 50, 51, 53, 56, 57, 60, 61]
theorem ck_170 : xChkM 11 false (some .int) prog_1_method_39_code cd_170 ps_170 = true := xChkN_ok 0xac643601b62a3901b804151d1c04363301b6031b2a3e3301b664101b2a3d9900b61b1d00b42aac8e1206009a0401b61d00b42a0d00999200b61b1d00b42a 62 0x003d003c003900380035003300320031002f002c002b002a0029002800250023002200210020001d001c00190018001700150012000f000c000b00080005000400010000 34 (by decide +kernel)
/-- LastCloud.hawk(I)I -/
def cd_171 : List Instr := [.aload 0, .getfield 11052, .iload 1, .invokevirtual 904808, .ifCond .eq 9, .aload 0, .getfield 11052, .invokevirtual 944804, .ifCond .ne 11, .iconst (-2000000000), .ireturn, .aload 0, .getfield 11052, 
  .getfield 10002, .iload 1, .aaload, .astore 2, .aload 0, .getfield 11052, .iload 1, .invokevirtual 1032808, .istore 3, .iload 3, .aload 2, .getfield 4050, .imul, .iconst 100, .iload 3, .isub, .aload 2, 
  .getfield 4060, .imul, .iadd, .istore 4, .aload 0, .iload 1, .aload 2, .iload 3, .iconst 2, .invokevirtual 344332, .invokevirtual 1376892, .istore 5, .aload 0, .iload 1, .aload 2, .iload 3, .iconst 3, 
  .invokevirtual 344332, .invokevirtual 1376892, .istore 6, .iload 4, .iload 5, .imul, .iconst 10000, .iload 4, .isub, .iload 6, .imul, .iadd, .iconst 10000, .idiv, .aload 0, .invokevirtual 1384884, 
  .isub, .ireturn]
def ps_171 : List Nat := [0, 1, 4, 5, 8, 11, 12, 15, 18, 21, 23, 24, 25, 28, 31, 32, 33, 34, 35, 38, 39, 42, 43, 44, 45, 48, 49, 51, 52, 53, 54, 57, 58, 59, 61, 62, 63, 64, 65, 66, 69, 72, 74, 75, 76, 77, 78, 79, 82, 85, 87, 
  89, 91, 92, 95, 97, 98, 100, 101, 102, 105, 106, 107, 110, 111]
theorem ck_171 : xChkM 11 false (some .int) prog_1_method_40_code cd_171 ps_171 = true := xChkN_ok 0xac643601b62a6c10271160680615640415102711680515041506363301b64301b6061d2c1b2a05363301b64301b6051d2c1b2a043660684001b42c641d6410683d01b42c1d3e9900b61b1d00b42a4d321baa00b41d00b42aac8e1206009a0401b61d00b42a0d00999200b61b1d00b42a 112 0x006f006e006b006a006900660065006400620061005f005c005b0059005700550052004f004e004d004c004b004a00480045004200410040003f003e003d003b003a0039003600350034003300310030002d002c002b002a002700260023002200210020001f001c00190018001700150012000f000c000b00080005000400010000 65 (by decide +kernel)
/-- LastCloud.startWorthWith(II)I -/
def cd_172 : List Instr := [.aload 0, .iconst 0, .invokevirtual 1272890, .astore 3, .iload 2, .aload 3, .iload 1, .invokevirtual 392408, .if_icmp .eq 16, .aload 0, .invokevirtual 1280886, .astore 3, .aload 3, .iload 1, .iload 2, 
  .invokevirtual 400415, .aload 3, .aload 0, .getfield 11052, .invokevirtual 952804, .invokevirtual 464408, .ireturn]
def ps_172 : List Nat := [0, 1, 2, 5, 6, 7, 8, 9, 12, 15, 16, 19, 20, 21, 22, 23, 26, 27, 28, 31, 34, 37]
theorem ck_172 : xChkM 11 false (some .int) prog_1_method_41_code cd_172 ps_172 = true := xChkN_ok 0xac0b01b60801b61d00b42a2d4901b61c1b2d4e1f01b62a0e009f4601b61b2d1c4eeb00b6032a 38 0x00250022001f001c001b001a001700160015001400130010000f000c00090008000700060005000200010000 22 (by decide +kernel)
/-- LastCloud.bestStartWorth()I -/
def cd_173 : List Instr := [.aload 0, .iconst 0, .invokevirtual 1272890, .aload 0, .getfield 11052, .invokevirtual 952804, .invokevirtual 464408, .ireturn]
def ps_173 : List Nat := [0, 1, 2, 5, 6, 9, 12, 15]
theorem ck_173 : xChkM 11 false (some .int) prog_1_method_42_code cd_173 ps_173 = true := xChkN_ok 0xac0b01b60801b61d00b42aeb00b6032a 16 0x000f000c000900060005000200010000 8 (by decide +kernel)
/-- LastCloud.mixed(III)I -/
def cd_174 : List Instr := [.iload 0, .iload 1, .imul, .iconst 100, .iload 0, .isub, .iload 2, .imul, .iadd, .iconst 100, .idiv, .ireturn]
def ps_174 : List Nat := [0, 1, 2, 3, 5, 6, 7, 8, 9, 10, 12, 13]
theorem ck_174 : xChkM 11 false (some .int) prog_1_method_43_code cd_174 ps_174 = true := xChkN_ok 0xac6c641060681c641a6410681b1a 14 0x000d000c000a000900080007000600050003000200010000 12 (by decide +kernel)
/-- LastCloud.water()I -/
def cd_175 : List Instr := [.aload 0, .getfield 11052, .invokevirtual 944804, .ifCond .ne 6, .iconst (-2000000000), .ireturn, .aload 0, .getfield 11052, .getfield 10080, .ifCond .ne 12, .iconst 0, .ireturn, .aload 0, .iconst 0, 
  .invokevirtual 1272890, .astore 1, .aload 1, .iconst 1, .invokevirtual 464408, .aload 1, .iconst 0, .invokevirtual 464408, .isub, .ireturn]
def ps_175 : List Nat := [0, 1, 4, 7, 10, 12, 13, 14, 17, 20, 23, 24, 25, 26, 27, 30, 31, 32, 33, 36, 37, 38, 41, 42]
theorem ck_175 : xChkM 11 false (some .int) prog_1_method_44_code cd_175 ps_175 = true := xChkN_ok 0xac640b01b6032b0b01b6042b4ceb00b6032aac0305009a4c01b41d00b42aac8e1206009a0401b61d00b42a 43 0x002a002900260025002400210020001f001e001b001a00190018001700140011000e000d000c000a0007000400010000 24 (by decide +kernel)
/-- LastCloud.drop()I -/
def cd_176 : List Instr := [.aload 0, .getfield 11052, .invokevirtual 944804, .ifCond .eq 8, .aload 0, .getfield 11052, .invokevirtual 952804, .ifCond .ne 10, .iconst (-1), .ireturn, .aload 0, .iconst 0, .invokevirtual 1272890, 
  .astore 1, .aload 1, .iconst 0, .iconst 1, .invokevirtual 472415, .aload 0, .getfield 11132, .aload 0, .getfield 11052, .invokevirtual 16011, .iconst 0, .istore 2, .iload 2, .iconst 100, 
  .if_icmp .ge 52, .aload 0, .getfield 11132, .getfield 150, .ifCond .ne 52, .aload 0, .getfield 11132, .aload 1, .invokevirtual 56008, .istore 3, .iload 3, .iconst 1, .if_icmp .ne 44, .aload 0, 
  .getfield 11132, .getfield 120, .ireturn, .aload 0, .getfield 11132, .iload 3, .i2l, .invokevirtual 72008, .pop, .iinc 2 1, .goto 25, .iconst (-1), .ireturn]
def ps_176 : List Nat := [0, 1, 4, 7, 10, 11, 14, 17, 20, 21, 22, 23, 24, 27, 28, 29, 30, 31, 34, 35, 38, 39, 42, 45, 46, 47, 48, 50, 53, 54, 57, 60, 63, 64, 67, 68, 71, 72, 73, 74, 77, 78, 81, 84, 85, 86, 89, 90, 91, 94, 95, 
  98, 101, 102]
theorem ck_176 : xChkM 11 false (some .int) prog_1_method_45_code cd_176 ps_176 = true := xChkN_ok 0xac02cdffa7010284575c01b6851d4700b42aac5901b44700b42a0b00a0041d3e5501b62b4700b42a29009a5201b44700b42a3300a264101c3d034f01b61d00b42a4700b42aef00b604032b4ceb00b6032aac0205009a0801b61d00b42a0d00990401b61d00b42a 103 0x006600650062005f005e005b005a00590056005500540051004e004d004a004900480047004400430040003f003c00390036003500320030002f002e002d002a0027002600230022001f001e001d001c001b001800170016001500140011000e000b000a0007000400010000 54 (by decide +kernel)
/-- LastCloud.fly(II)I -/
def cd_177 : List Instr := [.iload 1, .invokestatic 1271924, .ifCond .eq 10, .iload 2, .invokestatic 1431924, .ifCond .eq 10, .aload 0, .getfield 11052, .invokevirtual 944804, .ifCond .ne 12, .iconst (-2), .ireturn, .aload 0, 
  .aload 0, .getfield 11122, .iload 1, .iload 2, .invokevirtual 1432899, .aload 0, .getfield 11122, .getfield 60, .ireturn]
def ps_177 : List Nat := [0, 1, 4, 7, 8, 11, 14, 15, 18, 21, 24, 26, 27, 28, 29, 32, 33, 34, 37, 38, 41, 44]
theorem ck_177 : xChkM 11 false (some .int) prog_1_method_46_code cd_177 ps_177 = true := xChkN_ok 0xac6701b44300b42a6301b61c1b4300b42a2aacfe1006009a0401b61d00b42a0d00996001b81c140099e400b81b 45 0x002c002900260025002200210020001d001c001b001a001800150012000f000e000b00080007000400010000 22 (by decide +kernel)
/-- LastCloud.isSeed(I)Z -/
def cd_178 : List Instr := [.iload 0, .ifCond .lt 7, .iload 0, .iconst 2000000000, .if_icmp .gt 7, .iconst 1, .goto 8, .iconst 0, .freturn]
def ps_178 : List Nat := [0, 1, 4, 5, 8, 11, 12, 15, 16]
theorem ck_178 : xChkM 11 false (some .boolean) prog_1_method_47_code cd_178 ps_178 = true := xChkN_ok 0xac030400a7040700a36801131a0e009b1a 17 0x0010000f000c000b00080005000400010000 9 (by decide +kernel)
/-- LastCloud.flyOnce(LLastCloud$Flight;II)V -/
def cd_179 : List Instr := [.aload 0, .iload 2, .invokevirtual 1272890, .astore 4, .aload 4, .iconst 0, .aload 0, .getfield 11052, .invokevirtual 952804, .invokevirtual 472415, .aload 1, .aload 4, .aload 0, .getfield 11052, 
  .iload 3, .invokevirtual 48019, .return_]
def ps_179 : List Nat := [0, 1, 2, 5, 7, 9, 10, 11, 14, 17, 20, 21, 23, 24, 27, 28, 31]
theorem ck_179 : xChkM 11 false none prog_1_method_48_code cd_179 ps_179 = true := xChkN_ok 0xb16901b61d1d00b42a04192bef00b60801b61d00b42a030419043aeb00b61c2a 32 0x001f001c001b00180017001500140011000e000b000a000900070005000200010000 17 (by decide +kernel)
/-- LastCloud.flown(II)I -/
def cd_180 : List Instr := [.aload 0, .getfield 11122, .iload 1, .iload 2, .invokevirtual 96012, .ireturn]
def ps_180 : List Nat := [0, 1, 4, 5, 6, 9]
theorem ck_180 : xChkM 11 false (some .int) prog_1_method_49_code cd_180 ps_180 = true := xChkN_ok 0xac6d01b61c1b4300b42a 10 0x000900060005000400010000 6 (by decide +kernel)
/-- LastCloud.landed(I)I -/
def cd_181 : List Instr := [.aload 0, .getfield 11122, .iload 1, .invokevirtual 104008, .ireturn]
def ps_181 : List Nat := [0, 1, 4, 5, 8]
theorem ck_181 : xChkM 11 false (some .int) prog_1_method_50_code cd_181 ps_181 = true := xChkN_ok 0xac7001b61b4300b42a 9 0x00080005000400010000 5 (by decide +kernel)
/-- LastCloud.judge(II)I -/
def cd_182 : List Instr := [.iload 1, .invokestatic 1567924, .ifCond .eq 10, .iload 2, .invokestatic 1431924, .ifCond .eq 10, .aload 0, .getfield 11052, .invokevirtual 944804, .ifCond .ne 12, .iconst (-2), .ireturn, .aload 0, 
  .getfield 11162, .iload 1, .iaload, .iconst (-1), .if_icmp .ne 20, .iconst (-6), .ireturn, .aload 0, .getfield 11132, .aload 0, .getfield 11052, .iload 2, .invokevirtual 8015, .iconst 0, .istore 3, 
  .iconst 0, .istore 4, .iload 4, .aload 0, .getfield 11162, .iload 1, .iaload, .if_icmp .ge 54, .aload 0, .getfield 11132, .getfield 150, .ifCond .ne 54, .aload 0, .getfield 11132, .aload 0, 
  .getfield 11152, .iload 1, .aaload, .iload 4, .laload, .invokevirtual 72008, .ifCond .ne 51, .goto 54, .iinc 3 1, .iinc 4 1, .goto 30, .iload 3, .ireturn]
def ps_182 : List Nat := [0, 1, 4, 7, 8, 11, 14, 15, 18, 21, 24, 26, 27, 28, 31, 32, 33, 34, 37, 39, 40, 41, 44, 45, 48, 49, 52, 53, 54, 55, 57, 59, 60, 63, 64, 65, 68, 69, 72, 75, 78, 79, 82, 83, 86, 87, 88, 90, 91, 94, 97, 
  100, 103, 106, 109, 110]
theorem ck_182 : xChkM 11 false (some .int) prog_1_method_51_code cd_182 ps_182 = true := xChkN_ok 0xac1dcfffa70104840103840c00a706009a5c01b62f0415321b5300b42a4700b42a22009a5201b44700b42a2c00a22e1b5600b42a04150436033e037601b61c1d00b42a4700b42aacfa100600a0022e1b5600b42aacfe1006009a0401b61d00b42a0d00996001b81c1400997301b81b 111 0x006e006d006a006700640061005e005b005a00580057005600530052004f004e004b00480045004400410040003f003c003b0039003700360035003400310030002d002c0029002800270025002200210020001f001c001b001a001800150012000f000e000b00080007000400010000 56 (by decide +kernel)
/-- LastCloud.flights(III)I -/
def cd_183 : List Instr := [.aload 0, .iload 1, .iload 2, .iload 3, .invokevirtual 1472896, .ifCond .ne 8, .iconst (-2), .ireturn, .iconst 0, .istore 4, .iconst 0, .istore 5, .iload 5, .iload 3, .if_icmp .ge 31, .aload 0, 
  .aload 0, .getfield 11132, .iload 1, .iload 2, .iload 5, .iadd, .invokevirtual 1432899, .aload 0, .getfield 11132, .getfield 160, .iconst 1, .if_icmp .ne 29, .iinc 4 1, .iinc 5 1, .goto 12, .iload 4, 
  .ireturn]
def ps_183 : List Nat := [0, 1, 2, 3, 4, 7, 10, 12, 13, 14, 16, 17, 19, 21, 22, 25, 26, 27, 30, 31, 32, 34, 35, 38, 39, 42, 45, 46, 49, 52, 55, 58, 60]
theorem ck_183 : xChkM 11 false (some .int) prog_1_method_52_code cd_183 ps_183 = true := xChkN_ok 0xac0415dcffa70105840104840600a0047d01b44700b42a6301b66005151c1b4700b42a2a2400a21d0515053603043603acfe1006009a7901b61d1c1b2a 61 0x003c003a003700340031002e002d002a00270026002300220020001f001e001b001a001900160015001300110010000e000d000c000a000700040003000200010000 33 (by decide +kernel)
/-- LastCloud.areFlights(III)Z -/
def cd_184 : List Instr := [.iload 1, .invokestatic 1271924, .ifCond .eq 18, .iload 2, .invokestatic 1431924, .ifCond .eq 18, .iload 3, .iconst 1, .if_icmp .lt 18, .iload 3, .iconst 40, .if_icmp .gt 18, .aload 0, .getfield 11052, 
  .invokevirtual 944804, .ifCond .eq 18, .iconst 1, .goto 19, .iconst 0, .freturn]
def ps_184 : List Nat := [0, 1, 4, 7, 8, 11, 14, 15, 16, 19, 20, 22, 25, 26, 29, 32, 35, 36, 39, 40]
theorem ck_184 : xChkM 11 false (some .boolean) prog_1_method_53_code cd_184 ps_184 = true := xChkN_ok 0xac030400a7040700990401b61d00b42a1100a328101d1700a1041d1c00996001b81c230099e400b81b 41 0x00280027002400230020001d001a00190016001400130010000f000e000b00080007000400010000 20 (by decide +kernel)
/-- LastCloud.sum(III)I -/
def cd_185 : List Instr := [.aload 0, .iload 1, .iload 2, .iload 3, .invokevirtual 1472896, .ifCond .ne 8, .iconst (-2000000000), .ireturn, .iconst 0, .istore 4, .iconst 0, .istore 5, .iload 5, .iload 3, .if_icmp .ge 31, 
  .aload 0, .aload 0, .getfield 11132, .iload 1, .iload 2, .iload 5, .iadd, .invokevirtual 1432899, .iload 4, .aload 0, .getfield 11132, .getfield 170, .iadd, .istore 4, .iinc 5 1, .goto 12, .iload 4, 
  .ireturn]
def ps_185 : List Nat := [0, 1, 2, 3, 4, 7, 10, 12, 13, 14, 16, 17, 19, 21, 22, 25, 26, 27, 30, 31, 32, 34, 35, 38, 40, 41, 44, 47, 48, 50, 53, 56, 58]
theorem ck_185 : xChkM 11 false (some .int) prog_1_method_54_code cd_185 ps_185 = true := xChkN_ok 0xac0415deffa70105840436608001b44700b42a04156301b66005151c1b4700b42a2a2200a21d0515053603043603ac8e1206009a7901b61d1c1b2a 59 0x003a0038003500320030002f002c002900280026002300220020001f001e001b001a001900160015001300110010000e000d000c000a000700040003000200010000 33 (by decide +kernel)
/-- LastCloud.spread(IIII)I -/
def cd_186 : List Instr := [.aload 0, .iload 1, .iload 2, .iload 3, .invokevirtual 1472896, .ifCond .eq 11, .iload 4, .ifCond .lt 11, .iload 4, .iconst 4, .if_icmp .le 13, .iconst (-2000000000), .ireturn, .aload 0, .aload 0, 
  .getfield 11132, .iload 1, .iload 2, .invokevirtual 1432899, .aload 0, .getfield 11132, .iload 4, .invokevirtual 112008, .istore 5, .iconst 1, .istore 6, .iload 6, .iload 3, .if_icmp .ge 66, .aload 0, 
  .aload 0, .getfield 11132, .iload 1, .iload 2, .iload 6, .iadd, .invokevirtual 1432899, .aload 0, .getfield 11132, .iload 4, .invokevirtual 112008, .istore 7, .iload 4, .ifCond .ne 49, .iload 5, 
  .iload 7, .dsub, .istore 5, .goto 64, .iload 4, .iconst 1, .if_icmp .eq 55, .iload 4, .iconst 4, .if_icmp .ne 60, .iload 5, .iload 7, .dadd, .istore 5, .goto 64, .iload 5, .iload 7, .iadd, .istore 5, 
  .iinc 6 1, .goto 26, .iload 5, .ireturn]
def ps_186 : List Nat := [0, 1, 2, 3, 4, 7, 10, 12, 15, 17, 18, 21, 23, 24, 25, 26, 29, 30, 31, 34, 35, 38, 40, 43, 45, 46, 48, 50, 51, 54, 55, 56, 59, 60, 61, 63, 64, 67, 68, 71, 73, 76, 78, 80, 83, 85, 87, 90, 92, 95, 97, 98, 
  101, 103, 104, 107, 109, 111, 114, 116, 119, 121, 123, 124, 126, 129, 132, 134]
theorem ck_186 : xChkM 11 false (some .int) prog_1_method_55_code cd_186 ps_186 = true := xChkN_ok 0xac0515afffa7010684053660071505150a00a705368b01b8071505150f00a007041509009f0404152200a705368601b8071505150f009a041507368301b604154700b42a6301b66006151c1b4700b42a2a5100a21d061506360405368301b604154700b42a6301b61c1b4700b42a2aac8e120600a407041509009b04150e00997901b61d1c1b2a 135 0x008600840081007e007c007b0079007700740072006f006d006b00680067006500620061005f005c005a0057005500530050004e004c00490047004400430040003f003d003c003b003800370036003300320030002e002d002b0028002600230022001f001e001d001a001900180017001500120011000f000c000a000700040003000200010000 68 (by decide +kernel)
/-- LastCloud.soon()I -/
def cd_187 : List Instr := [.aload 0, .getfield 11052, .invokevirtual 944804, .ifCond .eq 15, .aload 0, .getfield 11142, .aload 0, .getfield 11052, .aload 0, .getfield 11092, .aload 0, .getfield 11052, .invokevirtual 968804, 
  .invokevirtual 792656, .goto 16, .iconst (-2), .ireturn]
def ps_187 : List Nat := [0, 1, 4, 7, 10, 11, 14, 15, 18, 19, 22, 23, 26, 29, 32, 35, 37]
theorem ck_187 : xChkM 11 false (some .int) prog_1_method_56_code cd_187 ps_187 = true := xChkN_ok 0xacfe100500a79101b68e01b61d00b42a2f00b42a1d00b42a4d00b42a1c00990401b61d00b42a 38 0x002500230020001d001a0017001600130012000f000e000b000a0007000400010000 17 (by decide +kernel)
/-- LastCloud.way(I)I -/
def cd_188 : List Instr := [.aload 0, .getfield 11052, .invokevirtual 944804, .ifCond .ne 6, .iconst (-2), .ireturn, .aload 0, .getfield 11142, .aload 0, .getfield 11052, .aload 0, .getfield 11092, .aload 0, .getfield 11052, 
  .invokevirtual 968804, .invokevirtual 792656, .istore 2, .iload 2, .iconst (-1), .if_icmp .ne 22, .iconst (-1), .ireturn, .aload 0, .getfield 11142, .iload 2, .invokevirtual 832651, .iload 1, 
  .ifCond .lt 39, .iload 1, .aload 0, .getfield 11142, .getfield 8040, .if_icmp .ge 39, .aload 0, .getfield 11142, .getfield 8032, .iload 1, .iaload, .goto 40, .iconst (-1), .ireturn]
def ps_188 : List Nat := [0, 1, 4, 7, 10, 12, 13, 14, 17, 18, 21, 22, 25, 26, 29, 32, 35, 36, 37, 38, 41, 42, 43, 44, 47, 48, 51, 52, 55, 56, 57, 60, 63, 66, 67, 70, 73, 74, 75, 78, 79]
theorem ck_188 : xChkM 11 false (some .int) prog_1_method_57_code cd_188 ps_188 = true := xChkN_ok 0xac020400a72e1b9b01b44d00b42a0f00a29801b44d00b42a1b1a009b1b9501b61c4d00b42aac020500a0021c3d9101b68e01b61d00b42a2f00b42a1d00b42a4d00b42aacfe1006009a0401b61d00b42a 80 0x004f004e004b004a0049004600430042003f003c003900380037003400330030002f002c002b002a002900260025002400230020001d001a00190016001500120011000e000d000c000a0007000400010000 41 (by decide +kernel)
