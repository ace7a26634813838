/-- LastCloud.end(I)I -/
def cd_135 : List Instr := [.iload 1, .ifCond .lt 6, .iload 1, .aload 0, .getfield 11010, .if_icmp .le 8, .iconst (-1), .ireturn, .aload 0, .iload 1, .putfield 11010, .iload 1, .ireturn]
def ps_135 : List Nat := [0, 1, 4, 5, 6, 9, 12, 13, 14, 15, 16, 19, 20]
theorem ck_135 : xChkM 11 false (some .int) prog_1_method_4_code cd_135 ps_135 = true := xChkN_ok 0xac1b6700b51b2aac020500a46700b42a1b0b009b1b 21 0x001400130010000f000e000d000c000900060005000400010000 13 (by decide +kernel)
/-- LastCloud.sky()I -/
def cd_136 : List Instr := [.aload 0, .getfield 11062, .invokevirtual 888807, .aload 0, .aload 0, .getfield 11022, .aload 0, .getfield 11010, .aload 0, .getfield 11062, .invokevirtual 568572, .putfield 11030, .aload 0, .aload 0, 
  .getfield 11022, .getfield 7070, .putfield 11040, .aload 0, .iconst 0, .putfield 11010, .aload 0, .getfield 11030, .ifCond .eq 25, .iconst (-4), .ireturn, .aload 0, .getfield 11052, .astore 1, 
  .aload 0, .aload 0, .getfield 11062, .putfield 11052, .aload 0, .aload 1, .putfield 11062, .aload 0, .getfield 11092, .aload 0, .getfield 11052, .invokevirtual 136091, .aload 0, .invokevirtual 1104887, 
  .aload 0, .getfield 11052, .getfield 10060, .ireturn]
def ps_136 : List Nat := [0, 1, 4, 7, 8, 9, 12, 13, 16, 17, 20, 23, 26, 27, 28, 31, 34, 37, 38, 39, 42, 43, 46, 49, 51, 52, 53, 56, 57, 58, 59, 62, 65, 66, 67, 70, 71, 74, 75, 78, 81, 82, 85, 86, 89, 92]
theorem ck_136 : xChkM 11 false (some .int) prog_1_method_5_code cd_136 ps_136 = true := xChkN_ok 0xac7c00b41d00b42a7900b62a6300b61d00b42a2f00b42a2100b52b2a1d00b52100b42a2a4c1d00b42aacfc100600997500b42a6700b5032a1600b57800b41200b42a2a7500b57100b62100b42a6700b42a1200b42a2a6e00b62100b42a 93 0x005c00590056005500520051004e004b004a00470046004300420041003e003b003a003900380035003400330031002e002b002a0027002600250022001f001c001b001a0017001400110010000d000c000900080007000400010000 46 (by decide +kernel)
/-- LastCloud.fault(I)I -/
def cd_137 : List Instr := [.iload 1, .ifCond .ne 5, .aload 0, .getfield 11030, .ireturn, .iload 1, .iconst 1, .if_icmp .ne 11, .aload 0, .getfield 11040, .goto 12, .iconst (-1), .ireturn]
def ps_137 : List Nat := [0, 1, 4, 5, 8, 9, 10, 11, 14, 15, 18, 21, 22]
theorem ck_137 : xChkM 11 false (some .int) prog_1_method_6_code cd_137 ps_137 = true := xChkN_ok 0xac020400a71600b42a0a00a0041bac7500b42a08009a1b 23 0x001600150012000f000e000b000a000900080005000400010000 13 (by decide +kernel)
/-- LastCloud.forgetPlans()V -/
def cd_138 : List Instr := [.iconst 0, .istore 1, .iload 1, .aload 0, .getfield 11102, .arraylength, .if_icmp .ge 20, .aload 0, .getfield 11102, .iload 1, .aaload, .ifnull 18, .aload 0, .getfield 11102, .iload 1, .aaload, 
  .iconst 0, .putfield 5093, .iinc 1 1, .goto 2, .return_]
def ps_138 : List Nat := [0, 1, 2, 3, 4, 7, 8, 11, 12, 15, 16, 17, 20, 21, 24, 25, 26, 27, 30, 33, 36]
theorem ck_138 : xChkM 11 false none prog_1_method_7_code cd_138 ps_138 = true := xChkN_ok 0xb1e1ffa70101847f00b503321b3500b42a0d00c6321b3500b42a1c00a2be3500b42a1b3c03 37 0x00240021001e001b001a001900180015001400110010000f000c000b0008000700040003000200010000 21 (by decide +kernel)
/-- LastCloud.periods(IZIZ)I -/
def cd_139 : List Instr := [.aload 0, .getfield 11052, .iload 1, .invokevirtual 912808, .ifCond .eq 10, .aload 0, .getfield 11052, .iload 3, .invokevirtual 920808, .ifCond .ne 12, .iconst (-2), .ireturn, .aload 0, 
  .getfield 11052, .iload 1, .iload 2, .iload 3, .iload 4, .invokevirtual 992820, .ireturn]
def ps_139 : List Nat := [0, 1, 4, 5, 8, 11, 12, 15, 16, 19, 22, 24, 25, 26, 29, 30, 31, 32, 34, 37]
theorem ck_139 : xChkM 11 false (some .int) prog_1_method_8_code cd_139 ps_139 = true := xChkN_ok 0xac8a00b604151d1c1b1d00b42aacfe1006009a8700b61d1d00b42a0e00998300b61b1d00b42a 38 0x002500220020001f001e001d001a00190018001600130010000f000c000b00080005000400010000 20 (by decide +kernel)
/-- LastCloud.loss(IZIZ)I -/
def cd_140 : List Instr := [.aload 0, .getfield 11052, .iload 1, .invokevirtual 912808, .ifCond .eq 10, .aload 0, .getfield 11052, .iload 3, .invokevirtual 920808, .ifCond .ne 12, .iconst (-2000000000), .ireturn, .aload 0, 
  .getfield 11052, .iload 1, .iload 2, .iload 3, .iload 4, .invokevirtual 1000820, .ireturn]
def ps_140 : List Nat := [0, 1, 4, 5, 8, 11, 12, 15, 16, 19, 22, 24, 25, 26, 29, 30, 31, 32, 34, 37]
theorem ck_140 : xChkM 11 false (some .int) prog_1_method_9_code cd_140 ps_140 = true := xChkN_ok 0xac8f00b604151d1c1b1d00b42aac8e1206009a8700b61d1d00b42a0e00998300b61b1d00b42a 38 0x002500220020001f001e001d001a00190018001600130010000f000c000b00080005000400010000 20 (by decide +kernel)
/-- LastCloud.climb(IZ)I -/
def cd_141 : List Instr := [.aload 0, .getfield 11052, .iload 1, .invokevirtual 904808, .ifCond .eq 11, .aload 0, .getfield 11052, .iload 1, .iload 2, .invokevirtual 1008812, .goto 12, .iconst (-2), .ireturn]
def ps_141 : List Nat := [0, 1, 4, 5, 8, 11, 12, 15, 16, 17, 20, 23, 25]
theorem ck_141 : xChkM 11 false (some .int) prog_1_method_10_code cd_141 ps_141 = true := xChkN_ok 0xacfe100500a79500b61c1b1d00b42a0f00999200b61b1d00b42a 26 0x00190017001400110010000f000c000b00080005000400010000 13 (by decide +kernel)
/-- LastCloud.chance(I)I -/
def cd_142 : List Instr := [.aload 0, .getfield 11052, .iload 1, .invokevirtual 904808, .ifCond .eq 10, .aload 0, .getfield 11052, .iload 1, .invokevirtual 1032808, .goto 11, .iconst (-2), .ireturn]
def ps_142 : List Nat := [0, 1, 4, 5, 8, 11, 12, 15, 16, 19, 22, 24]
theorem ck_142 : xChkM 11 false (some .int) prog_1_method_11_code cd_142 ps_142 = true := xChkN_ok 0xacfe100500a79900b61b1d00b42a0e00999200b61b1d00b42a 25 0x0018001600130010000f000c000b00080005000400010000 12 (by decide +kernel)
/-- LastCloud.sight(II)I -/
def cd_143 : List Instr := [.aload 0, .getfield 11052, .iload 1, .invokevirtual 904808, .ifCond .eq 10, .iload 2, .ifCond .lt 10, .iload 2, .iconst 3, .if_icmp .le 12, .iconst (-2), .ireturn, .aload 0, .getfield 11052, 
  .getfield 10032, .getfield 9000, .iconst 20, .if_icmp .lt 20, .iconst (-3), .ireturn, .aload 0, .getfield 11052, .getfield 10032, .iload 1, .iload 2, .invokevirtual 864735, .aload 0, 
  .invokevirtual 1104887, .aload 0, .getfield 11052, .getfield 10032, .getfield 9000, .ireturn]
def ps_143 : List Nat := [0, 1, 4, 5, 8, 11, 12, 15, 16, 17, 20, 22, 23, 24, 27, 30, 33, 35, 38, 40, 41, 42, 45, 48, 49, 50, 53, 54, 57, 58, 61, 64, 67]
theorem ck_143 : xChkM 11 false (some .int) prog_1_method_12_code cd_143 ps_143 = true := xChkN_ok 0xaca100b49d00b41d00b42a7900b62aa600b61c1b9d00b41d00b42aacfd100600a11410a100b49d00b41d00b42aacfe100600a4061c08009b1c0c00999200b61b1d00b42a 68 0x00430040003d003a003900360035003200310030002d002a00290028002600230021001e001b001800170016001400110010000f000c000b00080005000400010000 33 (by decide +kernel)
/-- LastCloud.unsee(I)I -/
def cd_144 : List Instr := [.iload 1, .ifCond .lt 8, .iload 1, .aload 0, .getfield 11052, .getfield 10032, .getfield 9000, .if_icmp .le 10, .iconst (-2), .ireturn, .aload 0, .getfield 11052, .getfield 10032, .dup, .getfield 9000, 
  .iload 1, .isub, .putfield 9000, .aload 0, .invokevirtual 1104887, .aload 0, .getfield 11052, .getfield 10032, .getfield 9000, .ireturn]
def ps_144 : List Nat := [0, 1, 4, 5, 6, 9, 12, 15, 18, 20, 21, 22, 25, 28, 29, 32, 33, 34, 37, 38, 41, 42, 45, 48, 51]
theorem ck_144 : xChkM 11 false (some .int) prog_1_method_13_code cd_144 ps_144 = true := xChkN_ok 0xaca100b49d00b41d00b42a7900b62aa100b5641ba100b4599d00b41d00b42aacfe100600a4a100b49d00b41d00b42a1b11009b1b 52 0x00330030002d002a002900260025002200210020001d001c00190016001500140012000f000c000900060005000400010000 25 (by decide +kernel)
/-- LastCloud.sign(IZ)I -/
def cd_145 : List Instr := [.aload 0, .getfield 11052, .iload 1, .invokevirtual 904808, .ifCond .ne 7, .iconst (-2), .ireturn, .aload 0, .getfield 11052, .getfield 10002, .iload 1, .aaload, .astore 3, .aload 3, .aload 3, 
  .getfield 4030, .iload 2, .iconst 10000, .invokevirtual 352336, .ireturn]
def ps_145 : List Nat := [0, 1, 4, 5, 8, 11, 13, 14, 15, 18, 21, 22, 23, 24, 25, 26, 29, 30, 33, 36]
theorem ck_145 : xChkM 11 false (some .int) prog_1_method_14_code cd_145 ps_145 = true := xChkN_ok 0xacb300b61027111cae00b42d2d4e321baa00b41d00b42aacfe1006009a9200b61b1d00b42a 37 0x00240021001e001d001a001900180017001600150012000f000e000d000b00080005000400010000 20 (by decide +kernel)
/-- LastCloud.reach(IIIZ)I -/
def cd_146 : List Instr := [.aload 0, .getfield 11052, .iload 1, .iload 2, .invokevirtual 928812, .ifCond .eq 11, .aload 0, .getfield 11052, .iload 3, .invokevirtual 904808, .ifCond .ne 13, .iconst (-2), .ireturn, .aload 0, 
  .getfield 11092, .aload 0, .getfield 11052, .iload 1, .iload 2, .iload 4, .invokevirtual 200103, .aload 0, .getfield 11092, .iload 3, .invokevirtual 168088, .ireturn]
def ps_146 : List Nat := [0, 1, 4, 5, 6, 9, 12, 13, 16, 17, 20, 23, 25, 26, 27, 30, 31, 34, 35, 36, 38, 41, 42, 45, 46, 49]
theorem ck_146 : xChkM 11 false (some .int) prog_1_method_15_code cd_146 ps_146 = true := xChkN_ok 0xacbf00b61d2f00b42abb00b604151c1b1d00b42a2f00b42aacfe1006009a9200b61d1d00b42a0e0099b700b61c1b1d00b42a 50 0x0031002e002d002a00290026002400230022001f001e001b001a00190017001400110010000d000c000900060005000400010000 26 (by decide +kernel)
/-- LastCloud.fields(IIZ)I -/
def cd_147 : List Instr := [.aload 0, .getfield 11052, .iload 1, .iload 2, .invokevirtual 928812, .ifCond .ne 8, .iconst (-2), .ireturn, .aload 0, .getfield 11092, .aload 0, .getfield 11052, .iload 1, .iload 2, .iload 3, 
  .invokevirtual 200103, .iconst 0, .istore 4, .iconst 0, .istore 5, .iload 5, .aload 0, .getfield 11052, .getfield 10040, .if_icmp .ge 44, .aload 0, .getfield 11092, .iload 5, .invokevirtual 168088, 
  .iconst (-1), .if_icmp .eq 42, .aload 0, .getfield 11052, .iload 5, .invokevirtual 960808, .ifCond .eq 42, .iload 4, .iconst 1, .iload 5, .ishl, .ior, .istore 4, .iinc 5 1, .goto 20, .iload 4, 
  .ireturn]
def ps_147 : List Nat := [0, 1, 4, 5, 6, 9, 12, 14, 15, 16, 19, 20, 23, 24, 25, 26, 29, 30, 32, 33, 35, 37, 38, 41, 44, 47, 48, 51, 53, 56, 57, 60, 61, 64, 66, 69, 72, 74, 75, 77, 78, 79, 81, 84, 87, 89]
theorem ck_147 : xChkM 11 false (some .int) prog_1_method_16_code cd_147 ps_147 = true := xChkN_ok 0xac0415cfffa70105840436807805150404150c0099c500b605151d00b42a18009f02bf00b605152f00b42a2b00a2c200b41d00b42a0515053603043603bb00b61d1c1b1d00b42a2f00b42aacfe1006009ab700b61c1b1d00b42a 90 0x0059005700540051004f004e004d004b004a0048004500420040003d003c00390038003500330030002f002c002900260025002300210020001e001d001a001900180017001400130010000f000e000c000900060005000400010000 46 (by decide +kernel)
/-- LastCloud.edge(IZ)I -/
def cd_148 : List Instr := [.aload 0, .getfield 11052, .iload 1, .invokevirtual 904808, .ifCond .ne 7, .iconst (-2), .ireturn, .aload 0, .getfield 11092, .iload 1, .iload 2, .invokevirtual 160092, .istore 3, .iload 3, 
  .iconst 1000000, .if_icmp .ne 18, .iconst (-1), .goto 19, .iload 3, .ireturn]
def ps_148 : List Nat := [0, 1, 4, 5, 8, 11, 13, 14, 15, 18, 19, 20, 23, 24, 25, 27, 30, 31, 34, 35]
theorem ck_148 : xChkM 11 false (some .int) prog_1_method_17_code cd_148 ps_148 = true := xChkN_ok 0xac1d0400a7020700a0cb121d3ec800b61c1b2f00b42aacfe1006009a9200b61b1d00b42a 36 0x00230022001f001e001b001900180017001400130012000f000e000d000b00080005000400010000 20 (by decide +kernel)
/-- LastCloud.tour(IIZ)I -/
def cd_149 : List Instr := [.aload 0, .getfield 11052, .iload 1, .iload 2, .invokevirtual 928812, .ifCond .ne 8, .iconst (-2), .ireturn, .aload 0, .getfield 11092, .aload 0, .getfield 11052, .iload 1, .iload 2, .iload 3, 
  .invokevirtual 200103, .iconst 0, .istore 4, .iconst 0, .istore 5, .iload 5, .aload 0, .getfield 11052, .getfield 10040, .if_icmp .ge 48, .aload 0, .getfield 11092, .iload 5, .invokevirtual 168088, 
  .istore 6, .iload 6, .iconst (-1), .if_icmp .eq 46, .iload 6, .aload 0, .getfield 11092, .iload 5, .iload 3, .invokevirtual 160092, .if_icmp .lt 46, .iload 4, .iconst 1, .iload 5, .ishl, .ior, 
  .istore 4, .iinc 5 1, .goto 20, .iload 4, .ireturn]
def ps_149 : List Nat := [0, 1, 4, 5, 6, 9, 12, 14, 15, 16, 19, 20, 23, 24, 25, 26, 29, 30, 32, 33, 35, 37, 38, 41, 44, 47, 48, 51, 53, 56, 58, 60, 61, 64, 66, 67, 70, 72, 73, 76, 79, 81, 82, 84, 85, 86, 88, 91, 94, 96]
theorem ck_149 : xChkM 11 false (some .int) prog_1_method_18_code cd_149 ps_149 = true := xChkN_ok 0xac0415c8ffa70105840436807805150404150c00a1c800b61d05152f00b42a06151b009f0206150636bf00b605152f00b42a3200a2c200b41d00b42a0515053603043603bb00b61d1c1b1d00b42a2f00b42aacfe1006009ab700b61c1b1d00b42a 97 0x0060005e005b005800560055005400520051004f004c004900480046004300420040003d003c003a0038003500330030002f002c002900260025002300210020001e001d001a001900180017001400130010000f000e000c000900060005000400010000 50 (by decide +kernel)
/-- LastCloud.street()I -/
def cd_150 : List Instr := [.aload 0, .getfield 11092, .aload 0, .getfield 11052, .invokevirtual 224088, .ireturn]
def ps_150 : List Nat := [0, 1, 4, 5, 8, 11]
theorem ck_150 : xChkM 11 false (some .int) prog_1_method_19_code cd_150 ps_150 = true := xChkN_ok 0xaccc00b61d00b42a2f00b42a 12 0x000b00080005000400010000 6 (by decide +kernel)
/-- LastCloud.fast(I)I -/
def cd_151 : List Instr := [.iload 1, .invokestatic 1231924, .ifCond .eq 9, .aload 0, .getfield 11052, .getfield 10022, .iload 1, .invokevirtual 536488, .goto 10, .iconst (-2), .ireturn]
def ps_151 : List Nat := [0, 1, 4, 7, 8, 11, 14, 15, 18, 21, 23]
theorem ck_151 : xChkM 11 false (some .int) prog_1_method_20_code cd_151 ps_151 = true := xChkN_ok 0xacfe100500a7d700b61bd300b41d00b42a110099d000b81b 24 0x001700150012000f000e000b00080007000400010000 11 (by decide +kernel)
/-- LastCloud.average(I)I -/
def cd_152 : List Instr := [.iload 1, .invokestatic 1231924, .ifCond .ne 5, .iconst (-2), .ireturn, .aload 0, .getfield 11052, .getfield 10022, .iload 1, .invokevirtual 536488, .istore 2, .iload 2, .iconst (-1), .if_icmp .ne 16, 
  .iconst (-1), .goto 22, .aload 0, .getfield 11052, .getfield 10022, .iload 2, .iload 1, .invokevirtual 544492, .ireturn]
def ps_152 : List Nat := [0, 1, 4, 7, 9, 10, 11, 14, 17, 18, 21, 22, 23, 24, 27, 28, 31, 32, 35, 38, 39, 40, 43]
theorem ck_152 : xChkM 11 false (some .int) prog_1_method_21_code cd_152 ps_152 = true := xChkN_ok 0xacdc00b61b1cd300b41d00b42a0f00a7020700a0021c3dd700b61bd300b41d00b42aacfe1006009ad000b81b 44 0x002b00280027002600230020001f001c001b001800170016001500120011000e000b000a00090007000400010000 23 (by decide +kernel)
/-- LastCloud.isClimb(I)Z -/
def cd_153 : List Instr := [.iload 0, .iconst 1, .if_icmp .lt 8, .iload 0, .iconst 2000, .if_icmp .gt 8, .iconst 1, .goto 9, .iconst 0, .freturn]
def ps_153 : List Nat := [0, 1, 2, 5, 6, 9, 12, 13, 16, 17]
theorem ck_153 : xChkM 11 false (some .boolean) prog_1_method_22_code cd_153 ps_153 = true := xChkN_ok 0xac030400a7040700a3d007111a0e00a1041a 18 0x00110010000d000c000900060005000200010000 10 (by decide +kernel)
/-- LastCloud.farthest()I -/
def cd_154 : List Instr := [.aload 0, .getfield 11052, .getfield 10022, .invokevirtual 552484, .ireturn]
def ps_154 : List Nat := [0, 1, 4, 7, 10]
theorem ck_154 : xChkM 11 false (some .int) prog_1_method_23_code cd_154 ps_154 = true := xChkN_ok 0xace000b6d300b41d00b42a 11 0x000a0007000400010000 5 (by decide +kernel)
/-- LastCloud.worth(IIIIZZ)I -/
def cd_155 : List Instr := [.iload 1, .invokestatic 1271924, .ifCond .eq 11, .aload 0, .getfield 11052, .iload 2, .iload 3, .iload 4, .iload 6, .invokevirtual 936820, .ifCond .ne 13, .iconst (-2000000000), .ireturn, .aload 0, 
  .iload 1, .invokevirtual 1272890, .astore 7, .aload 7, .iload 4, .iload 6, .invokevirtual 472415, .aload 7, .iload 4, .iload 6, .iload 2, .iload 3, .invokestatic 375936, .iload 5, 
  .invokevirtual 424412, .ireturn]
def ps_155 : List Nat := [0, 1, 4, 7, 8, 11, 12, 13, 15, 17, 20, 23, 25, 26, 27, 28, 31, 33, 35, 37, 39, 42, 44, 46, 48, 49, 50, 53, 55, 58]
theorem ck_155 : xChkM 11 false (some .int) prog_1_method_24_code cd_155 ps_155 = true := xChkN_ok 0xacf600b60515f200b81d1c061504150719ef00b6061504150719073aeb00b61b2aac8e1206009ae700b6061504151d1c1d00b42a130099e400b81b 59 0x003a00370035003200310030002e002c002a0027002500230021001f001c001b001a0019001700140011000f000d000c000b00080007000400010000 30 (by decide +kernel)
/-- LastCloud.deed(IIIIZZ)I -/
def cd_156 : List Instr := [.iload 1, .invokestatic 1271924, .ifCond .eq 11, .aload 0, .getfield 11052, .iload 2, .iload 3, .iload 4, .iload 6, .invokevirtual 936820, .ifCond .ne 13, .iconst (-2), .ireturn, .aload 0, .iload 1, 
  .invokevirtual 1272890, .astore 7, .aload 7, .iload 4, .iload 6, .invokevirtual 472415, .aload 7, .iload 4, .iload 6, .iload 2, .iload 3, .invokestatic 375936, .iload 5, .invokevirtual 448412, 
  .ireturn]
def ps_156 : List Nat := [0, 1, 4, 7, 8, 11, 12, 13, 15, 17, 20, 23, 25, 26, 27, 28, 31, 33, 35, 37, 39, 42, 44, 46, 48, 49, 50, 53, 55, 58]
theorem ck_156 : xChkM 11 false (some .int) prog_1_method_25_code cd_156 ps_156 = true := xChkN_ok 0xacf900b60515f200b81d1c061504150719ef00b6061504150719073aeb00b61b2aacfe1006009ae700b6061504151d1c1d00b42a130099e400b81b 59 0x003a00370035003200310030002e002c002a0027002500230021001f001c001b001a0019001700140011000f000d000c000b00080007000400010000 30 (by decide +kernel)
/-- LastCloud.home(IIIIZZ)I -/
def cd_157 : List Instr := [.iload 1, .invokestatic 1271924, .ifCond .eq 11, .aload 0, .getfield 11052, .iload 2, .iload 3, .iload 4, .iload 6, .invokevirtual 936820, .ifCond .ne 13, .iconst (-2), .ireturn, .aload 0, .iload 1, 
  .invokevirtual 1272890, .astore 7, .aload 7, .iload 4, .iload 6, .invokevirtual 472415, .aload 7, .iload 4, .iload 6, .iload 2, .iload 3, .invokestatic 375936, .iload 5, .invokevirtual 456412, 
  .ireturn]
def ps_157 : List Nat := [0, 1, 4, 7, 8, 11, 12, 13, 15, 17, 20, 23, 25, 26, 27, 28, 31, 33, 35, 37, 39, 42, 44, 46, 48, 49, 50, 53, 55, 58]
theorem ck_157 : xChkM 11 false (some .int) prog_1_method_26_code cd_157 ps_157 = true := xChkN_ok 0xacfc00b60515f200b81d1c061504150719ef00b6061504150719073aeb00b61b2aacfe1006009ae700b6061504151d1c1d00b42a130099e400b81b 59 0x003a00370035003200310030002e002c002a0027002500230021001f001c001b001a0019001700140011000f000d000c000b00080007000400010000 30 (by decide +kernel)
/-- LastCloud.isRule(I)Z -/
def cd_158 : List Instr := [.iload 0, .ifCond .lt 7, .iload 0, .iconst 4, .if_icmp .ge 7, .iconst 1, .goto 8, .iconst 0, .freturn]
def ps_158 : List Nat := [0, 1, 4, 5, 6, 9, 10, 13, 14]
theorem ck_158 : xChkM 11 false (some .boolean) prog_1_method_27_code cd_158 ps_158 = true := xChkN_ok 0xac030400a7040700a2071a0c009b1a 15 0x000e000d000a000900060005000400010000 9 (by decide +kernel)
/-- LastCloud.planOf(I)LLastCloud$Plan; -/
def cd_159 : List Instr := [.aload 0, .getfield 11102, .iload 1, .aaload, .ifnonnull 12, .aload 0, .getfield 11102, .iload 1, .new 5, .dup, .invokespecial 360407, .aastore, .aload 0, .getfield 11102, .iload 1, .aaload, .astore 2, 
  .aload 2, .getfield 5090, .ifCond .ne 27, .aload 2, .aload 0, .getfield 11052, .aload 0, .getfield 11092, .iload 1, .invokevirtual 376419, .aload 2, .areturn]
def ps_159 : List Nat := [0, 1, 4, 5, 6, 9, 10, 13, 14, 17, 18, 21, 22, 23, 26, 27, 28, 29, 30, 33, 36, 37, 38, 41, 42, 45, 46, 49, 50]
theorem ck_159 : xChkM 11 false (some (.object "LastCloud$Plan")) prog_1_method_28_code cd_159 ps_159 = true := xChkN_ok 0xb02c0001b61b2f00b42a1d00b42a2c10009a7f00b42c4d321b3500b42a53ff00b7593300bb1b3500b42a1000c7321b3500b42a 51 0x00320031002e002d002a00290026002500240021001e001d001c001b001a00170016001500120011000e000d000a000900060005000400010000 29 (by decide +kernel)
/-- LastCloud.trialPlan()LLastCloud$Plan; -/
def cd_160 : List Instr := [.aload 0, .getfield 11102, .iconst 4, .aaload, .ifnonnull 12, .aload 0, .getfield 11102, .iconst 4, .new 5, .dup, .invokespecial 360407, .aastore, .aload 0, .getfield 11102, .iconst 4, .aaload, 
  .aload 0, .getfield 11052, .aload 0, .getfield 11092, .iconst 0, .invokevirtual 376419, .aload 0, .getfield 11102, .iconst 4, .aaload, .areturn]
def ps_160 : List Nat := [0, 1, 4, 5, 6, 9, 10, 13, 14, 17, 18, 21, 22, 23, 26, 27, 28, 29, 32, 33, 36, 37, 40, 41, 44, 45, 46]
theorem ck_160 : xChkM 11 false (some (.object "LastCloud$Plan")) prog_1_method_29_code cd_160 ps_160 = true := xChkN_ok 0xb032073500b42a0001b6032f00b42a1d00b42a32073500b42a53ff00b7593300bb073500b42a1000c732073500b42a 47 0x002e002d002c002900280025002400210020001d001c001b001a00170016001500120011000e000d000a000900060005000400010000 27 (by decide +kernel)
/-- LastCloud.start(I)I -/
def cd_161 : List Instr := [.iload 1, .invokestatic 1271924, .ifCond .eq 7, .aload 0, .getfield 11052, .invokevirtual 944804, .ifCond .ne 9, .iconst (-2000000000), .ireturn, .aload 0, .iload 1, .invokevirtual 1272890, .aload 0, 
  .getfield 11052, .invokevirtual 952804, .invokevirtual 464408, .ireturn]
def ps_161 : List Nat := [0, 1, 4, 7, 8, 11, 14, 17, 19, 20, 21, 22, 25, 26, 29, 32, 35]
theorem ck_161 : xChkM 11 false (some .int) prog_1_method_30_code cd_161 ps_161 = true := xChkN_ok 0xac0b01b60801b61d00b42aeb00b61b2aac8e1206009a0401b61d00b42a0d0099e400b81b 36 0x00230020001d001a001900160015001400130011000e000b00080007000400010000 17 (by decide +kernel)
