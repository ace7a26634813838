/-- LastCloud$Plan.mixedAt(I)I -/
def cd_54 : List Instr := [.iload 1, .invokestatic 423924, .ifCond .eq 8, .aload 0, .getfield 5022, .iload 1, .iaload, .goto 9, .iconst (-2000000000), .ireturn]
def ps_54 : List Nat := [0, 1, 4, 7, 8, 11, 12, 13, 16, 18]
theorem ck_54 : xChkM 5 false (some .int) prog_7_method_10_code cd_54 ps_54 = true := xChkN_ok 0xac71120500a72e1b1300b42a0c00996d00b81b 19 0x00120010000d000c000b00080007000400010000 10 (by decide +kernel)
/-- LastCloud$Plan.doneAt(IZ)I -/
def cd_55 : List Instr := [.iload 1, .ifCond .lt 5, .iload 1, .iconst 46848, .if_icmp .lt 7, .iconst 0, .ireturn, .iload 2, .ifCond .eq 14, .aload 0, .getfield 5032, .iload 1, .iaload, .goto 18, .aload 0, .getfield 5042, 
  .iload 1, .iaload, .ireturn]
def ps_55 : List Nat := [0, 1, 4, 5, 7, 10, 11, 12, 13, 16, 17, 20, 21, 22, 25, 26, 29, 30, 31]
theorem ck_55 : xChkM 5 false (some .int) prog_7_method_11_code cd_55 ps_55 = true := xChkN_ok 0xac2e1b1900b42a0900a72e1b1600b42a0c00991cac030500a10b121b09009b1b 32 0x001f001e001d001a001900160015001400110010000d000c000b000a00070005000400010000 19 (by decide +kernel)
/-- LastCloud$Plan.deedAt(IZ)I -/
def cd_56 : List Instr := [.aload 0, .iload 1, .iload 2, .invokevirtual 440412, .iconst 1000, .irem, .iconst 1, .isub, .ireturn]
def ps_56 : List Nat := [0, 1, 2, 3, 6, 9, 10, 11, 12]
theorem ck_56 : xChkM 5 false (some .int) prog_7_method_12_code cd_56 ps_56 = true := xChkN_ok 0xac640470e803117200b61c1b2a 13 0x000c000b000a000900060003000200010000 9 (by decide +kernel)
/-- LastCloud$Plan.homeAt(IZ)I -/
def cd_57 : List Instr := [.aload 0, .iload 1, .iload 2, .invokevirtual 440412, .iconst 1000, .idiv, .ireturn]
def ps_57 : List Nat := [0, 1, 2, 3, 6, 9, 10]
theorem ck_57 : xChkM 5 false (some .int) prog_7_method_13_code cd_57 ps_57 = true := xChkN_ok 0xac6ce803117200b61c1b2a 11 0x000a000900060003000200010000 7 (by decide +kernel)
/-- LastCloud$Plan.startWorth(Z)I -/
def cd_58 : List Instr := [.aload 0, .iconst 0, .iload 1, .invokevirtual 472415, .aload 0, .iconst 0, .iload 1, .aload 0, .getfield 5102, .getfield 10150, .aload 0, .getfield 5102, .getfield 10160, .invokestatic 375936, 
  .invokevirtual 432408, .ireturn]
def ps_58 : List Nat := [0, 1, 2, 3, 6, 7, 8, 9, 10, 13, 16, 17, 20, 23, 26, 29]
theorem ck_58 : xChkM 5 false (some .int) prog_7_method_14_code cd_58 ps_58 = true := xChkN_ok 0xac8300b67f00b87c00b42800b42a7900b42800b42a1b032a7500b61b032a 30 0x001d001a0017001400110010000d000a00090008000700060003000200010000 16 (by decide +kernel)
/-- LastCloud$Plan.fill(IZ)V -/
def cd_59 : List Instr := [.aload 0, .getfield 5130, .iconst 1, .isub, .istore 3, .iload 3, .iload 1, .if_icmp .lt 17, .aload 0, .iload 3, .iconst 0, .invokevirtual 480415, .aload 0, .iload 3, .putfield 5130, .iinc 3 (-1), 
  .goto 5, .iload 2, .ifCond .eq 36, .aload 0, .getfield 5140, .iconst 1, .isub, .istore 3, .iload 3, .iload 1, .if_icmp .lt 36, .aload 0, .iload 3, .iconst 1, .invokevirtual 480415, .aload 0, .iload 3, 
  .putfield 5140, .iinc 3 (-1), .goto 24, .return_]
def ps_59 : List Nat := [0, 1, 4, 5, 6, 7, 8, 9, 12, 13, 14, 15, 18, 19, 20, 23, 26, 29, 30, 33, 34, 37, 38, 39, 40, 41, 42, 45, 46, 47, 48, 51, 52, 53, 56, 59, 62]
theorem ck_59 : xChkM 5 false none prog_7_method_15_code cd_59 ps_59 = true := xChkN_ok 0xb1edffa7ff03843c00b51d2a8600b6041d2a1400a11b1d3e64043c00b42a2000991cedffa7ff03843900b51d2a8600b6031d2a1400a11b1d3e64043900b42a 63 0x003e003b00380035003400330030002f002e002d002a0029002800270026002500220021001e001d001a0017001400130012000f000e000d000c00090008000700060005000400010000 37 (by decide +kernel)
/-- LastCloud$Plan.fillPeriod(IZ)V -/
def cd_60 : List Instr := [.iconst 0, .istore 3, .iload 3, .aload 0, .getfield 5102, .getfield 10040, .if_icmp .ge 72, .aload 0, .getfield 5102, .getfield 10002, .iload 3, .aaload, .getfield 4000, .istore 4, .iload 4, .aload 0, 
  .getfield 5102, .getfield 10090, .if_icmp .gt 70, .aload 0, .iload 1, .iload 2, .iload 3, .iload 4, .invokevirtual 488420, .istore 5, .iload 1, .iload 2, .iload 3, .iload 4, .invokestatic 375936, 
  .istore 6, .iload 6, .invokestatic 423924, .ifCond .eq 68, .aload 0, .iload 6, .iload 1, .iload 3, .iload 4, .iload 5, .iconst 1, .invokevirtual 504431, .aload 0, .iload 6, .iload 1, .iload 3, 
  .iload 4, .iload 5, .iconst 0, .invokevirtual 504431, .aload 0, .getfield 5022, .iload 6, .aload 0, .getfield 5062, .iload 3, .iaload, .aload 0, .getfield 5002, .iload 6, .iaload, .aload 0, 
  .getfield 5012, .iload 6, .iaload, .invokestatic 1399932, .iastore, .iinc 4 1, .goto 14, .iinc 3 1, .goto 2, .return_]
def ps_60 : List Nat := [0, 1, 2, 3, 4, 7, 10, 13, 14, 17, 20, 21, 22, 25, 27, 29, 30, 33, 36, 39, 40, 41, 42, 43, 45, 48, 50, 51, 52, 53, 55, 58, 60, 62, 65, 68, 69, 71, 72, 73, 75, 77, 78, 81, 82, 84, 85, 86, 88, 90, 91, 94, 
  95, 98, 100, 101, 104, 105, 106, 107, 110, 112, 113, 114, 117, 119, 120, 123, 124, 127, 130, 133, 136]
theorem ck_60 : xChkM 5 false none prog_7_method_16_code cd_60 ps_60 = true := xChkN_ok 0xb17dffa70103849cffa70104844f9c00b82e06151000b42a2e06150c00b42a2e1d1f00b42a06151300b42a9800b603051504151d1b06152a9800b604051504151d1b06152a3b00996d00b8061506367f00b804151d1c1b05369500b604151d1c1b2a5e00a39200b42800b42a041504368d00b4321d8900b42800b42a7e00a23f00b42800b42a1d3e03 137 0x008800850082007f007c007b007800770075007200710070006e006b006a00690068006500640062005f005e005b005a005800560055005400520051004e004d004b004900480047004500440041003e003c003a003700350034003300320030002d002b002a00290028002700240021001e001d001b00190016001500140011000e000d000a000700040003000200010000 73 (by decide +kernel)
/-- LastCloud$Plan.bestHop(IZII)I -/
def cd_61 : List Instr := [.iconst (-1), .istore 5, .iconst 0, .istore 6, .iload 3, .iload 2, .invokestatic 135928, .istore 7, .aload 0, .getfield 5112, .getfield 1002, .iload 7, .iaload, .istore 8, .iload 8, .aload 0, 
  .getfield 5112, .getfield 1002, .iload 7, .iconst 1, .iadd, .iaload, .if_icmp .ge 61, .iload 4, .aload 0, .getfield 5052, .iload 8, .iaload, .if_icmp .lt 59, .iload 1, .aload 0, .getfield 5112, 
  .getfield 1022, .iload 8, .iaload, .iadd, .aload 0, .getfield 5102, .getfield 10100, .if_icmp .gt 59, .aload 0, .aload 0, .iload 8, .iload 1, .iload 2, .iload 4, .invokevirtual 496420, 
  .invokevirtual 432408, .istore 9, .iload 5, .iconst (-1), .if_icmp .eq 55, .iload 9, .iload 6, .if_icmp .le 59, .iload 8, .istore 5, .iload 9, .istore 6, .iinc 8 1, .goto 14, .iload 5, .ireturn]
def ps_61 : List Nat := [0, 1, 3, 4, 6, 7, 8, 11, 13, 14, 17, 20, 22, 23, 25, 27, 28, 31, 34, 36, 37, 38, 39, 42, 44, 45, 48, 50, 51, 54, 55, 56, 59, 62, 64, 65, 66, 67, 70, 73, 76, 77, 78, 80, 81, 82, 84, 87, 90, 92, 94, 95, 
  98, 100, 102, 105, 107, 109, 111, 113, 116, 119, 121]
theorem ck_61 : xChkM 5 false (some .int) prog_7_method_17_code cd_61 ps_61 = true := xChkN_ok 0xac0515a5ffa701088406360915053608150b00a4061509150a009f02051509368300b6a600b604151c1b08152a2a2800a33400b42800b42a602e0815a300b42c00b42a1b3e00a12e08151c00b42a04155000a22e600407154c00b42c00b42a081508362e07154c00b42c00b42a0736a000b81c1d063603053602 122 0x0079007700740071006f006d006b0069006600640062005f005e005c005a00570054005200510050004e004d004c004900460043004200410040003e003b003800370036003300320030002d002c002a00270026002500240022001f001c001b00190017001600140011000e000d000b0008000700060004000300010000 63 (by decide +kernel)
/-- LastCloud$Plan.behind(IIZI)I -/
def cd_62 : List Instr := [.aload 0, .getfield 5102, .getfield 10090, .iload 4, .aload 0, .getfield 5112, .getfield 1032, .iload 1, .iaload, .isub, .dsub, .istore 5, .iload 2, .aload 0, .getfield 5112, .getfield 1022, .iload 1, 
  .iaload, .iadd, .iload 3, .aload 0, .getfield 5112, .getfield 1012, .iload 1, .iaload, .iload 5, .invokestatic 375936, .ireturn]
def ps_62 : List Nat := [0, 1, 4, 7, 9, 10, 13, 16, 17, 18, 19, 22, 24, 25, 26, 29, 32, 33, 34, 35, 36, 37, 40, 43, 44, 45, 47, 50]
theorem ck_62 : xChkM 5 false (some .int) prog_7_method_18_code cd_62 ps_62 = true := xChkN_ok 0xac7f00b805152e1b5600b42c00b42a1d602e1ba300b42c00b42a1c0536aa00b8642e1b5e00b42c00b42a04159200b42800b42a 51 0x0032002f002d002c002b0028002500240023002200210020001d001a0019001800160013001200110010000d000a00090007000400010000 28 (by decide +kernel)
/-- LastCloud$Plan.settle(IIIIIZ)V -/
def cd_63 : List Instr := [.iload 1, .iconst 488, .idiv, .iconst 2, .irem, .iconst 1, .if_icmp .ne 9, .iconst 1, .goto 10, .iconst 0, .istore 7, .aload 0, .getfield 5102, .aload 0, .getfield 5120, .iload 3, .iload 2, 
  .invokevirtual 1048816, .istore 8, .iconst (-1), .istore 9, .iload 3, .aload 0, .getfield 5102, .getfield 10140, .if_icmp .ne 28, .iconst 10000, .goto 29, .iconst 0, .istore 10, .aload 0, 
  .getfield 5102, .iload 4, .iload 7, .ifCond .eq 40, .aload 0, .getfield 5082, .iload 3, .iaload, .goto 44, .aload 0, .getfield 5072, .iload 3, .iaload, .iadd, .invokevirtual 1024808, .istore 11, 
  .iload 6, .ifCond .eq 83, .iload 11, .iload 4, .if_icmp .le 83, .iload 2, .aload 0, .getfield 5102, .getfield 10100, .if_icmp .ge 83, .iload 2, .iconst 1, .iadd, .iload 7, .iload 3, .iload 11, 
  .invokestatic 375936, .istore 12, .aload 0, .iload 12, .iconst 1, .invokevirtual 424412, .iload 8, .if_icmp .le 83, .aload 0, .iload 12, .iconst 1, .invokevirtual 424412, .istore 8, .iconst 0, 
  .istore 9, .aload 0, .iload 12, .iconst 1, .invokevirtual 456412, .istore 10, .iload 7, .ifCond .eq 109, .iload 2, .iconst 0, .iload 3, .iload 4, .invokestatic 375936, .istore 12, .aload 0, .iload 12, 
  .iload 6, .invokevirtual 424412, .iload 8, .if_icmp .le 109, .aload 0, .iload 12, .iload 6, .invokevirtual 424412, .istore 8, .iconst 1, .istore 9, .aload 0, .iload 12, .iload 6, .invokevirtual 456412, 
  .istore 10, .iload 5, .iconst (-1), .if_icmp .eq 151, .aload 0, .iload 5, .iload 2, .iload 7, .iload 4, .invokevirtual 496420, .istore 12, .aload 0, .iload 12, .invokevirtual 432408, .iload 8, 
  .if_icmp .le 151, .aload 0, .iload 12, .invokevirtual 432408, .istore 8, .aload 0, .getfield 5112, .getfield 1052, .iload 5, .iaload, .istore 9, .aload 0, .aload 0, .getfield 5112, .getfield 1012, 
  .iload 5, .iaload, .invokevirtual 392408, .aload 0, .iload 12, .iconst 1, .invokevirtual 456412, .aload 0, .iload 12, .iconst 0, .invokevirtual 456412, .invokestatic 1399932, .istore 10, .iload 6, 
  .ifCond .eq 170, .aload 0, .getfield 5002, .iload 1, .iload 8, .iastore, .aload 0, .getfield 5032, .iload 1, .iload 10, .iconst 1000, .imul, .iload 9, .iadd, .iconst 1, .iadd, .iastore, .goto 186, 
  .aload 0, .getfield 5012, .iload 1, .iload 8, .iastore, .aload 0, .getfield 5042, .iload 1, .iload 10, .iconst 1000, .imul, .iload 9, .iadd, .iconst 1, .iadd, .iastore, .return_]
def ps_63 : List Nat := [0, 1, 4, 5, 6, 7, 8, 11, 12, 15, 16, 18, 19, 22, 23, 26, 27, 28, 31, 33, 34, 36, 37, 38, 41, 44, 47, 50, 53, 54, 56, 57, 60, 62, 64, 67, 68, 71, 72, 73, 76, 77, 80, 81, 82, 83, 86, 88, 90, 93, 95, 97, 
  100, 101, 102, 105, 108, 111, 112, 113, 114, 116, 117, 119, 122, 124, 125, 127, 128, 131, 133, 136, 137, 139, 140, 143, 145, 146, 148, 149, 151, 152, 155, 157, 159, 162, 163, 164, 165, 167, 170, 172, 
  173, 175, 177, 180, 182, 185, 186, 188, 190, 193, 195, 196, 198, 199, 201, 203, 206, 208, 210, 211, 214, 215, 217, 218, 220, 222, 225, 227, 228, 230, 233, 235, 238, 239, 241, 244, 246, 247, 250, 253, 
  255, 256, 258, 259, 260, 263, 266, 268, 269, 272, 273, 275, 276, 279, 280, 282, 283, 286, 289, 291, 293, 296, 297, 300, 301, 303, 304, 305, 308, 309, 311, 314, 315, 317, 318, 319, 320, 321, 324, 325, 
  328, 329, 331, 332, 333, 336, 337, 339, 342, 343, 345, 346, 347, 348, 349]
theorem ck_63 : xChkM 5 false none prog_7_method_19_code cd_63 ps_63 = true := xChkN_ok 0xb14f600460091568e803110a151b1900b42a4f08151b1000b42a1c00a74f600460091568e803110a151b1600b42a4f08151b0c00b42a1f009906150a369c00b8b900b6030c152ab900b6040c152abf00b62e05155600b42c00b42a2a09362e0515bc00b42c00b42a08368300b60c152a3800a408158300b60c152a0c36a600b6041507151c05152a50009f0205150a36b900b606150c152a0936040836b600b606150c152a1a00a40815b600b606150c152a0c367f00b804151d031c31009907150a36b900b6040c152a0936030836b600b6040c152a1800a40815b600b6040c152a0c367f00b80b151d071560041c3100a23400b42800b42a1c3c00a404150b1543009906150b36b300b6602e1d2200b42a0900a72e1d2500b42a0c0099071504152800b42a0a36030400a71027110900a0b000b42800b42a1d0936020836ad00b61c1d3000b42a2800b42a0736030400a7040700a00470056ce801111b 350 0x015d015c015b015a015901570156015301510150014d014c014b014901480145014401410140013f013e013d013b013a01370135013401310130012f012d012c01290128012501230121011e011b011a011801170114011301110110010d010c010a0107010401030102010000ff00fd00fa00f700f600f400f100ef00ee00eb00e900e600e400e300e100de00dc00da00d900d700d600d300d200d000ce00cb00c900c700c600c400c300c100be00bc00ba00b900b600b400b100af00ad00ac00aa00a700a500a400a300a2009f009d009b009800970095009400920091008f008c008b00890088008500830080007f007d007c007a007700750074007200710070006f006c00690066006500640061005f005d005a005800560053005200510050004d004c004900480047004400430040003e003c00390038003600350032002f002c002900260025002400220021001f001c001b001a00170016001300120010000f000c000b0008000700060005000400010000 187 (by decide +kernel)
/-- LastCloud$Polar.<init>()V -/
def cd_64 : List Instr := [.aload 0, .dneg, .aload 0, .iconst 6, .newarray .int, .putfield 6012, .aload 0, .iconst 6, .newarray .int, .putfield 6022, .return_]
def ps_64 : List Nat := [0, 1, 4, 5, 7, 9, 12, 13, 15, 17, 20]
theorem ck_64 : xChkM 6 true none prog_8_method_1_code cd_64 ps_64 = true := xChkN_ok 0xb10f00b50abc06102a0900b50abc06102a0300b72a 21 0x00140011000f000d000c000900070005000400010000 11 (by decide +kernel)
/-- LastCloud$Polar.add(II)V -/
def cd_65 : List Instr := [.aload 0, .getfield 6000, .iconst 6, .if_icmp .ge 22, .aload 0, .getfield 6012, .aload 0, .getfield 6000, .iload 1, .iastore, .aload 0, .getfield 6022, .aload 0, .getfield 6000, .iload 2, .iastore, 
  .aload 0, .dup, .getfield 6000, .iconst 1, .iadd, .putfield 6000, .return_]
def ps_65 : List Nat := [0, 1, 4, 6, 9, 10, 13, 14, 17, 18, 19, 20, 23, 24, 27, 28, 29, 30, 31, 34, 35, 36, 39]
theorem ck_65 : xChkM 6 false none prog_8_method_2_code cd_65 ps_65 = true := xChkN_ok 0xb11200b560041200b4592a4f1c1200b42a0f00b42a4f1b1200b42a0900b42a2100a206101200b42a 40 0x0027002400230022001f001e001d001c001b001800170014001300120011000e000d000a00090006000400010000 23 (by decide +kernel)
/-- LastCloud$Polar.copyFrom(LLastCloud$Polar;)V -/
def cd_66 : List Instr := [.aload 0, .aload 1, .getfield 6000, .putfield 6000, .aload 1, .getfield 6012, .iconst 0, .aload 0, .getfield 6012, .iconst 0, .iconst 6, .dmul, .aload 1, .getfield 6022, .iconst 0, .aload 0, 
  .getfield 6022, .iconst 0, .iconst 6, .dmul, .return_]
def ps_66 : List Nat := [0, 1, 2, 5, 8, 9, 12, 13, 14, 17, 18, 20, 23, 24, 27, 28, 29, 32, 33, 35, 38]
theorem ck_66 : xChkM 6 false none prog_8_method_3_code cd_66 ps_66 = true := xChkN_ok 0xb11600b80610030f00b42a030f00b42b1600b80610030900b42a030900b42b1200b51200b42b2a 39 0x0026002300210020001d001c001b00180017001400120011000e000d000c000900080005000200010000 21 (by decide +kernel)
/-- LastCloud$Polar.fastest(I)I -/
def cd_67 : List Instr := [.iconst (-1), .istore 2, .iconst 0, .istore 3, .iload 3, .aload 0, .getfield 6000, .if_icmp .ge 38, .iload 2, .iconst (-1), .if_icmp .eq 34, .aload 0, .getfield 6012, .iload 3, .iaload, .iload 1, 
  .aload 0, .getfield 6022, .iload 2, .iaload, .iadd, .imul, .aload 0, .getfield 6012, .iload 2, .iaload, .iload 1, .aload 0, .getfield 6022, .iload 3, .iaload, .iadd, .imul, .if_icmp .le 36, .iload 3, 
  .istore 2, .iinc 3 1, .goto 4, .iload 2, .ireturn]
def ps_67 : List Nat := [0, 1, 2, 3, 4, 5, 6, 9, 12, 13, 14, 17, 18, 21, 22, 23, 24, 25, 28, 29, 30, 31, 32, 33, 36, 37, 38, 39, 40, 43, 44, 45, 46, 47, 50, 51, 52, 55, 58, 59]
theorem ck_67 : xChkM 6 false (some .int) prog_8_method_4_code cd_67 ps_67 = true := xChkN_ok 0xac1ccdffa70103843d1d0500a468602e1d0f00b42a1b2e1c0900b42a68602e1c0f00b42a1b2e1d0900b42a24009f021c3100a21200b42a1d3e033d02 60 0x003b003a0037003400330032002f002e002d002c002b0028002700260025002400210020001f001e001d001c0019001800170016001500120011000e000d000c00090006000500040003000200010000 40 (by decide +kernel)
/-- LastCloud$Polar.tenHours(II)I -/
def cd_68 : List Instr := [.iload 2, .aload 0, .getfield 6022, .iload 1, .iaload, .iadd, .istore 3, .iload 3, .iconst 1, .if_icmp .ge 12, .iconst (-1), .goto 22, .iconst 10, .aload 0, .getfield 6012, .iload 1, .iaload, .imul, 
  .iload 2, .imul, .iload 3, .idiv, .ireturn]
def ps_68 : List Nat := [0, 1, 2, 5, 6, 7, 8, 9, 10, 11, 14, 15, 18, 20, 21, 24, 25, 26, 27, 28, 29, 30, 31]
theorem ck_68 : xChkM 6 false (some .int) prog_8_method_5_code cd_68 ps_68 = true := xChkN_ok 0xac6c1d681c682e1b0900b42a0a101000a7020700a2041d3e602e1b0f00b42a1c 32 0x001f001e001d001c001b001a00190018001500140012000f000e000b000a00090008000700060005000200010000 23 (by decide +kernel)
/-- LastCloud$Polar.flattest()I -/
def cd_69 : List Instr := [.iconst (-1), .istore 1, .iconst 0, .istore 2, .iload 2, .aload 0, .getfield 6000, .if_icmp .ge 34, .iload 1, .iconst (-1), .if_icmp .eq 30, .aload 0, .getfield 6012, .iload 2, .iaload, .aload 0, 
  .getfield 6022, .iload 1, .iaload, .imul, .aload 0, .getfield 6012, .iload 1, .iaload, .aload 0, .getfield 6022, .iload 2, .iaload, .imul, .if_icmp .le 32, .iload 2, .istore 1, .iinc 2 1, .goto 4, 
  .iload 1, .ireturn]
def ps_69 : List Nat := [0, 1, 2, 3, 4, 5, 6, 9, 12, 13, 14, 17, 18, 21, 22, 23, 24, 27, 28, 29, 30, 31, 34, 35, 36, 37, 40, 41, 42, 43, 46, 47, 48, 51, 54, 55]
theorem ck_69 : xChkM 6 false (some .int) prog_8_method_6_code cd_69 ps_69 = true := xChkN_ok 0xac1bd1ffa70102843c1c0500a4682e1c0f00b42a2e1b0900b42a682e1b0f00b42a2e1c0900b42a20009f021b2d00a21200b42a1c3d033c02 56 0x0037003600330030002f002e002b002a002900280025002400230022001f001e001d001c001b001800170016001500120011000e000d000c00090006000500040003000200010000 36 (by decide +kernel)
/-- LastCloud$Reader.<init>([B)V -/
def cd_70 : List Instr := [.aload 0, .dneg, .aload 0, .iconst 1601, .newarray .int, .putfield 7012, .aload 0, .iconst 1601, .newarray .int, .putfield 7022, .aload 0, .iconst 1601, .newarray .int, .putfield 7032, .aload 0, 
  .aload 1, .putfield 7002, .return_]
def ps_70 : List Nat := [0, 1, 4, 5, 8, 10, 13, 14, 17, 19, 22, 23, 26, 28, 31, 32, 33, 36]
theorem ck_70 : xChkM 7 true none prog_9_method_1_code cd_70 ps_70 = true := xChkN_ok 0xb11500b52b2a1200b50abc4106112a0f00b50abc4106112a0900b50abc4106112a0300b72a 37 0x002400210020001f001c001a0017001600130011000e000d000a00080005000400010000 18 (by decide +kernel)
/-- LastCloud$Reader.readAll(ILLastCloud$Sky;)I -/
def cd_71 : List Instr := [.aload 0, .aload 2, .putfield 7092, .aload 0, .iconst 0, .putfield 7050, .aload 0, .iconst 0, .putfield 7060, .aload 0, .iconst (-1), .putfield 7070, .aload 0, .iconst 0, .putfield 7080, .aload 0, 
  .iload 1, .iconst 1600, .dsub, .invokevirtual 576571, .iconst 0, .istore 3, .iload 3, .aload 0, .getfield 7040, .if_icmp .ge 39, .aload 0, .getfield 7060, .ifCond .ne 39, .aload 0, .getfield 7012, 
  .aload 0, .getfield 7050, .iaload, .ifCond .eq 39, .aload 0, .invokevirtual 664567, .iinc 3 1, .goto 22, .aload 0, .getfield 7060, .ifCond .ne 67, .aload 0, .getfield 7092, .invokevirtual 944804, 
  .ifCond .eq 67, .aload 0, .getfield 7092, .getfield 10090, .aload 0, .getfield 7092, .getfield 10160, .dsub, .istore 3, .aload 0, .getfield 7092, .aload 0, .getfield 7092, .getfield 10002, .aload 0, 
  .getfield 7092, .getfield 10150, .aaload, .getfield 4000, .iload 3, .dadd, .putfield 10160, .aload 0, .getfield 7060, .ireturn]
def ps_71 : List Nat := [0, 1, 2, 5, 6, 7, 10, 11, 12, 15, 16, 17, 20, 21, 22, 25, 26, 27, 30, 33, 36, 37, 38, 39, 40, 43, 46, 47, 50, 53, 54, 57, 58, 61, 62, 65, 66, 69, 72, 75, 76, 79, 82, 83, 86, 89, 92, 93, 96, 99, 100, 
  103, 106, 109, 110, 111, 114, 115, 118, 121, 122, 125, 128, 129, 132, 133, 136, 139, 140, 143]
theorem ck_71 : xChkM 7 false (some .int) prog_9_method_2_code cd_71 ps_71 = true := xChkN_ok 0xac2100b42a4300b55200b81d4d00b4324a00b41900b42a4600b41900b42a1900b42a3e2a00b84300b41900b42a4000b41900b42a3200993a00b61900b42a3c009a2100b42adeffa70103843700b62a0d00992e1d00b42a0900b42a19009a2100b42a2000a23400b42a1d3e033000b62a00b84006111b2a2700b5032a2400b5022a2100b5032a1d00b5032a1900b52c2a 144 0x008f008c008b00880085008400810080007d007a0079007600730072006f006e006d006a0067006400630060005d005c0059005600530052004f004c004b0048004500420041003e003d003a0039003600350032002f002e002b002800270026002500240021001e001b001a001900160015001400110010000f000c000b000a000700060005000200010000 70 (by decide +kernel)
/-- LastCloud$Reader.splitText(I)V -/
def cd_72 : List Instr := [.aload 0, .iconst 0, .putfield 7040, .iconst 0, .istore 2, .iload 2, .iload 1, .if_icmp .ge 56, .aload 0, .getfield 7002, .iload 2, .baload, .invokestatic 599924, .istore 3, .iload 2, .iconst 1, .iadd, 
  .istore 4, .iload 3, .iconst 1, .if_icmp .eq 24, .iload 3, .iconst 2, .if_icmp .ne 36, .iload 4, .iload 1, .if_icmp .ge 36, .aload 0, .getfield 7002, .iload 4, .baload, .invokestatic 599924, .iload 3, 
  .if_icmp .ne 36, .iinc 4 1, .goto 24, .aload 0, .getfield 7002, .iload 2, .baload, .iconst 32, .if_icmp .eq 53, .aload 0, .getfield 7002, .iload 2, .baload, .iconst 10, .if_icmp .eq 53, .aload 0, 
  .iload 3, .iload 2, .iload 4, .invokevirtual 584579, .iload 4, .istore 2, .goto 5, .aload 0, .iconst 0, .iload 1, .iload 1, .invokevirtual 584579, .return_]
def ps_72 : List Nat := [0, 1, 2, 5, 6, 7, 8, 9, 12, 13, 16, 17, 18, 21, 22, 23, 24, 25, 27, 28, 29, 32, 33, 34, 37, 39, 40, 43, 44, 47, 49, 50, 53, 54, 57, 60, 63, 64, 67, 68, 69, 71, 74, 75, 78, 79, 80, 82, 85, 86, 87, 88, 
  90, 93, 95, 96, 99, 100, 101, 102, 103, 106]
theorem ck_72 : xChkM 7 false none prog_9_method_3_code cd_72 ps_72 = true := xChkN_ok 0xb15900b61b1b032aa7ffa73d04155900b604151c1d2a0b009f0a10331c1500b42a16009f2010331c1500b42ae9ffa70104840900a01d5500b83304151500b42a1700a21b04151d00a0051d08009f041d043660041c3e5500b8331c1500b42a5a00a21b1c3d033400b5032a 107 0x006a006700660065006400630060005f005d005a005800570056005500520050004f004e004b004a00470045004400430040003f003c00390036003500320031002f002c002b002800270025002200210020001d001c001b00190018001700160015001200110010000d000c00090008000700060005000200010000 62 (by decide +kernel)
/-- LastCloud$Reader.addToken(III)V -/
def cd_73 : List Instr := [.aload 0, .getfield 7040, .iconst 1600, .if_icmp .gt 28, .aload 0, .getfield 7012, .aload 0, .getfield 7040, .iload 1, .iastore, .aload 0, .getfield 7022, .aload 0, .getfield 7040, .iload 2, .iastore, 
  .aload 0, .getfield 7032, .aload 0, .getfield 7040, .iload 3, .iastore, .aload 0, .dup, .getfield 7040, .iconst 1, .iadd, .putfield 7040, .return_]
def ps_73 : List Nat := [0, 1, 4, 7, 10, 11, 14, 15, 18, 19, 20, 21, 24, 25, 28, 29, 30, 31, 34, 35, 38, 39, 40, 41, 42, 45, 46, 47, 50]
theorem ck_73 : xChkM 7 false none prog_9_method_4_code cd_73 ps_73 = true := xChkN_ok 0xb13400b560043400b4592a4f1d3400b42a1200b42a4f1c3400b42a0f00b42a4f1b3400b42a0900b42a2b00a34006113400b42a 51 0x0032002f002e002d002a002900280027002600230022001f001e001d001c001900180015001400130012000f000e000b000a0007000400010000 29 (by decide +kernel)
/-- LastCloud$Reader.kindOf(I)I -/
def cd_74 : List Instr := [.iload 0, .iconst 97, .if_icmp .lt 8, .iload 0, .iconst 122, .if_icmp .gt 8, .iconst 1, .ireturn, .iload 0, .iconst 48, .if_icmp .lt 16, .iload 0, .iconst 57, .if_icmp .gt 16, .iconst 2, .ireturn, 
  .iload 0, .iconst 59, .if_icmp .ne 21, .iconst 3, .goto 22, .iconst 4, .ireturn]
def ps_74 : List Nat := [0, 1, 3, 6, 7, 9, 12, 13, 14, 15, 17, 20, 21, 23, 26, 27, 28, 29, 31, 34, 35, 38, 39]
theorem ck_74 : xChkM 7 false (some .int) prog_9_method_5_code cd_74 ps_74 = true := xChkN_ok 0xac070400a7060700a03b101aac050500a339101a0b00a130101aac040500a37a101a0b00a161101a 40 0x0027002600230022001f001d001c001b001a0017001500140011000f000e000d000c000900070006000300010000 23 (by decide +kernel)
/-- LastCloud$Reader.fail(I)V -/
def cd_75 : List Instr := [.aload 0, .getfield 7060, .ifCond .ne 13, .aload 0, .iload 1, .putfield 7060, .aload 0, .aload 0, .getfield 7022, .aload 0, .getfield 7050, .iaload, .putfield 7070, .return_]
def ps_75 : List Nat := [0, 1, 4, 7, 8, 9, 12, 13, 14, 17, 18, 21, 22, 25]
theorem ck_75 : xChkM 7 false none prog_9_method_6_code cd_75 ps_75 = true := xChkN_ok 0xb12400b52e1d00b42a0f00b42a2a2100b51b2a15009a2100b42a 26 0x00190016001500120011000e000d000c000900080007000400010000 14 (by decide +kernel)
/-- LastCloud$Reader.goOn()V -/
def cd_76 : List Instr := [.aload 0, .getfield 7050, .iconst 1, .iadd, .aload 0, .getfield 7040, .if_icmp .ge 13, .aload 0, .dup, .getfield 7050, .iconst 1, .iadd, .putfield 7050, .return_]
def ps_76 : List Nat := [0, 1, 4, 5, 6, 7, 10, 13, 14, 15, 18, 19, 20, 23]
theorem ck_76 : xChkM 7 false none prog_9_method_7_code cd_76 ps_76 = true := xChkN_ok 0xb11d00b560041d00b4592a0d00a23400b42a60041d00b42a 24 0x0017001400130012000f000e000d000a000700060005000400010000 14 (by decide +kernel)
/-- LastCloud$Reader.isWord(Ljava/lang/String;)Z -/
def cd_77 : List Instr := [.aload 0, .getfield 7012, .aload 0, .getfield 7050, .iaload, .iconst 1, .if_icmp .ne 21, .aload 0, .getfield 7032, .aload 0, .getfield 7050, .iaload, .aload 0, .getfield 7022, .aload 0, .getfield 7050, 
  .iaload, .isub, .aload 1, .d2i, .if_icmp .eq 23, .iconst 0, .freturn, .iconst 0, .istore 2, .iload 2, .aload 1, .d2i, .if_icmp .ge 47, .aload 0, .getfield 7002, .aload 0, .getfield 7022, .aload 0, 
  .getfield 7050, .iaload, .iload 2, .iadd, .baload, .aload 1, .iload 2, .d2l, .if_icmp .eq 45, .iconst 0, .freturn, .iinc 2 1, .goto 25, .iconst 1, .freturn]
def ps_77 : List Nat := [0, 1, 4, 5, 8, 9, 10, 13, 14, 17, 18, 21, 22, 23, 26, 27, 30, 31, 32, 33, 36, 39, 40, 41, 42, 43, 44, 45, 48, 51, 52, 55, 56, 59, 60, 63, 64, 65, 66, 67, 68, 69, 72, 75, 76, 77, 80, 83, 84]
theorem ck_77 : xChkM 7 false (some .boolean) prog_9_method_8_code cd_77 ps_77 = true := xChkN_ok 0xac04dbffa7010284ac0305009f6300b61c2b33601c2e1d00b42a0f00b42a1500b42a2300a25d00b62b1c3d03ac0305009f5d00b62b642e1d00b42a0f00b42a2e1d00b42a1200b42a1d00a0042e1d00b42a0900b42a 85 0x005400530050004d004c004b0048004500440043004200410040003f003c003b00380037003400330030002d002c002b002a002900280027002400210020001f001e001b001a00170016001500120011000e000d000a000900080005000400010000 49 (by decide +kernel)
/-- LastCloud$Reader.takeIf(Ljava/lang/String;)Z -/
def cd_78 : List Instr := [.aload 0, .getfield 7060, .ifCond .ne 7, .aload 0, .aload 1, .invokevirtual 616568, .ifCond .ne 9, .iconst 0, .freturn, .aload 0, .invokevirtual 608567, .iconst 1, .freturn]
def ps_78 : List Nat := [0, 1, 4, 7, 8, 9, 12, 15, 16, 17, 18, 21, 22]
theorem ck_78 : xChkM 7 false (some .boolean) prog_9_method_9_code cd_78 ps_78 = true := xChkN_ok 0xac046b00b62aac0305009a6700b62b2a0b009a2100b42a 23 0x00160015001200110010000f000c000900080007000400010000 13 (by decide +kernel)
/-- LastCloud$Reader.takeWord(Ljava/lang/String;)V -/
def cd_79 : List Instr := [.aload 0, .getfield 7060, .ifCond .eq 4, .return_, .aload 0, .aload 1, .invokevirtual 616568, .ifCond .eq 11, .aload 0, .invokevirtual 608567, .goto 14, .aload 0, .iconst 1, .invokevirtual 600571, 
  .return_]
def ps_79 : List Nat := [0, 1, 4, 7, 8, 9, 10, 13, 16, 17, 20, 23, 24, 25, 28]
theorem ck_79 : xChkM 7 false none prog_9_method_10_code cd_79 ps_79 = true := xChkN_ok 0xb16e00b6042a0800a76b00b62a0a00996700b62b2ab10400992100b42a 29 0x001c001900180017001400110010000d000a000900080007000400010000 15 (by decide +kernel)
/-- LastCloud$Reader.takeNumber(II)I -/
def cd_80 : List Instr := [.aload 0, .getfield 7060, .ifCond .eq 5, .iconst 0, .ireturn, .aload 0, .getfield 7012, .aload 0, .getfield 7050, .iaload, .iconst 2, .if_icmp .eq 17, .aload 0, .iconst 1, .invokevirtual 600571, 
  .iconst 0, .ireturn, .iconst 0, .istore 3, .aload 0, .getfield 7022, .aload 0, .getfield 7050, .iaload, .istore 4, .iload 4, .aload 0, .getfield 7032, .aload 0, .getfield 7050, .iaload, 
  .if_icmp .ge 47, .iconst 1000000, .iload 3, .iconst 10, .imul, .aload 0, .getfield 7002, .iload 4, .baload, .iadd, .iconst 48, .isub, .dsub, .istore 3, .iinc 4 1, .goto 25, .iload 3, .iload 1, 
  .if_icmp .lt 53, .iload 3, .iload 2, .if_icmp .le 58, .aload 0, .iconst 2, .invokevirtual 600571, .iconst 0, .ireturn, .aload 0, .invokevirtual 608567, .iload 3, .ireturn]
def ps_80 : List Nat := [0, 1, 4, 7, 8, 9, 10, 13, 14, 17, 18, 19, 22, 23, 24, 27, 28, 29, 30, 31, 32, 35, 36, 39, 40, 42, 44, 45, 48, 49, 52, 53, 56, 58, 59, 61, 62, 63, 66, 68, 69, 70, 72, 73, 76, 77, 80, 83, 84, 85, 88, 89, 
  90, 93, 94, 95, 98, 99, 100, 101, 104, 105]
theorem ck_80 : xChkM 7 false (some .int) prog_9_method_11_code cd_80 ps_80 = true := xChkN_ok 0xac1d6b00b62aac036e00b6052a0a00a41c1d0800a11b1ddaffa70104843e2a00b8643010603304151500b42a680a101d71121e00a22e1d00b42a1200b42a041504362e1d00b42a0f00b42a3e03ac036e00b6042a0a009f052e1d00b42a0900b42aac030500992100b42a 106 0x006900680065006400630062005f005e005d005a005900580055005400530050004d004c004900480046004500440042003f003e003d003b003a00380035003400310030002d002c002a00280027002400230020001f001e001d001c001b001800170016001300120011000e000d000a000900080007000400010000 62 (by decide +kernel)
