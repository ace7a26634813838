/-- LastCloud$Hops.raiseTo(II)Z -/
def cd_27 : List Instr := [.iload 1, .ifCond .lt 11, .iload 1, .iconst 8, .if_icmp .ge 11, .iload 2, .aload 0, .getfield 1082, .iload 1, .iaload, .if_icmp .gt 13, .iconst 0, .freturn, .aload 0, .getfield 1082, .iload 1, 
  .iload 2, .iastore, .iconst 1, .freturn]
def ps_27 : List Nat := [0, 1, 4, 5, 7, 10, 11, 12, 15, 16, 17, 20, 21, 22, 23, 26, 27, 28, 29, 30]
theorem ck_27 : xChkM 1 false (some .boolean) prog_3_method_13_code cd_27 ps_27 = true := xChkN_ok 0xac044f1c1b2100b42aac030500a32e1b2100b42a1c0d00a208101b13009b1b 31 0x001e001d001c001b001a001700160015001400110010000f000c000b000a00070005000400010000 20 (by decide +kernel)
/-- LastCloud$Hops.longestStreet(LLastCloud$Sky;)I -/
def cd_28 : List Instr := [.iconst 0, .istore 2, .aload 0, .getfield 1092, .iconst 0, .invokestatic 2679931, .iconst 0, .istore 3, .iload 3, .aload 1, .getfield 10040, .if_icmp .ge 23, .aload 0, .getfield 1092, .iconst 1, 
  .iload 3, .ishl, .iconst 1, .iload 3, .ishl, .iastore, .iinc 3 1, .goto 8, .iconst 1, .istore 3, .iload 3, .aload 1, .invokevirtual 968804, .if_icmp .gt 62, .aload 0, .getfield 1092, .iload 3, .iaload, 
  .ifCond .eq 39, .iload 2, .iload 3, .invokestatic 2663924, .dadd, .istore 2, .iconst 0, .istore 4, .iload 4, .aload 1, .getfield 10040, .if_icmp .ge 60, .aload 0, .getfield 1092, .iload 3, .iaload, 
  .iload 4, .ishr, .iconst 1, .iand, .ifCond .eq 58, .aload 0, .iload 3, .iload 4, .invokevirtual 232095, .iinc 4 1, .goto 41, .iinc 3 1, .goto 25, .iload 2, .ireturn]
def ps_28 : List Nat := [0, 1, 2, 3, 6, 7, 10, 11, 12, 13, 14, 17, 20, 21, 24, 25, 26, 27, 28, 29, 30, 31, 34, 37, 38, 39, 40, 41, 44, 47, 48, 51, 52, 53, 56, 57, 58, 61, 64, 65, 66, 68, 70, 71, 74, 77, 78, 81, 82, 83, 85, 86, 
  87, 88, 91, 92, 93, 95, 98, 101, 104, 107, 110, 111]
theorem ck_28 : xChkM 1 false (some .int) prog_3_method_14_code cd_28 ps_28 = true := xChkN_ok 0xac1cbcffa7010384dfffa70104849b00b604151d2a0a00997e047a04152e1d2400b42a1e00a22b00b42b04150436033d6400b89600b81d1c0c00992e1d2400b42a4200a39200b62b1d3e04eaffa70103844f781d04781d042400b42a1400a22b00b42b1d3e038000b8032400b42a3d03 112 0x006f006e006b006800650062005f005d005c005b0058005700560055005300520051004e004d004a004700460044004200410040003d003a003900380035003400330030002f002c002900280027002600250022001f001e001d001c001b001a00190018001500140011000e000d000c000b000a000700060003000200010000 64 (by decide +kernel)
/-- LastCloud$Hops.growStreets(II)V -/
def cd_29 : List Instr := [.aload 0, .getfield 1002, .iload 2, .iaload, .istore 3, .iload 3, .aload 0, .getfield 1002, .iload 2, .iconst 1, .iadd, .iaload, .if_icmp .ge 47, .iconst 1, .aload 0, .getfield 1012, .iload 3, .iaload, 
  .ishl, .istore 4, .iload 1, .iload 4, .ior, .istore 5, .aload 0, .getfield 1032, .iload 3, .iaload, .ifCond .gt 45, .iload 5, .iload 1, .if_icmp .le 45, .iload 5, .aload 0, .getfield 1092, 
  .arraylength, .if_icmp .ge 45, .aload 0, .getfield 1092, .iload 5, .dup2, .iaload, .iload 4, .ior, .iastore, .iinc 3 1, .goto 5, .return_]
def ps_29 : List Nat := [0, 1, 4, 5, 6, 7, 8, 9, 12, 13, 14, 15, 16, 19, 20, 21, 24, 25, 26, 27, 29, 30, 32, 33, 35, 36, 39, 40, 41, 44, 46, 47, 50, 52, 53, 56, 57, 60, 61, 64, 66, 67, 68, 70, 71, 72, 75, 78]
theorem ck_29 : xChkM 1 false none prog_3_method_15_code cd_29 ps_29 = true := xChkN_ok 0xb1bcffa70103844f8004152e5c05152400b42a0f00a2be2400b42a05151900a41b05151f009d2e1d1500b42a05368004151b0436782e1d0f00b42a043e00a22e60041c0b00b42a1d3e2e1c0b00b42a 79 0x004e004b0048004700460044004300420040003d003c00390038003500340032002f002e002c0029002800270024002300210020001e001d001b001a001900180015001400130010000f000e000d000c00090008000700060005000400010000 48 (by decide +kernel)
/-- LastCloud$Leg.<init>()V -/
def cd_30 : List Instr := [.aload 0, .dneg, .return_]
def ps_30 : List Nat := [0, 1, 4]
theorem ck_30 : xChkM 2 true none prog_4_method_1_code cd_30 ps_30 = true := xChkN_ok 0xb10100b72a 5 0x000400010000 3 (by decide +kernel)
/-- LastCloud$Leg.copyFrom(LLastCloud$Leg;)V -/
def cd_31 : List Instr := [.aload 0, .aload 1, .getfield 2000, .putfield 2000, .aload 0, .aload 1, .getfield 2010, .putfield 2010, .aload 0, .aload 1, .getfield 2020, .putfield 2020, .aload 0, .aload 1, .getfield 2030, 
  .putfield 2030, .aload 0, .aload 1, .getfield 2040, .putfield 2040, .aload 0, .aload 1, .getfield 2050, .putfield 2050, .return_]
def ps_31 : List Nat := [0, 1, 2, 5, 8, 9, 10, 13, 16, 17, 18, 21, 24, 25, 26, 29, 32, 33, 34, 37, 40, 41, 42, 45, 48]
theorem ck_31 : xChkM 2 false none prog_4_method_2_code cd_31 ps_31 = true := xChkN_ok 0xb11900b51900b42b2a1600b51600b42b2a1300b51300b42b2a1000b51000b42b2a0d00b50d00b42b2a0700b50700b42b2a 49 0x0030002d002a002900280025002200210020001d001a001900180015001200110010000d000a000900080005000200010000 25 (by decide +kernel)
/-- LastCloud$Outcomes.<init>()V -/
def cd_32 : List Instr := [.aload 0, .dneg, .aload 0, .iconst 46848, .newarray .byte, .putfield 3002, .return_]
def ps_32 : List Nat := [0, 1, 4, 5, 7, 9, 12]
theorem ck_32 : xChkM 3 true none prog_5_method_1_code cd_32 ps_32 = true := xChkN_ok 0xb10c00b508bc0b122a0300b72a 13 0x000c000900070005000400010000 7 (by decide +kernel)
/-- LastCloud$Outcomes.spreadFromStart(LLastCloud$Plan;)V -/
def cd_33 : List Instr := [.aload 0, .aload 1, .putfield 3032, .aload 0, .aload 1, .getfield 5102, .putfield 3042, .aload 0, .getfield 3002, .iconst 0, .invokestatic 2687931, .aload 0, .iconst 2000000000, .putfield 3010, 
  .aload 0, .iconst (-2000000000), .putfield 3020, .aload 0, .iconst 0, .aload 0, .getfield 3042, .invokevirtual 952804, .aload 0, .getfield 3042, .getfield 10150, .aload 0, .getfield 3042, 
  .getfield 10160, .invokestatic 375936, .aload 0, .getfield 3042, .getfield 10150, .invokevirtual 272255, .iconst 0, .istore 2, .iload 2, .aload 0, .getfield 3042, .getfield 10100, .if_icmp .gt 50, 
  .aload 0, .iload 2, .iconst 1, .invokevirtual 296255, .aload 0, .iload 2, .iconst 0, .invokevirtual 296255, .iinc 2 1, .goto 35, .return_]
def ps_33 : List Nat := [0, 1, 2, 5, 6, 7, 10, 13, 14, 17, 18, 21, 22, 24, 27, 28, 30, 33, 34, 35, 36, 39, 42, 43, 46, 49, 50, 53, 56, 59, 60, 63, 66, 69, 70, 71, 72, 73, 76, 79, 82, 83, 84, 85, 88, 89, 90, 91, 94, 97, 100]
theorem ck_33 : xChkM 3 false none prog_5_method_2_code cd_33 ps_33 = true := xChkN_ok 0xb1e6ffa70102844100b6031c2a4100b6041c2a1500a33e00b41a00b42a1c3d033a00b63000b41a00b42a3600b83300b41a00b42a3000b41a00b42a2a00b61a00b42a032a2700b526122a2200b521122a1b00b8030c00b42a1a00b51600b42b2a1200b52b2a 101 0x00640061005e005b005a005900580055005400530052004f004c004900480047004600450042003f003c003b0038003500320031002e002b002a00270024002300220021001e001c001b00180016001500120011000e000d000a000700060005000200010000 51 (by decide +kernel)
/-- LastCloud$Outcomes.arrive(II)V -/
def cd_34 : List Instr := [.aload 0, .getfield 3032, .iload 2, .invokevirtual 392408, .ifCond .le 9, .aload 0, .iload 1, .iconst 1, .invokevirtual 280255, .aload 0, .getfield 3032, .iload 2, .invokevirtual 392408, .iconst 100, 
  .if_icmp .ge 19, .aload 0, .iload 1, .iconst 0, .invokevirtual 280255, .return_]
def ps_34 : List Nat := [0, 1, 4, 5, 8, 11, 12, 13, 14, 17, 18, 21, 22, 25, 27, 30, 31, 32, 33, 36]
theorem ck_34 : xChkM 3 false none prog_5_method_3_code cd_34 ps_34 = true := xChkN_ok 0xb14900b6031b2a0900a264104500b61c1200b42a4900b6041b2a09009e4500b61c1200b42a 37 0x002400210020001f001e001b00190016001500120011000e000d000c000b00080005000400010000 20 (by decide +kernel)
/-- LastCloud$Outcomes.mark(IZ)V -/
def cd_35 : List Instr := [.iload 1, .invokestatic 423924, .ifCond .eq 16, .aload 0, .getfield 3002, .iload 1, .dup2, .baload, .iload 2, .ifCond .eq 12, .iconst 2, .goto 13, .iconst 1, .ior, .i2b, .bastore, .return_]
def ps_35 : List Nat := [0, 1, 4, 7, 8, 11, 12, 13, 14, 15, 18, 19, 22, 23, 24, 25, 26]
theorem ck_35 : xChkM 3 false none prog_5_method_4_code cd_35 ps_35 = true := xChkN_ok 0xb1549180040400a7050700991c335c1b0c00b42a1600994c00b81b 27 0x001a001900180017001600130012000f000e000d000c000b00080007000400010000 17 (by decide +kernel)
/-- LastCloud$Outcomes.marksAt(I)I -/
def cd_36 : List Instr := [.iload 1, .invokestatic 423924, .ifCond .eq 8, .aload 0, .getfield 3002, .iload 1, .baload, .goto 9, .iconst 0, .ireturn]
def ps_36 : List Nat := [0, 1, 4, 7, 8, 11, 12, 13, 16, 17]
theorem ck_36 : xChkM 3 false (some .int) prog_5_method_5_code cd_36 ps_36 = true := xChkN_ok 0xac030400a7331b0c00b42a0c00994c00b81b 18 0x00110010000d000c000b00080007000400010000 10 (by decide +kernel)
/-- LastCloud$Outcomes.spreadFrom(IZ)V -/
def cd_37 : List Instr := [.iconst 0, .istore 3, .iload 3, .aload 0, .getfield 3042, .getfield 10040, .if_icmp .ge 53, .aload 0, .getfield 3042, .getfield 10002, .iload 3, .aaload, .getfield 4000, .istore 4, .iload 4, .aload 0, 
  .getfield 3042, .getfield 10090, .if_icmp .gt 51, .aload 0, .iload 1, .iload 2, .iload 3, .iload 4, .invokestatic 375936, .invokevirtual 288248, .istore 5, .iload 5, .iconst 2, .iand, .ifCond .eq 38, 
  .aload 0, .iload 1, .iload 2, .iload 3, .iload 4, .iconst 1, .invokevirtual 304267, .iload 5, .iconst 1, .iand, .ifCond .eq 49, .aload 0, .iload 1, .iload 2, .iload 3, .iload 4, .iconst 0, 
  .invokevirtual 304267, .iinc 4 1, .goto 14, .iinc 3 1, .goto 2, .return_]
def ps_37 : List Nat := [0, 1, 2, 3, 4, 7, 10, 13, 14, 17, 20, 21, 22, 25, 27, 29, 30, 33, 36, 39, 40, 41, 42, 43, 45, 48, 51, 53, 55, 56, 57, 60, 61, 62, 63, 64, 66, 67, 70, 72, 73, 74, 77, 78, 79, 80, 81, 83, 84, 87, 90, 93, 
  96, 99]
theorem ck_37 : xChkM 3 false none prog_5_method_6_code cd_37 ps_37 = true := xChkN_ok 0xb1a2ffa7010384c1ffa70104846200b60304151d1c1b2a0d00997e0405156200b60404151d1c1b2a0d00997e05051505365f00b63600b804151d1c1b2a3900a35c00b41a00b42a041504365700b4321d5300b41a00b42a5900a25000b41a00b42a1d3e03 100 0x00630060005d005a00570054005300510050004f004e004d004a004900480046004300420040003f003e003d003c003900380037003500330030002d002b002a00290028002700240021001e001d001b00190016001500140011000e000d000a000700040003000200010000 54 (by decide +kernel)
/-- LastCloud$Outcomes.follow(IZIIZ)V -/
def cd_38 : List Instr := [.aload 0, .getfield 3032, .iload 1, .iload 2, .iload 3, .iload 4, .invokestatic 375936, .iload 5, .invokevirtual 448412, .istore 6, .iload 6, .iconst (-1), .if_icmp .ne 35, .aload 0, .getfield 3042, 
  .aload 0, .getfield 3032, .getfield 5120, .iload 3, .iload 1, .invokevirtual 1048816, .istore 7, .aload 0, .aload 0, .getfield 3010, .iload 7, .dsub, .putfield 3010, .aload 0, .aload 0, .getfield 3020, 
  .iload 7, .dadd, .putfield 3020, .goto 78, .iload 6, .ifCond .ne 59, .aload 0, .getfield 3042, .iload 4, .aload 0, .getfield 3042, .iload 3, .iload 2, .invokevirtual 1008812, .iadd, 
  .invokevirtual 1024808, .istore 7, .aload 0, .iload 1, .iconst 1, .iadd, .iload 2, .iload 3, .iload 7, .invokestatic 375936, .iconst 1, .invokevirtual 280255, .goto 78, .iload 6, .iconst 1, 
  .if_icmp .ne 71, .aload 0, .iload 1, .iconst 0, .iload 3, .iload 4, .invokestatic 375936, .iload 5, .invokevirtual 280255, .goto 78, .aload 0, .iload 6, .iload 1, .iload 2, .iload 3, .iload 4, 
  .invokevirtual 312267, .return_]
def ps_38 : List Nat := [0, 1, 4, 5, 6, 7, 9, 12, 14, 17, 19, 21, 22, 25, 26, 29, 30, 33, 36, 37, 38, 41, 43, 44, 45, 48, 50, 53, 56, 57, 58, 61, 63, 66, 69, 72, 74, 77, 78, 81, 83, 84, 87, 88, 89, 92, 93, 96, 98, 99, 100, 
  101, 102, 103, 104, 106, 109, 110, 113, 116, 118, 119, 122, 123, 124, 125, 126, 128, 131, 133, 136, 139, 140, 142, 143, 144, 145, 147, 150]
theorem ck_38 : xChkM 3 false none prog_5_method_7_code cd_38 ps_38 = true := xChkN_ok 0xb18000b604151d1c1b06152a0e00a74900b605153600b804151d031b2a1400a00406152500a74900b6043600b807151d1c60041b2a07367d00b6607a00b61c1d1a00b42a04151a00b42a2a009a06155100a72700b57700b807152700b42a2a2200b57100b807152200b42a2a07366d00b61b1d6a00b41200b42a1a00b42a3200a002061506366600b605153600b804151d1c1b1200b42a 151 0x0096009300910090008f008e008c008b0088008500830080007e007d007c007b007a0077007600740071006e006d006a00680067006600650064006300620060005d005c005900580057005400530051004e004d004a004800450042003f003d003a00390038003500320030002d002c002b00290026002500240021001e001d001a00190016001500130011000e000c0009000700060005000400010000 79 (by decide +kernel)
/-- LastCloud$Outcomes.followLeg(IIZII)V -/
def cd_39 : List Instr := [.iload 1, .iconst 100, .isub, .iconst 10, .idiv, .istore 6, .iload 1, .iconst 100, .isub, .iconst 10, .irem, .istore 7, .aload 0, .getfield 3042, .iload 6, .invokevirtual 912808, .ifCond .eq 22, 
  .aload 0, .getfield 3042, .iload 7, .invokevirtual 920808, .ifCond .ne 23, .return_, .aload 0, .getfield 3042, .getfield 10012, .iload 6, .aaload, .astore 8, .aload 8, .getfield 2010, .iload 4, 
  .if_icmp .ne 35, .iconst 1, .goto 36, .iconst 0, .istore 9, .iload 9, .ifCond .eq 42, .aload 8, .getfield 2000, .goto 44, .aload 8, .getfield 2010, .istore 10, .aload 0, .getfield 3042, .iload 5, 
  .aload 0, .getfield 3042, .iload 6, .iload 9, .iload 7, .iload 3, .invokevirtual 1000820, .isub, .invokevirtual 1024808, .istore 11, .aload 0, .iload 2, .aload 0, .getfield 3042, .iload 6, .iload 9, 
  .iload 7, .iload 3, .invokevirtual 992820, .iadd, .iload 3, .iload 10, .iload 11, .invokestatic 375936, .iload 10, .invokevirtual 272255, .return_]
def ps_39 : List Nat := [0, 1, 3, 4, 6, 7, 9, 10, 12, 13, 15, 16, 18, 19, 22, 24, 27, 30, 31, 34, 36, 39, 42, 43, 44, 47, 50, 52, 53, 55, 57, 60, 62, 65, 66, 69, 70, 72, 74, 77, 79, 82, 85, 87, 90, 92, 93, 96, 98, 99, 102, 
  104, 106, 108, 109, 112, 113, 116, 118, 119, 120, 121, 124, 126, 128, 130, 131, 134, 135, 136, 138, 140, 143, 145, 148]
theorem ck_39 : xChkM 3 false none prog_5_method_8_code cd_39 ps_39 = true := xChkN_ok 0xb13a00b60a153600b80b150a151d609a00b61d0715091506151a00b42a1c2a0b367d00b6649600b61d0715091506151a00b42a05151a00b42a0a368e00b408190800a79300b408190b009909150936030400a7040700a004158e00b40819083a3206158a00b41a00b42ab104009a8700b607151a00b42a0f00998400b606151a00b42a0736700a106464101b06366c0a106464101b 149 0x00940091008f008c008a008800870086008300820080007e007c0079007800770076007400710070006d006c006a00680066006300620060005d005c005a005700550052004f004d004a00480046004500420041003e003c00390037003500340032002f002c002b002a002700240022001f001e001b00180016001300120010000f000d000c000a0009000700060004000300010000 75 (by decide +kernel)
/-- LastCloud$Place.<init>()V -/
def cd_40 : List Instr := [.aload 0, .dneg, .return_]
def ps_40 : List Nat := [0, 1, 4]
theorem ck_40 : xChkM 4 true none prog_6_method_1_code cd_40 ps_40 = true := xChkN_ok 0xb10300b72a 5 0x000400010000 3 (by decide +kernel)
/-- LastCloud$Place.clear()V -/
def cd_41 : List Instr := [.aload 0, .iconst 0, .putfield 4000, .aload 0, .iconst (-1), .putfield 4010, .aload 0, .iconst 0, .putfield 4023, .aload 0, .iconst 0, .putfield 4030, .aload 0, .iconst 0, .putfield 4040, .aload 0, 
  .iconst 0, .putfield 4050, .aload 0, .iconst 0, .putfield 4060, .return_]
def ps_41 : List Nat := [0, 1, 2, 5, 6, 7, 10, 11, 12, 15, 16, 17, 20, 21, 22, 25, 26, 27, 30, 31, 32, 35]
theorem ck_41 : xChkM 4 false none prog_6_method_2_code cd_41 ps_41 = true := xChkN_ok 0xb11f00b5032a1c00b5032a1900b5032a1600b5032a1200b5032a0f00b5022a0900b5032a 36 0x00230020001f001e001b001a001900160015001400110010000f000c000b000a000700060005000200010000 22 (by decide +kernel)
/-- LastCloud$Place.copyFrom(LLastCloud$Place;)V -/
def cd_42 : List Instr := [.aload 0, .aload 1, .getfield 4000, .putfield 4000, .aload 0, .aload 1, .getfield 4010, .putfield 4010, .aload 0, .aload 1, .getfield 4020, .putfield 4023, .aload 0, .aload 1, .getfield 4030, 
  .putfield 4030, .aload 0, .aload 1, .getfield 4040, .putfield 4040, .aload 0, .aload 1, .getfield 4050, .putfield 4050, .aload 0, .aload 1, .getfield 4060, .putfield 4060, .return_]
def ps_42 : List Nat := [0, 1, 2, 5, 8, 9, 10, 13, 16, 17, 18, 21, 24, 25, 26, 29, 32, 33, 34, 37, 40, 41, 42, 45, 48, 49, 50, 53, 56]
theorem ck_42 : xChkM 4 false none prog_6_method_3_code cd_42 ps_42 = true := xChkN_ok 0xb11f00b51f00b42b2a1c00b51c00b42b2a1900b51900b42b2a1600b51600b42b2a1200b51200b42b2a0f00b50f00b42b2a0900b50900b42b2a 57 0x00380035003200310030002d002a002900280025002200210020001d001a001900180015001200110010000d000a000900080005000200010000 29 (by decide +kernel)
/-- LastCloud$Place.afterSight(II)I -/
def cd_43 : List Instr := [.iload 2, .ifCond .ne 4, .iconst 100, .ireturn, .iload 2, .iconst 1, .if_icmp .ne 9, .iconst 0, .ireturn, .aload 0, .iload 1, .iload 2, .iconst 2, .if_icmp .ne 16, .iconst 1, .goto 17, .iconst 0, 
  .iconst 100, .invokevirtual 352336, .istore 3, .iload 3, .iconst (-1), .if_icmp .ne 25, .iload 1, .goto 26, .iload 3, .ireturn]
def ps_43 : List Nat := [0, 1, 4, 6, 7, 8, 9, 12, 13, 14, 15, 16, 17, 18, 21, 22, 25, 26, 28, 31, 32, 33, 34, 37, 38, 41, 42]
theorem ck_43 : xChkM 4 false (some .int) prog_6_method_4_code cd_43 ps_43 = true := xChkN_ok 0xac1d0400a71b0700a0021d3e2200b66410030400a7040700a0051c1b2aac030500a0041cac641006009a1c 43 0x002a002900260025002200210020001f001c001a001900160015001200110010000f000e000d000c0009000800070006000400010000 27 (by decide +kernel)
/-- LastCloud$Place.bySign(IZI)I -/
def cd_44 : List Instr := [.iload 1, .iload 2, .ifCond .eq 6, .aload 0, .getfield 4050, .goto 10, .iconst 100, .aload 0, .getfield 4050, .isub, .imul, .istore 4, .iconst 100, .iload 1, .isub, .iload 2, .ifCond .eq 20, .aload 0, 
  .getfield 4060, .goto 24, .iconst 100, .aload 0, .getfield 4060, .isub, .imul, .istore 5, .iload 4, .iload 5, .iadd, .ifCond .ne 32, .iconst (-1), .goto 39, .iload 3, .iload 4, .imul, .iload 4, 
  .iload 5, .iadd, .idiv, .ireturn]
def ps_44 : List Nat := [0, 1, 2, 5, 6, 9, 12, 14, 15, 18, 19, 20, 22, 24, 25, 26, 27, 30, 31, 34, 37, 39, 40, 43, 44, 45, 47, 49, 51, 52, 55, 56, 59, 60, 62, 63, 65, 67, 68, 69]
theorem ck_44 : xChkM 4 false (some .int) prog_6_method_5_code cd_44 ps_44 = true := xChkN_ok 0xac6c60051504156804151d0d00a70207009a6005150415053668641f00b42a64100a00a71f00b42a0a00991c641b6410043668641c00b42a64100a00a71c00b42a0a00991c1b 70 0x0045004400430041003f003e003c003b00380037003400330031002f002d002c002b0028002700250022001f001e001b001a001900180016001400130012000f000e000c000900060005000200010000 40 (by decide +kernel)
/-- LastCloud$Plan.<init>()V -/
def cd_45 : List Instr := [.aload 0, .dneg, .aload 0, .iconst 46848, .newarray .int, .putfield 5002, .aload 0, .iconst 46848, .newarray .int, .putfield 5012, .aload 0, .iconst 46848, .newarray .int, .putfield 5022, .aload 0, 
  .iconst 46848, .newarray .int, .putfield 5032, .aload 0, .iconst 46848, .newarray .int, .putfield 5042, .aload 0, .iconst 240, .newarray .int, .putfield 5052, .aload 0, .iconst 8, .newarray .int, 
  .putfield 5062, .aload 0, .iconst 8, .newarray .int, .putfield 5072, .aload 0, .iconst 8, .newarray .int, .putfield 5082, .return_]
def ps_45 : List Nat := [0, 1, 4, 5, 7, 9, 12, 13, 15, 17, 20, 21, 23, 25, 28, 29, 31, 33, 36, 37, 39, 41, 44, 45, 48, 50, 53, 54, 56, 58, 61, 62, 64, 66, 69, 70, 72, 74, 77]
theorem ck_45 : xChkM 5 true none prog_7_method_1_code cd_45 ps_45 = true := xChkN_ok 0xb12500b50abc08102a2200b50abc08102a1f00b50abc08102a1c00b50abcf000112a1900b50abc0b122a1600b50abc0b122a1300b50abc0b122a1000b50abc0b122a0c00b50abc0b122a0300b72a 78 0x004d004a00480046004500420040003e003d003a00380036003500320030002d002c00290027002500240021001f001d001c00190017001500140011000f000d000c000900070005000400010000 39 (by decide +kernel)
/-- LastCloud$Plan.spot(IZII)I -/
def cd_46 : List Instr := [.iload 0, .iconst 2, .imul, .iload 1, .ifCond .eq 7, .iconst 1, .goto 8, .iconst 0, .iadd, .iconst 8, .imul, .iload 2, .iadd, .iconst 61, .imul, .iload 3, .iadd, .ireturn]
def ps_46 : List Nat := [0, 1, 2, 3, 4, 7, 8, 11, 12, 13, 15, 16, 17, 18, 20, 21, 22, 23]
theorem ck_46 : xChkM 5 false (some .int) prog_7_method_2_code cd_46 ps_46 = true := xChkN_ok 0xac601d683d10601c68081060030400a7040700991b68051a 24 0x0017001600150014001200110010000f000d000c000b0008000700040003000200010000 18 (by decide +kernel)
/-- LastCloud$Plan.begin(LLastCloud$Sky;LLastCloud$Hops;I)V -/
def cd_47 : List Instr := [.aload 0, .aload 1, .putfield 5102, .aload 0, .aload 2, .putfield 5112, .aload 0, .iload 3, .putfield 5120, .aload 0, .aload 0, .getfield 5102, .getfield 10100, .iconst 1, .iadd, .putfield 5130, 
  .aload 0, .aload 0, .getfield 5130, .putfield 5140, .iconst 0, .istore 4, .iload 4, .aload 0, .getfield 5102, .getfield 10040, .if_icmp .ge 55, .aload 0, .getfield 5062, .iload 4, .aload 0, 
  .getfield 5102, .iload 4, .invokevirtual 1032808, .iastore, .aload 0, .getfield 5072, .iload 4, .aload 0, .getfield 5102, .iload 4, .iconst 0, .invokevirtual 1008812, .iastore, .aload 0, 
  .getfield 5082, .iload 4, .aload 0, .getfield 5102, .iload 4, .iconst 1, .invokevirtual 1008812, .iastore, .iinc 4 1, .goto 22, .iconst 0, .istore 4, .iload 4, .iconst 16, .if_icmp .ge 92, .aload 0, 
  .getfield 5112, .getfield 1002, .iload 4, .iaload, .istore 5, .iload 5, .aload 0, .getfield 5112, .getfield 1002, .iload 4, .iconst 1, .iadd, .iaload, .if_icmp .ge 90, .aload 0, .getfield 5052, 
  .iload 5, .aload 0, .iload 5, .iload 4, .iconst 8, .if_icmp .lt 85, .iconst 1, .goto 86, .iconst 0, .invokevirtual 384412, .iastore, .iinc 5 1, .goto 66, .iinc 4 1, .goto 57, .aload 0, .iconst 1, 
  .putfield 5093, .return_]
def ps_47 : List Nat := [0, 1, 2, 5, 6, 7, 10, 11, 12, 15, 16, 17, 20, 23, 24, 25, 28, 29, 30, 33, 36, 37, 39, 41, 42, 45, 48, 51, 52, 55, 57, 58, 61, 63, 66, 67, 68, 71, 73, 74, 77, 79, 80, 83, 84, 85, 88, 90, 91, 94, 96, 97, 
  100, 101, 104, 107, 108, 110, 112, 114, 117, 118, 121, 124, 126, 127, 129, 131, 132, 135, 138, 140, 141, 142, 143, 146, 147, 150, 152, 153, 155, 157, 159, 162, 163, 166, 167, 170, 171, 174, 177, 180, 
  183, 184, 185, 188]
theorem ck_47 : xChkM 5 false none prog_7_method_3_code cd_47 ps_47 = true := xChkN_ok 0xb15200b5042abaffa7010484d3ffa70105844f4f00b6030400a7040700a10810041505152a05151c00b42a2200a22e600404154c00b42c00b42a051505362e04154c00b42c00b42a4500a210100415043603bfffa70104844f4600b60404152800b42a04152500b42a4f4600b60304152800b42a04152200b42a4f4200b604152800b42a04151f00b42a3b00a23f00b42800b42a04150436033c00b53900b42a2a3900b560043400b42800b42a2a3000b51d2a2c00b52c2a2800b52b2a 189 0x00bc00b900b800b700b400b100ae00ab00aa00a700a600a300a2009f009d009b00990098009600930092008f008e008d008c008a0087008400830081007f007e007c00790076007500720070006e006c006b00680065006400610060005e005b005a00580055005400530050004f004d004a00490047004400430042003f003d003a00390037003400330030002d002a00290027002500240021001e001d001c001900180017001400110010000f000c000b000a000700060005000200010000 96 (by decide +kernel)
/-- LastCloud$Plan.leastByRule(IZ)I -/
def cd_48 : List Instr := [.aload 0, .getfield 5112, .getfield 1012, .iload 1, .iaload, .istore 3, .aload 0, .getfield 5120, .iconst 1, .if_icmp .ne 35, .aload 0, .getfield 5112, .iload 3, .iload 2, .invokevirtual 160092, 
  .istore 4, .iload 4, .iconst 1000000, .if_icmp .ne 21, .iconst 1000000, .goto 34, .aload 0, .getfield 5112, .getfield 1042, .iload 1, .iaload, .iload 4, .aload 0, .getfield 5112, .getfield 1032, 
  .iload 1, .iaload, .iadd, .dadd, .ireturn, .aload 0, .getfield 5120, .iconst 3, .if_icmp .ne 50, .aload 0, .getfield 5112, .iload 1, .invokevirtual 176088, .aload 0, .getfield 5102, .iload 3, 
  .invokevirtual 1040808, .if_icmp .eq 50, .iconst 1000000, .ireturn, .aload 0, .getfield 5112, .getfield 1042, .iload 1, .iaload, .ireturn]
def ps_48 : List Nat := [0, 1, 4, 7, 8, 9, 10, 11, 14, 15, 18, 19, 22, 23, 24, 27, 29, 31, 33, 36, 38, 41, 42, 45, 48, 49, 50, 52, 53, 56, 59, 60, 61, 62, 65, 66, 67, 70, 71, 74, 75, 78, 79, 82, 83, 86, 87, 90, 93, 95, 96, 97, 
  100, 103, 104, 105]
theorem ck_48 : xChkM 5 false (some .int) prog_7_method_4_code cd_48 ps_48 = true := xChkN_ok 0xac2e1b5d00b42c00b42aac5c1206009f6a00b61d2800b42a6700b61b2c00b42a1900a0063000b42aac6100b8602e1b5e00b42c00b42a04152e1b5d00b42c00b42a1b00a75c120800a05c12041504365900b61c1d2c00b42a3300a0043000b42a3e2e1b5600b42c00b42a 106 0x006900680067006400610060005f005d005a0057005600530052004f004e004b004a00470046004300420041003e003d003c003b003800350034003200310030002d002a0029002600240021001f001d001b00180017001600130012000f000e000b000a000900080007000400010000 56 (by decide +kernel)
/-- LastCloud$Plan.chanceAt(I)I -/
def cd_49 : List Instr := [.iload 1, .ifCond .lt 10, .iload 1, .iconst 8, .if_icmp .ge 10, .aload 0, .getfield 5062, .iload 1, .iaload, .goto 11, .iconst 0, .ireturn]
def ps_49 : List Nat := [0, 1, 4, 5, 7, 10, 11, 14, 15, 16, 19, 20]
theorem ck_49 : xChkM 5 false (some .int) prog_7_method_5_code cd_49 ps_49 = true := xChkN_ok 0xac030400a72e1b1f00b42a0c00a208101b12009b1b 21 0x001400130010000f000e000b000a00070005000400010000 12 (by decide +kernel)
/-- LastCloud$Plan.setChance(II)V -/
def cd_50 : List Instr := [.aload 0, .getfield 5062, .iload 1, .iload 2, .iastore, .return_]
def ps_50 : List Nat := [0, 1, 4, 5, 6, 7]
theorem ck_50 : xChkM 5 false none prog_7_method_6_code cd_50 ps_50 = true := xChkN_ok 0xb14f1c1b1f00b42a 8 0x000700060005000400010000 6 (by decide +kernel)
/-- LastCloud$Plan.setDryWin(II)V -/
def cd_51 : List Instr := [.aload 0, .getfield 5072, .iload 1, .iload 2, .iastore, .return_]
def ps_51 : List Nat := [0, 1, 4, 5, 6, 7]
theorem ck_51 : xChkM 5 false none prog_7_method_7_code cd_51 ps_51 = true := xChkN_ok 0xb14f1c1b2200b42a 8 0x000700060005000400010000 6 (by decide +kernel)
/-- LastCloud$Plan.isSpot(I)Z -/
def cd_52 : List Instr := [.iload 0, .ifCond .lt 7, .iload 0, .iconst 46848, .if_icmp .ge 7, .iconst 1, .goto 8, .iconst 0, .freturn]
def ps_52 : List Nat := [0, 1, 4, 5, 7, 10, 11, 14, 15]
theorem ck_52 : xChkM 5 false (some .boolean) prog_7_method_8_code cd_52 ps_52 = true := xChkN_ok 0xac030400a7040700a20b121a0d009b1a 16 0x000f000e000b000a00070005000400010000 9 (by decide +kernel)
/-- LastCloud$Plan.worthAt(IZ)I -/
def cd_53 : List Instr := [.iload 1, .invokestatic 423924, .ifCond .ne 5, .iconst (-2000000000), .ireturn, .iload 2, .ifCond .eq 12, .aload 0, .getfield 5002, .iload 1, .iaload, .goto 16, .aload 0, .getfield 5012, .iload 1, 
  .iaload, .ireturn]
def ps_53 : List Nat := [0, 1, 4, 7, 9, 10, 11, 14, 15, 18, 19, 20, 23, 24, 27, 28, 29]
theorem ck_53 : xChkM 5 false (some .int) prog_7_method_9_code cd_53 ps_53 = true := xChkN_ok 0xac2e1b1000b42a0900a72e1b0c00b42a0c00991cac711206009a6d00b81b 30 0x001d001c001b00180017001400130012000f000e000b000a00090007000400010000 17 (by decide +kernel)
