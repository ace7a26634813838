/-- LastCloud$Sights.add(II)V -/
def cd_108 : List Instr := [.aload 0, .getfield 9000, .iconst 20, .if_icmp .ge 22, .aload 0, .getfield 9012, .aload 0, .getfield 9000, .iload 1, .iastore, .aload 0, .getfield 9022, .aload 0, .getfield 9000, .iload 2, .iastore, 
  .aload 0, .dup, .getfield 9000, .iconst 1, .iadd, .putfield 9000, .return_]
def ps_108 : List Nat := [0, 1, 4, 6, 9, 10, 13, 14, 17, 18, 19, 20, 23, 24, 27, 28, 29, 30, 31, 34, 35, 36, 39]
theorem ck_108 : xChkM 9 false none prog_11_method_2_code cd_108 ps_108 = true := xChkN_ok 0xb11200b560041200b4592a4f1c1200b42a0f00b42a4f1b1200b42a0900b42a2100a214101200b42a 40 0x0027002400230022001f001e001d001c001b001800170014001300120011000e000d000a00090006000400010000 23 (by decide +kernel)
/-- LastCloud$Sights.copyFrom(LLastCloud$Sights;)V -/
def cd_109 : List Instr := [.aload 0, .aload 1, .getfield 9000, .putfield 9000, .aload 1, .getfield 9012, .iconst 0, .aload 0, .getfield 9012, .iconst 0, .iconst 20, .dmul, .aload 1, .getfield 9022, .iconst 0, .aload 0, 
  .getfield 9022, .iconst 0, .iconst 20, .dmul, .return_]
def ps_109 : List Nat := [0, 1, 2, 5, 8, 9, 12, 13, 14, 17, 18, 20, 23, 24, 27, 28, 29, 32, 33, 35, 38]
theorem ck_109 : xChkM 9 false none prog_11_method_3_code cd_109 ps_109 = true := xChkN_ok 0xb11600b81410030f00b42a030f00b42b1600b81410030900b42a030900b42b1200b51200b42b2a 39 0x0026002300210020001d001c001b00180017001400120011000e000d000c000900080005000200010000 21 (by decide +kernel)
/-- LastCloud$Sky.<init>()V -/
def cd_110 : List Instr := [.aload 0, .dneg, .aload 0, .iconst 8, .anewarray 25, .putfield 10002, .aload 0, .iconst 10, .anewarray 26, .putfield 10012, .aload 0, .new 6, .dup, .invokespecial 512487, .putfield 10022, .aload 0, 
  .new 9, .dup, .invokespecial 856727, .putfield 10032, .iconst 0, .istore 1, .iload 1, .iconst 8, .if_icmp .ge 34, .aload 0, .getfield 10002, .iload 1, .new 4, .dup, .invokespecial 320327, .aastore, 
  .iinc 1 1, .goto 22, .iconst 0, .istore 1, .iload 1, .iconst 10, .if_icmp .ge 48, .aload 0, .getfield 10012, .iload 1, .new 2, .dup, .invokespecial 240167, .aastore, .iinc 1 1, .goto 36, .aload 0, 
  .invokevirtual 888807, .return_]
def ps_110 : List Nat := [0, 1, 4, 5, 7, 10, 13, 14, 16, 19, 22, 23, 26, 27, 30, 33, 34, 37, 38, 41, 44, 45, 46, 47, 49, 52, 53, 56, 57, 60, 61, 64, 65, 68, 71, 72, 73, 74, 76, 79, 80, 83, 84, 87, 88, 91, 92, 95, 98, 99, 102]
theorem ck_110 : xChkM 10 true none prog_12_method_1_code cd_110 ps_110 = true := xChkN_ok 0xb12700b62aeaffa7010184532600b7591100bb1b1300b42a1600a20a101b3c03eaffa7010184532500b7590900bb1b0b00b42a1600a208101b3c032100b52000b7591e00bb2a1a00b51900b7591700bb2a1300b51100bd0a102a0b00b50900bd08102a0300b72a 103 0x006600630062005f005c005b00580057005400530050004f004c004a004900480047004400410040003d003c00390038003500340031002f002e002d002c00290026002500220021001e001b001a0017001600130010000e000d000a00070005000400010000 51 (by decide +kernel)
/-- LastCloud$Sky.clear()V -/
def cd_111 : List Instr := [.iconst 0, .istore 1, .iload 1, .iconst 8, .if_icmp .ge 12, .aload 0, .getfield 10002, .iload 1, .aaload, .invokevirtual 328327, .iinc 1 1, .goto 2, .aload 0, .getfield 10022, .iconst 0, 
  .putfield 6000, .aload 0, .getfield 10032, .iconst 0, .putfield 9000, .aload 0, .iconst 0, .putfield 10040, .aload 0, .iconst 0, .putfield 10050, .aload 0, .iconst 0, .putfield 10060, .aload 0, 
  .iconst 0, .putfield 10070, .aload 0, .iconst 0, .putfield 10080, .aload 0, .iconst 40, .putfield 10090, .aload 0, .iconst 40, .putfield 10100, .aload 0, .iconst 1000, .putfield 10110, .aload 0, 
  .iconst 0, .putfield 10120, .aload 0, .iconst 0, .putfield 10130, .aload 0, .iconst (-1), .putfield 10140, .aload 0, .iconst (-1), .putfield 10150, .aload 0, .iconst 0, .putfield 10160, .aload 0, 
  .iconst 0, .putfield 10173, .aload 0, .iconst 0, .putfield 10180, .return_]
def ps_111 : List Nat := [0, 1, 2, 3, 5, 8, 9, 12, 13, 14, 17, 20, 23, 24, 27, 28, 31, 32, 35, 36, 39, 40, 41, 44, 45, 46, 49, 50, 51, 54, 55, 56, 59, 60, 61, 64, 65, 67, 70, 71, 73, 76, 77, 80, 83, 84, 85, 88, 89, 90, 93, 94, 
  95, 98, 99, 100, 103, 104, 105, 108, 109, 110, 113, 114, 115, 118]
theorem ck_111 : xChkM 10 false none prog_12_method_2_code cd_111 ps_111 = true := xChkN_ok 0xb15b00b5032a5700b5032a5400b5032a5100b5022a4e00b5022a4b00b5032a4800b5032a4500b5e803112a4200b528102a3f00b528102a3c00b5032a3900b5032a3600b5032a3300b5032a3000b5032a2f00b5032100b42a2b00b5031a00b42aeeffa70101842a00b6321b0b00b42a1200a208101b3c03 119 0x0076007300720071006e006d006c006900680067006400630062005f005e005d005a005900580055005400530050004d004c004900470046004300410040003d003c003b003800370036003300320031002e002d002c002900280027002400230020001f001c001b0018001700140011000e000d000c0009000800050003000200010000 66 (by decide +kernel)
/-- LastCloud$Sky.copyFrom(LLastCloud$Sky;)V -/
def cd_112 : List Instr := [.iconst 0, .istore 2, .iload 2, .iconst 8, .if_icmp .ge 16, .aload 0, .getfield 10002, .iload 2, .aaload, .aload 1, .getfield 10002, .iload 2, .aaload, .invokevirtual 336331, .iinc 2 1, .goto 2, 
  .iconst 0, .istore 2, .iload 2, .iconst 10, .if_icmp .ge 32, .aload 0, .getfield 10012, .iload 2, .aaload, .aload 1, .getfield 10012, .iload 2, .aaload, .invokevirtual 248171, .iinc 2 1, .goto 18, 
  .aload 0, .getfield 10022, .aload 1, .getfield 10022, .invokevirtual 528491, .aload 0, .getfield 10032, .aload 1, .getfield 10032, .invokevirtual 872731, .aload 0, .aload 1, .getfield 10040, 
  .putfield 10040, .aload 0, .aload 1, .getfield 10050, .putfield 10050, .aload 0, .aload 1, .getfield 10060, .putfield 10060, .aload 0, .aload 1, .getfield 10070, .putfield 10070, .aload 0, .aload 1, 
  .getfield 10080, .putfield 10080, .aload 0, .aload 1, .getfield 10090, .putfield 10090, .aload 0, .aload 1, .getfield 10100, .putfield 10100, .aload 0, .aload 1, .getfield 10110, .putfield 10110, 
  .aload 0, .aload 1, .getfield 10120, .putfield 10120, .aload 0, .aload 1, .getfield 10130, .putfield 10130, .aload 0, .aload 1, .getfield 10140, .putfield 10140, .aload 0, .aload 1, .getfield 10150, 
  .putfield 10150, .aload 0, .aload 1, .getfield 10160, .putfield 10160, .aload 0, .aload 1, .getfield 10170, .putfield 10173, .aload 0, .aload 1, .getfield 10180, .putfield 10180, .return_]
def ps_112 : List Nat := [0, 1, 2, 3, 5, 8, 9, 12, 13, 14, 15, 18, 19, 20, 23, 26, 29, 30, 31, 32, 34, 37, 38, 41, 42, 43, 44, 47, 48, 49, 52, 55, 58, 59, 62, 63, 66, 69, 70, 73, 74, 77, 80, 81, 82, 85, 88, 89, 90, 93, 96, 97, 
  98, 101, 104, 105, 106, 109, 112, 113, 114, 117, 120, 121, 122, 125, 128, 129, 130, 133, 136, 137, 138, 141, 144, 145, 146, 149, 152, 153, 154, 157, 160, 161, 162, 165, 168, 169, 170, 173, 176, 177, 
  178, 181, 184, 185, 186, 189, 192, 193, 194, 197, 200]
theorem ck_112 : xChkM 10 false none prog_12_method_3_code cd_112 ps_112 = true := xChkN_ok 0xb15b00b55b00b42b2a5700b55700b42b2a5400b55400b42b2a5100b55100b42b2a4e00b54e00b42b2a4b00b54b00b42b2a4800b54800b42b2a4500b54500b42b2a4200b54200b42b2a3f00b53f00b42b2a3c00b53c00b42b2a3900b53900b42b2a3600b53600b42b2a3300b53300b42b2a3000b53000b42b2a6800b62100b42b2100b42a6500b61a00b42b1a00b42ae8ffa70102846200b6321c1300b42b321c1300b42a1800a20a101c3d03e8ffa70102845e00b6321c0b00b42b321c0b00b42a1800a208101c3d03 201 0x00c800c500c200c100c000bd00ba00b900b800b500b200b100b000ad00aa00a900a800a500a200a100a0009d009a009900980095009200910090008d008a008900880085008200810080007d007a007900780075007200710070006d006a006900680065006200610060005d005a005900580055005200510050004d004a0049004600450042003f003e003b003a0037003400310030002f002c002b002a00290026002500220020001f001e001d001a0017001400130012000f000e000d000c0009000800050003000200010000 103 (by decide +kernel)
/-- LastCloud$Sky.hasPlace(I)Z -/
def cd_113 : List Instr := [.iload 1, .ifCond .lt 8, .iload 1, .aload 0, .getfield 10040, .if_icmp .ge 8, .iconst 1, .goto 9, .iconst 0, .freturn]
def ps_113 : List Nat := [0, 1, 4, 5, 6, 9, 12, 13, 16, 17]
theorem ck_113 : xChkM 10 false (some .boolean) prog_12_method_4_code cd_113 ps_113 = true := xChkN_ok 0xac030400a7040700a23000b42a1b0f009b1b 18 0x00110010000d000c000900060005000400010000 10 (by decide +kernel)
/-- LastCloud$Sky.hasLeg(I)Z -/
def cd_114 : List Instr := [.iload 1, .ifCond .lt 8, .iload 1, .aload 0, .getfield 10050, .if_icmp .ge 8, .iconst 1, .goto 9, .iconst 0, .freturn]
def ps_114 : List Nat := [0, 1, 4, 5, 6, 9, 12, 13, 16, 17]
theorem ck_114 : xChkM 10 false (some .boolean) prog_12_method_5_code cd_114 ps_114 = true := xChkN_ok 0xac030400a7040700a23300b42a1b0f009b1b 18 0x00110010000d000c000900060005000400010000 10 (by decide +kernel)
/-- LastCloud$Sky.hasSpeed(I)Z -/
def cd_115 : List Instr := [.iload 1, .ifCond .lt 9, .iload 1, .aload 0, .getfield 10022, .getfield 6000, .if_icmp .ge 9, .iconst 1, .goto 10, .iconst 0, .freturn]
def ps_115 : List Nat := [0, 1, 4, 5, 6, 9, 12, 15, 16, 19, 20]
theorem ck_115 : xChkM 10 false (some .boolean) prog_12_method_6_code cd_115 ps_115 = true := xChkN_ok 0xac030400a7040700a22b00b41a00b42a1b12009b1b 21 0x001400130010000f000c000900060005000400010000 11 (by decide +kernel)
/-- LastCloud$Sky.hasSpot(II)Z -/
def cd_116 : List Instr := [.aload 0, .iload 1, .invokevirtual 904808, .ifCond .eq 17, .iload 2, .aload 0, .getfield 10002, .iload 1, .aaload, .getfield 4000, .if_icmp .lt 17, .iload 2, .aload 0, .getfield 10090, .if_icmp .gt 17, 
  .iconst 1, .goto 18, .iconst 0, .freturn]
def ps_116 : List Nat := [0, 1, 2, 5, 8, 9, 10, 13, 14, 15, 18, 21, 22, 23, 26, 29, 30, 33, 34]
theorem ck_116 : xChkM 10 false (some .boolean) prog_12_method_7_code cd_116 ps_116 = true := xChkN_ok 0xac030400a7040700a33f00b42a1c0f00a16f00b4321b0b00b42a1c1c00996b00b61b2a 35 0x00220021001e001d001a0017001600150012000f000e000d000a000900080005000200010000 19 (by decide +kernel)
/-- LastCloud$Sky.hasState(IIIZ)Z -/
def cd_117 : List Instr := [.aload 0, .iload 1, .iload 2, .invokevirtual 928812, .ifCond .eq 18, .iload 3, .ifCond .lt 18, .iload 3, .aload 0, .getfield 10100, .if_icmp .gt 18, .iload 4, .ifCond .eq 16, .aload 0, .getfield 10080, 
  .ifCond .le 18, .iconst 1, .goto 19, .iconst 0, .freturn]
def ps_117 : List Nat := [0, 1, 2, 3, 6, 9, 10, 13, 14, 15, 18, 21, 23, 26, 27, 30, 33, 34, 37, 38]
theorem ck_117 : xChkM 10 false (some .boolean) prog_12_method_8_code cd_117 ps_117 = true := xChkN_ok 0xac030400a70407009e3c00b42a0a009904151300a34200b42a1d1b009b1d1f00997200b61c1b2a 39 0x0026002500220021001e001b001a001700150012000f000e000d000a000900060003000200010000 20 (by decide +kernel)
/-- LastCloud$Sky.hasStart()Z -/
def cd_118 : List Instr := [.aload 0, .aload 0, .getfield 10150, .invokevirtual 904808, .freturn]
def ps_118 : List Nat := [0, 1, 2, 5, 8]
theorem ck_118 : xChkM 10 false (some .boolean) prog_12_method_9_code cd_118 ps_118 = true := xChkN_ok 0xac6b00b65100b42a2a 9 0x00080005000200010000 5 (by decide +kernel)
/-- LastCloud$Sky.startsWet()Z -/
def cd_119 : List Instr := [.aload 0, .getfield 10170, .ifCond .eq 8, .aload 0, .getfield 10080, .ifCond .le 8, .iconst 1, .goto 9, .iconst 0, .freturn]
def ps_119 : List Nat := [0, 1, 4, 7, 8, 11, 14, 15, 18, 19]
theorem ck_119 : xChkM 10 false (some .boolean) prog_12_method_10_code cd_119 ps_119 = true := xChkN_ok 0xac030400a70407009e3c00b42a0e00995700b42a 20 0x00130012000f000e000b00080007000400010000 10 (by decide +kernel)
/-- LastCloud$Sky.isToLandAt(I)Z -/
def cd_120 : List Instr := [.iload 1, .aload 0, .getfield 10140, .if_icmp .eq 11, .aload 0, .getfield 10002, .iload 1, .aaload, .getfield 4010, .iconst (-1), .if_icmp .eq 13, .iconst 1, .goto 14, .iconst 0, .freturn]
def ps_120 : List Nat := [0, 1, 2, 5, 8, 9, 12, 13, 14, 17, 18, 21, 22, 25, 26]
theorem ck_120 : xChkM 10 false (some .boolean) prog_12_method_11_code cd_120 ps_120 = true := xChkN_ok 0xac030400a70407009f027600b4321b0b00b42a10009f4e00b42a1b 27 0x001a00190016001500120011000e000d000c000900080005000200010000 15 (by decide +kernel)
/-- LastCloud$Sky.allPlaces()I -/
def cd_121 : List Instr := [.iconst 1, .aload 0, .getfield 10040, .ishl, .iconst 1, .isub, .ireturn]
def ps_121 : List Nat := [0, 1, 2, 5, 6, 7, 8]
theorem ck_121 : xChkM 10 false (some .int) prog_12_method_12_code cd_121 ps_121 = true := xChkN_ok 0xac6404783000b42a04 9 0x0008000700060005000200010000 7 (by decide +kernel)
/-- LastCloud$Sky.liftBits()I -/
def cd_122 : List Instr := [.iconst 0, .istore 1, .iconst 0, .istore 2, .iload 2, .aload 0, .getfield 10040, .if_icmp .ge 22, .aload 0, .getfield 10002, .iload 2, .aaload, .getfield 4020, .ifCond .eq 20, .iload 1, .iconst 1, 
  .iload 2, .ishl, .ior, .istore 1, .iinc 2 1, .goto 4, .iload 1, .ireturn]
def ps_122 : List Nat := [0, 1, 2, 3, 4, 5, 6, 9, 12, 13, 16, 17, 18, 21, 24, 25, 26, 27, 28, 29, 30, 33, 36, 37]
theorem ck_122 : xChkM 10 false (some .int) prog_12_method_13_code cd_122 ps_122 = true := xChkN_ok 0xac1be3ffa70102843c80781c041b0900997900b4321c0b00b42a1b00a23000b42a1c3d033c03 38 0x002500240021001e001d001c001b001a001900180015001200110010000d000c00090006000500040003000200010000 24 (by decide +kernel)
/-- LastCloud$Sky.overGround(IZIZ)I -/
def cd_123 : List Instr := [.aload 0, .getfield 10022, .getfield 6012, .iload 3, .iaload, .istore 5, .iload 4, .ifCond .eq 17, .iload 5, .iload 5, .aload 0, .getfield 10080, .imul, .iconst 100, .idiv, .iadd, .istore 5, .iload 2, 
  .ifCond .eq 27, .iload 5, .aload 0, .getfield 10012, .iload 1, .aaload, .getfield 2040, .isub, .goto 34, .iload 5, .aload 0, .getfield 10012, .iload 1, .aaload, .getfield 2040, .iadd, .ireturn]
def ps_123 : List Nat := [0, 1, 4, 7, 8, 9, 11, 13, 16, 18, 20, 21, 24, 25, 27, 28, 29, 31, 32, 35, 37, 38, 41, 42, 43, 46, 47, 50, 52, 53, 56, 57, 58, 61, 62]
theorem ck_123 : xChkM 10 false (some .int) prog_12_method_14_code cd_123 ps_123 = true := xChkN_ok 0xac608000b4321b1300b42a05150f00a7648000b4321b1300b42a05151200991c0536606c6410683c00b42a05150515120099041505362e1d7c00b41a00b42a 63 0x003e003d003a00390038003500340032002f002e002b002a00290026002500230020001f001d001c001b001900180015001400120010000d000b000900080007000400010000 35 (by decide +kernel)
/-- LastCloud$Sky.takes(IZIZ)I -/
def cd_124 : List Instr := [.aload 0, .iload 1, .iload 2, .iload 3, .iload 4, .invokevirtual 984820, .istore 5, .iload 5, .iconst 1, .if_icmp .ge 12, .iconst (-1), .goto 23, .iconst 12, .aload 0, .getfield 10012, .iload 1, 
  .aaload, .getfield 2020, .imul, .iload 5, .idiv, .iconst 1, .iadd, .ireturn]
def ps_124 : List Nat := [0, 1, 2, 3, 4, 6, 9, 11, 13, 14, 17, 18, 21, 23, 24, 27, 28, 29, 32, 33, 35, 36, 37, 38]
theorem ck_124 : xChkM 10 false (some .int) prog_12_method_15_code cd_124 ps_124 = true := xChkN_ok 0xac60046c0515688700b4321b1300b42a0c101400a7020700a204051505368300b604151d1c1b2a 39 0x002600250024002300210020001d001c001b00180017001500120011000e000d000b0009000600040003000200010000 24 (by decide +kernel)
/-- LastCloud$Sky.loses(IZIZ)I -/
def cd_125 : List Instr := [.aload 0, .iload 1, .iload 2, .iload 3, .iload 4, .invokevirtual 992820, .istore 5, .iload 5, .iconst (-1), .if_icmp .ne 12, .iconst (-2000000000), .goto 29, .iconst 5, .iload 5, .imul, .aload 0, 
  .getfield 10022, .getfield 6022, .iload 3, .iaload, .aload 0, .getfield 10012, .iload 1, .aaload, .getfield 2030, .isub, .imul, .iconst 100, .idiv, .ireturn]
def ps_125 : List Nat := [0, 1, 2, 3, 4, 6, 9, 11, 13, 14, 17, 19, 22, 23, 25, 26, 27, 30, 33, 34, 35, 36, 39, 40, 41, 44, 45, 46, 48, 49]
theorem ck_125 : xChkM 10 false (some .int) prog_12_method_16_code cd_125 ps_125 = true := xChkN_ok 0xac6c641068649100b4321b1300b42a2e1d8e00b41a00b42a680515081e00a78d120800a002051505368a00b604151d1c1b2a 50 0x00310030002e002d002c0029002800270024002300220021001e001b001a00190017001600130011000e000d000b0009000600040003000200010000 30 (by decide +kernel)
/-- LastCloud$Sky.wins(IZ)I -/
def cd_126 : List Instr := [.aload 0, .getfield 10002, .iload 1, .aaload, .getfield 4020, .ifCond .eq 15, .aload 0, .aload 0, .getfield 10002, .iload 1, .aaload, .getfield 4040, .iload 2, .invokevirtual 1016812, .goto 16, 
  .iconst 0, .ireturn]
def ps_126 : List Nat := [0, 1, 4, 5, 6, 9, 12, 13, 14, 17, 18, 19, 22, 23, 26, 29, 30]
theorem ck_126 : xChkM 10 false (some .int) prog_12_method_17_code cd_126 ps_126 = true := xChkN_ok 0xac030400a79700b61c9400b4321b0b00b42a2a1400997900b4321b0b00b42a 31 0x001e001d001a00170016001300120011000e000d000c000900060005000400010000 17 (by decide +kernel)
/-- LastCloud$Sky.winsBy(IZ)I -/
def cd_127 : List Instr := [.iload 2, .ifCond .eq 9, .iload 1, .aload 0, .getfield 10080, .imul, .iconst 100, .idiv, .goto 10, .iconst 0, .istore 3, .iconst 0, .iconst 5, .iload 1, .iload 3, .isub, .aload 0, .getfield 10070, 
  .isub, .imul, .iconst 100, .idiv, .dadd, .ireturn]
def ps_127 : List Nat := [0, 1, 4, 5, 6, 9, 10, 12, 13, 16, 17, 18, 19, 20, 21, 22, 23, 24, 27, 28, 29, 31, 32, 35]
theorem ck_127 : xChkM 10 false (some .int) prog_12_method_18_code cd_127 ps_127 = true := xChkN_ok 0xac9b00b86c641068643900b42a641d1b08033e030400a76c6410683c00b42a1b0f00991c 36 0x00230020001f001d001c001b001800170016001500140013001200110010000d000c000a000900060005000400010000 24 (by decide +kernel)
/-- LastCloud$Sky.capped(I)I -/
def cd_128 : List Instr := [.aload 0, .getfield 10090, .iload 1, .dsub, .ireturn]
def ps_128 : List Nat := [0, 1, 4, 5, 8]
theorem ck_128 : xChkM 10 false (some .int) prog_12_method_19_code cd_128 ps_128 = true := xChkN_ok 0xaca100b81b3f00b42a 9 0x00080005000400010000 5 (by decide +kernel)
/-- LastCloud$Sky.chanceNow(I)I -/
def cd_129 : List Instr := [.aload 0, .getfield 10002, .iload 1, .aaload, .getfield 4030, .istore 2, .iconst 0, .istore 3, .iload 3, .aload 0, .getfield 10032, .getfield 9000, .if_icmp .ge 34, .aload 0, .getfield 10032, 
  .getfield 9012, .iload 3, .iaload, .iload 1, .if_icmp .ne 32, .aload 0, .getfield 10002, .iload 1, .aaload, .iload 2, .aload 0, .getfield 10032, .getfield 9022, .iload 3, .iaload, 
  .invokevirtual 344332, .istore 2, .iinc 3 1, .goto 8, .iload 2, .ireturn]
def ps_129 : List Nat := [0, 1, 4, 5, 6, 9, 10, 11, 12, 13, 14, 17, 20, 23, 24, 27, 30, 31, 32, 33, 36, 37, 40, 41, 42, 43, 44, 47, 50, 51, 52, 55, 56, 59, 62, 63]
theorem ck_129 : xChkM 10 false (some .int) prog_12_method_20_code cd_129 ps_129 = true := xChkN_ok 0xac1cd1ffa70103843dac00b62e1da900b42100b42a1c321b0b00b42a1700a01b2e1da700b42100b42a2a00a22f00b42100b42a1d3e033da400b4321b0b00b42a 64 0x003f003e003b00380037003400330032002f002c002b002a002900280025002400210020001f001e001b0018001700140011000e000d000c000b000a000900060005000400010000 36 (by decide +kernel)
/-- LastCloud$Sky.fastSpeedTo(I)I -/
def cd_130 : List Instr := [.aload 0, .getfield 10002, .iload 1, .aaload, .astore 2, .aload 0, .getfield 10022, .aload 2, .getfield 4020, .ifCond .eq 18, .iconst 1, .aload 2, .getfield 4040, .aload 0, .getfield 10070, .isub, 
  .dadd, .goto 19, .iconst 100, .invokevirtual 536488, .ireturn]
def ps_130 : List Nat := [0, 1, 4, 5, 6, 7, 8, 11, 12, 15, 18, 19, 20, 23, 24, 27, 28, 31, 34, 36, 39]
theorem ck_130 : xChkM 10 false (some .int) prog_12_method_21_code cd_130 ps_130 = true := xChkN_ok 0xacaf00b664100500a79b00b8643900b42a9400b42c041300997900b42c1a00b42a4d321b0b00b42a 40 0x002700240022001f001c001b00180017001400130012000f000c000b0008000700060005000400010000 21 (by decide +kernel)
/-- LastCloud$Sky.landingWorth(III)I -/
def cd_131 : List Instr := [.iload 1, .iconst 2, .if_icmp .ne 13, .iload 2, .aload 0, .getfield 10140, .if_icmp .ne 11, .iconst 10000, .iload 3, .isub, .goto 12, .iconst 0, .ireturn, .iload 2, .aload 0, .getfield 10140, 
  .if_icmp .ne 25, .aload 0, .getfield 10110, .aload 0, .getfield 10120, .iload 3, .imul, .isub, .ireturn, .aload 0, .getfield 10002, .iload 2, .aaload, .getfield 4010, .istore 4, .iload 4, .iconst (-1), 
  .if_icmp .eq 41, .iload 4, .aload 0, .getfield 10120, .iload 3, .imul, .isub, .goto 44, .aload 0, .getfield 10130, .ineg, .ireturn]
def ps_131 : List Nat := [0, 1, 2, 5, 6, 7, 10, 13, 16, 17, 18, 21, 22, 23, 24, 25, 28, 31, 32, 35, 36, 39, 40, 41, 42, 43, 44, 47, 48, 49, 52, 54, 56, 57, 60, 62, 63, 66, 67, 68, 69, 72, 73, 76, 77]
theorem ck_131 : xChkM 10 false (some .int) prog_12_method_22_code cd_131 ps_131 = true := xChkN_ok 0xac744b00b42a0800a764681d4800b42a04150f009f02041504367600b4321c0b00b42aac64681d4800b42a4500b42a0f00a04e00b42a1cac030400a7641d1027110b00a04e00b42a1c1500a0051b 78 0x004d004c004900480045004400430042003f003e003c003900380036003400310030002f002c002b002a002900280027002400230020001f001c00190018001700160015001200110010000d000a000700060005000200010000 45 (by decide +kernel)
/-- LastCloud.<init>()V -/
def cd_132 : List Instr := [.aload 0, .dneg, .aload 0, .iconst 1600, .newarray .byte, .putfield 11002, .aload 0, .new 7, .dup, .aload 0, .getfield 11002, .invokespecial 560571, .putfield 11022, .aload 0, .iconst (-1), 
  .putfield 11040, .aload 0, .new 10, .dup, .invokespecial 880807, .putfield 11052, .aload 0, .new 10, .dup, .invokespecial 880807, .putfield 11062, .aload 0, .iconst 3, .anewarray 27, .putfield 11072, 
  .aload 0, .iconst 3, .newarray .boolean, .putfield 11082, .aload 0, .new 1, .dup, .invokespecial 120087, .putfield 11092, .aload 0, .iconst 5, .anewarray 28, .putfield 11102, .aload 0, .new 3, .dup, 
  .invokespecial 256247, .putfield 11112, .aload 0, .new 0, .dup, .invokespecial 7, .putfield 11122, .aload 0, .new 0, .dup, .invokespecial 7, .putfield 11132, .aload 0, .new 8, .dup, 
  .invokespecial 744647, .putfield 11142, .aload 0, .iconst 4, .iconst 60, .multianewarray 24 2, .putfield 11152, .aload 0, .iconst 4, .newarray .int, .putfield 11162, .aload 0, .iconst 4, 
  .newarray .int, .putfield 11172, .iconst 0, .istore 1, .iload 1, .iconst 3, .if_icmp .ge 90, .aload 0, .getfield 11072, .iload 1, .new 10, .dup, .invokespecial 880807, .aastore, .iinc 1 1, .goto 78, 
  .aload 0, .getfield 11162, .iconst (-1), .invokestatic 2679931, .aload 0, .getfield 11092, .aload 0, .getfield 11052, .invokevirtual 136091, .return_]
def ps_132 : List Nat := [0, 1, 4, 5, 8, 10, 13, 14, 17, 18, 19, 22, 25, 28, 29, 30, 33, 34, 37, 38, 41, 44, 45, 48, 49, 52, 55, 56, 57, 60, 63, 64, 65, 67, 70, 71, 74, 75, 78, 81, 82, 83, 86, 89, 90, 93, 94, 97, 100, 101, 104, 
  105, 108, 111, 112, 115, 116, 119, 122, 123, 126, 127, 130, 133, 134, 135, 137, 141, 144, 145, 146, 148, 151, 152, 153, 155, 158, 159, 160, 161, 162, 165, 166, 169, 170, 173, 174, 177, 178, 181, 184, 
  185, 188, 189, 192, 193, 196, 197, 200, 203]
theorem ck_132 : xChkM 11 true none prog_1_method_1_code cd_132 ps_132 = true := xChkN_ok 0xb16300b61d00b42a2f00b42a5d00b8025600b42aebffa7010184531c00b7591a00bb1b2400b42a1600a2061b3c035a00b50abc072a5600b50abc072a5300b5025100c53c10072a4d00b54c00b7594a00bb2a4700b54200b7594000bb2a4300b54200b7594000bb2a3c00b53b00b7593900bb2a3500b53300bd082a2f00b52e00b7592c00bb2a2800b504bc062a2400b51a00bd062a2100b51c00b7591a00bb2a1d00b51c00b7591a00bb2a1600b5022a1200b50f00b70900b42a590d00bb2a0900b508bc4006112a0300b72a 204 0x00cb00c800c500c400c100c000bd00bc00b900b800b500b200b100ae00ad00aa00a900a600a500a200a100a0009f009e009b0099009800970094009200910090008d00890087008600850082007f007e007b007a0077007400730070006f006c00690068006500640061005e005d005a00590056005300520051004e004b004a00470046004300410040003f003c003900380037003400310030002d002c00290026002500220021001e001d001c00190016001300120011000e000d000a00080005000400010000 100 (by decide +kernel)
/-- LastCloud.feed(IIIII)I -/
def cd_133 : List Instr := [.aload 0, .getfield 11010, .iconst 20, .iadd, .iconst 1600, .if_icmp .le 8, .iconst (-1), .ireturn, .aload 0, .iload 1, .invokevirtual 1072891, .aload 0, .iload 2, .invokevirtual 1072891, .aload 0, 
  .iload 3, .invokevirtual 1072891, .aload 0, .iload 4, .invokevirtual 1072891, .aload 0, .iload 5, .invokevirtual 1072891, .aload 0, .getfield 11010, .ireturn]
def ps_133 : List Nat := [0, 1, 4, 6, 7, 10, 13, 14, 15, 16, 17, 20, 21, 22, 25, 26, 27, 30, 31, 33, 36, 37, 39, 42, 43, 46]
theorem ck_133 : xChkM 11 false (some .int) prog_1_method_2_code cd_133 ps_133 = true := xChkN_ok 0xac6700b42a6a00b605152a6a00b604152a6a00b61d2a6a00b61c2a6a00b61b2aac020500a44006116014106700b42a 47 0x002e002b002a0027002500240021001f001e001b001a001900160015001400110010000f000e000d000a00070006000400010000 26 (by decide +kernel)
/-- LastCloud.putNumber(I)V -/
def cd_134 : List Instr := [.iconst 24, .istore 2, .iload 2, .ifCond .lt 25, .aload 0, .getfield 11010, .iconst 1600, .if_icmp .ge 25, .aload 0, .getfield 11002, .aload 0, .getfield 11010, .iload 1, .iload 2, .ishr, .i2b, 
  .bastore, .aload 0, .dup, .getfield 11010, .iconst 1, .iadd, .putfield 11010, .iinc 2 (-8), .goto 2, .return_]
def ps_134 : List Nat := [0, 2, 3, 4, 7, 8, 11, 14, 17, 18, 21, 22, 25, 26, 27, 28, 29, 30, 31, 32, 35, 36, 37, 40, 43, 46]
theorem ck_134 : xChkM 11 false none prog_1_method_3_code cd_134 ps_134 = true := xChkN_ok 0xb1d8ffa7f802846700b560046700b4592a54917a1c1b6700b42a0900b42a2000a24006116700b42a2a009b1c3d1810 47 0x002e002b00280025002400230020001f001e001d001c001b001a00190016001500120011000e000b000800070004000300020000 26 (by decide +kernel)
