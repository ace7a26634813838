/-- LastCloud$Flight.<init>()V -/
def cd_0 : List Instr := [.aload 0, .dneg, .aload 0, .iconst 100, .newarray .int, .putfield 2, .aload 0, .iconst 100, .newarray .int, .putfield 12, .aload 0, .iconst 100, .newarray .int, .putfield 22, .aload 0, .iconst 100, 
  .newarray .int, .putfield 32, .aload 0, .iconst 100, .newarray .boolean, .putfield 42, .aload 0, .iconst 8, .newarray .int, .putfield 52, .return_]
def ps_0 : List Nat := [0, 1, 4, 5, 7, 9, 12, 13, 15, 17, 20, 21, 23, 25, 28, 29, 31, 33, 36, 37, 39, 41, 44, 45, 47, 49, 52]
theorem ck_0 : xChkM 0 true none prog_2_method_1_code cd_0 ps_0 = true := xChkN_ok 0xb11c00b50abc08102a1800b504bc64102a1500b50abc64102a1200b50abc64102a0f00b50abc64102a0b00b50abc64102a0300b72a 53 0x00340031002f002d002c00290027002500240021001f001d001c00190017001500140011000f000d000c000900070005000400010000 27 (by decide +kernel)
/-- LastCloud$Flight.begin(LLastCloud$Sky;I)V -/
def cd_1 : List Instr := [.aload 0, .iconst 0, .putfield 93, .aload 0, .iload 2, .i2l, .putfield 81, .aload 0, .aload 1, .invokevirtual 24011, .return_]
def ps_1 : List Nat := [0, 1, 2, 5, 6, 7, 8, 11, 12, 13, 16]
theorem ck_1 : xChkM 0 false none prog_2_method_2_code cd_1 ps_1 = true := xChkN_ok 0xb12700b62b2a2300b5851c2a1f00b5032a 17 0x0010000d000c000b0008000700060005000200010000 11 (by decide +kernel)
/-- LastCloud$Flight.beginUnderAllLifts(LLastCloud$Sky;)V -/
def cd_2 : List Instr := [.aload 0, .iconst 1, .putfield 93, .aload 0, .aload 1, .invokevirtual 24011, .return_]
def ps_2 : List Nat := [0, 1, 2, 5, 6, 7, 10]
theorem ck_2 : xChkM 0 false none prog_2_method_3_code cd_2 ps_2 = true := xChkN_ok 0xb12700b62b2a1f00b5042a 11 0x000a000700060005000200010000 7 (by decide +kernel)
/-- LastCloud$Flight.takeOff(LLastCloud$Sky;)V -/
def cd_3 : List Instr := [.aload 0, .aload 1, .putfield 72, .iconst 0, .istore 2, .iload 2, .aload 0, .getfield 72, .getfield 10040, .if_icmp .ge 20, .aload 0, .getfield 52, .iload 2, .aload 0, .getfield 72, .iload 2, 
  .invokevirtual 1032808, .iastore, .iinc 2 1, .goto 5, .aload 0, .iconst 0, .putfield 60, .aload 0, .aload 0, .getfield 72, .getfield 10150, .putfield 100, .aload 0, .aload 0, .getfield 72, 
  .getfield 10160, .putfield 110, .aload 0, .iconst 0, .putfield 120, .aload 0, .aload 0, .getfield 72, .invokevirtual 952804, .putfield 143, .aload 0, .iconst 0, .putfield 153, .aload 0, 
  .invokevirtual 32007, .return_]
def ps_3 : List Nat := [0, 1, 2, 5, 6, 7, 8, 9, 12, 15, 18, 19, 22, 23, 24, 27, 28, 31, 32, 35, 38, 39, 40, 43, 44, 45, 48, 51, 54, 55, 56, 59, 62, 65, 66, 67, 70, 71, 72, 75, 78, 81, 82, 83, 86, 87, 90]
theorem ck_3 : xChkM 0 false none prog_2_method_4_code cd_3 ps_3 = true := xChkN_ok 0xb15500b62a5200b5032a4f00b54b00b62b00b42a2a4800b5032a4500b54200b42b00b42a2a3f00b53c00b42b00b42a2a3900b5032ae4ffa70102844f3500b61c2b00b42a1c1c00b42a1700a22f00b42b00b42a1c3d032b00b52b2a 91 0x005a00570056005300520051004e004b004800470046004300420041003e003b00380037003600330030002d002c002b00280027002600230020001f001c001b00180017001600130012000f000c00090008000700060005000200010000 47 (by decide +kernel)
/-- LastCloud$Flight.meetLift()V -/
def cd_4 : List Instr := [.aload 0, .aload 0, .getfield 90, .ifCond .ne 12, .aload 0, .invokevirtual 40004, .aload 0, .getfield 52, .aload 0, .getfield 100, .iaload, .if_icmp .ge 14, .iconst 1, .goto 15, .iconst 0, 
  .putfield 133, .return_]
def ps_4 : List Nat := [0, 1, 2, 5, 8, 9, 12, 13, 16, 17, 20, 21, 24, 25, 28, 29, 32]
theorem ck_4 : xChkM 0 false none prog_2_method_5_code cd_4 ps_4 = true := xChkN_ok 0xb15c00b5030400a7040700a22e3f00b42a1c00b42a5800b62a13009a1f00b42a2a 33 0x0020001d001c001900180015001400110010000d000c000900080005000200010000 17 (by decide +kernel)
/-- LastCloud$Flight.drawOfHundred()I -/
def cd_5 : List Instr := [.aload 0, .jsr 1103515245, .aload 0, .getfield 81, .lmul, .jsr 12345, .ladd, .jsr 2147483648, .lrem, .putfield 81, .aload 0, .getfield 81, .jsr 65536, .ldiv, .jsr 100, .lrem, .l2i, .ireturn]
def ps_5 : List Nat := [0, 1, 4, 5, 8, 9, 12, 13, 16, 17, 20, 21, 24, 27, 28, 31, 32, 33]
theorem ck_5 : xChkM 0 false (some .int) prog_2_method_6_code cd_5 ps_5 = true := xChkN_ok 0xac88716700146d6500142300b42a2300b57163001461610014692300b42a5f00142a 34 0x00210020001f001c001b00180015001400110010000d000c000900080005000400010000 18 (by decide +kernel)
/-- LastCloud$Flight.follow(LLastCloud$Plan;LLastCloud$Sky;I)V -/
def cd_6 : List Instr := [.aload 0, .aload 2, .iload 3, .invokevirtual 8015, .iconst 0, .istore 4, .iload 4, .iconst 100, .if_icmp .ge 26, .aload 0, .getfield 150, .ifCond .ne 26, .aload 0, .aload 1, .invokevirtual 56008, 
  .istore 5, .aload 0, .iload 5, .invokevirtual 64011, .aload 0, .iload 5, .i2l, .invokevirtual 72008, .pop, .iinc 4 1, .goto 6, .aload 0, .aload 0, .getfield 72, .aload 1, .getfield 5120, .aload 0, 
  .getfield 100, .aload 0, .getfield 120, .invokevirtual 1048816, .putfield 170, .aload 0, .getfield 100, .aload 0, .getfield 72, .getfield 10140, .if_icmp .ne 47, .aload 0, .iconst 1, .putfield 160, 
  .goto 58, .aload 0, .aload 0, .getfield 72, .aload 0, .getfield 100, .invokevirtual 960808, .ifCond .eq 56, .iconst 2, .goto 57, .iconst 3, .putfield 160, .return_]
def ps_6 : List Nat := [0, 1, 2, 3, 6, 7, 9, 11, 13, 16, 17, 20, 23, 24, 25, 28, 30, 31, 33, 36, 37, 39, 40, 43, 44, 47, 50, 51, 52, 55, 56, 59, 60, 63, 64, 67, 70, 73, 74, 77, 78, 81, 84, 87, 88, 89, 92, 95, 96, 97, 100, 
  101, 104, 107, 110, 111, 114, 115, 118]
theorem ck_6 : xChkM 0 false none prog_2_method_7_code cd_6 ps_6 = true := xChkN_ok 0xb18800b5060400a7050700998b00b63f00b42a2b00b42a2a1a00a78800b5042a0b00a08500b42b00b42a3f00b42a8200b57e00b64800b42a3f00b42a7900b42b2b00b42a2adaffa7010484577500b68505152a7100b605152a05366d00b62b2a1e009a5200b42a2500a2641004150436036900b61d2c2a 119 0x007600730072006f006e006b00680065006400610060005f005c00590058005700540051004e004d004a0049004600430040003f003c003b00380037003400330032002f002c002b00280027002500240021001f001e001c001900180017001400110010000d000b0009000700060003000200010000 59 (by decide +kernel)
/-- LastCloud$Flight.deedBy(LLastCloud$Plan;)I -/
def cd_7 : List Instr := [.aload 1, .aload 0, .getfield 120, .aload 0, .getfield 140, .aload 0, .getfield 100, .aload 0, .getfield 110, .invokestatic 375936, .aload 0, .getfield 130, .invokevirtual 448412, .ireturn]
def ps_7 : List Nat := [0, 1, 2, 5, 6, 9, 10, 13, 14, 17, 20, 21, 24, 27]
theorem ck_7 : xChkM 0 false (some .int) prog_2_method_8_code cd_7 ps_7 = true := xChkN_ok 0xac9300b65c00b42a8f00b84500b42a3f00b42a4f00b42a4800b42a2b 28 0x001b0018001500140011000e000d000a000900060005000200010000 14 (by decide +kernel)
/-- LastCloud$Flight.note(I)V -/
def cd_8 : List Instr := [.aload 0, .getfield 60, .iconst 100, .if_icmp .ge 44, .aload 0, .getfield 2, .aload 0, .getfield 60, .iload 1, .iastore, .aload 0, .getfield 12, .aload 0, .getfield 60, .aload 0, .getfield 100, 
  .iastore, .aload 0, .getfield 22, .aload 0, .getfield 60, .aload 0, .getfield 110, .iastore, .aload 0, .getfield 32, .aload 0, .getfield 60, .aload 0, .getfield 120, .iastore, .aload 0, .getfield 42, 
  .aload 0, .getfield 60, .aload 0, .getfield 130, .castore, .aload 0, .dup, .getfield 60, .iconst 1, .iadd, .putfield 60, .return_]
def ps_8 : List Nat := [0, 1, 4, 6, 9, 10, 13, 14, 17, 18, 19, 20, 23, 24, 27, 28, 31, 32, 33, 36, 37, 40, 41, 44, 45, 46, 49, 50, 53, 54, 57, 58, 59, 62, 63, 66, 67, 70, 71, 72, 73, 76, 77, 78, 81]
theorem ck_8 : xChkM 0 false none prog_2_method_9_code cd_8 ps_8 = true := xChkN_ok 0xb13900b560043900b4592a545c00b42a3900b42a1800b42a4f4800b42a3900b42a1500b42a4f4500b42a3900b42a1200b42a4f3f00b42a3900b42a0f00b42a4f1b3900b42a0b00b42a4b00a264103900b42a 82 0x0051004e004d004c004900480047004600430042003f003e003b003a00390036003500320031002e002d002c002900280025002400210020001f001c001b001800170014001300120011000e000d000a00090006000400010000 45 (by decide +kernel)
/-- LastCloud$Flight.tryDeed(J)Z -/
def cd_9 : List Instr := [.aload 0, .getfield 150, .ifCond .eq 5, .iconst 0, .freturn, .lload 1, .jsr (-1), .lcmp, .ifCond .ne 14, .aload 0, .iconst 1, .putfield 153, .iconst 1, .freturn, .lload 1, .jsr 0, .lcmp, 
  .ifCond .ne 21, .aload 0, .invokevirtual 80004, .freturn, .lload 1, .jsr 1, .lcmp, .ifCond .ne 33, .aload 0, .getfield 140, .istore 3, .aload 0, .iconst 0, .putfield 143, .iload 3, .freturn, .lload 1, 
  .jsr 100, .lcmp, .ifCond .lt 41, .lload 1, .jsr 200, .lcmp, .ifCond .lt 43, .iconst 0, .freturn, .lload 1, .l2i, .iconst 100, .isub, .istore 3, .aload 0, .iload 3, .iconst 10, .idiv, .iload 3, 
  .iconst 10, .irem, .invokevirtual 88012, .freturn]
def ps_9 : List Nat := [0, 1, 4, 7, 8, 9, 10, 13, 14, 17, 18, 19, 22, 23, 24, 25, 26, 27, 30, 31, 34, 35, 36, 37, 38, 41, 42, 45, 46, 47, 48, 51, 52, 53, 54, 57, 58, 61, 62, 65, 66, 69, 70, 71, 72, 73, 75, 76, 77, 78, 79, 81, 
  82, 83, 85, 86, 89]
theorem ck_9 : xChkM 0 false (some .boolean) prog_2_method_10_code cd_9 ps_9 = true := xChkN_ok 0xac9e00b6700a101d6c0a101d2a3e646410881fac0305009b949c00141f0b009b946700141fac1d4f00b5032a3e4f00b42a0f009a940a1fac9900b62a08009a94091fac045200b5042a0a009a949700141fac030500995200b42a 90 0x005900560055005300520051004f004e004d004c004b0049004800470046004500420041003e003d003a003900360035003400330030002f002e002d002a002900260025002400230022001f001e001b001a0019001800170016001300120011000e000d000a000900080007000400010000 57 (by decide +kernel)
/-- LastCloud$Flight.tryClimb()Z -/
def cd_10 : List Instr := [.aload 0, .getfield 72, .aload 0, .getfield 110, .aload 0, .getfield 72, .aload 0, .getfield 100, .aload 0, .getfield 140, .invokevirtual 1008812, .iadd, .invokevirtual 1024808, .istore 1, .aload 0, 
  .getfield 130, .ifCond .eq 27, .iload 1, .aload 0, .getfield 110, .if_icmp .le 27, .aload 0, .getfield 120, .aload 0, .getfield 72, .getfield 10100, .if_icmp .lt 29, .iconst 0, .freturn, .aload 0, 
  .iload 1, .putfield 110, .aload 0, .dup, .getfield 120, .iconst 1, .iadd, .putfield 120, .iconst 1, .freturn]
def ps_10 : List Nat := [0, 1, 4, 5, 8, 9, 12, 13, 16, 17, 20, 23, 24, 27, 28, 29, 32, 35, 36, 37, 40, 43, 44, 47, 48, 51, 54, 57, 58, 59, 60, 61, 64, 65, 66, 69, 70, 71, 74, 75]
theorem ck_10 : xChkM 0 false (some .boolean) prog_2_method_11_code cd_10 ps_10 = true := xChkN_ok 0xac044800b560044800b4592a4500b51b2aac030500a1a800b42b00b42a4800b42a1100a44500b42a1b1900995c00b42a3ca500b660a200b64f00b42a3f00b42a2b00b42a4500b42a2b00b42a 76 0x004b004a004700460045004200410040003d003c003b003a0039003600330030002f002c002b00280025002400230020001d001c001b00180017001400110010000d000c000900080005000400010000 40 (by decide +kernel)
/-- LastCloud$Flight.tryLeg(II)Z -/
def cd_11 : List Instr := [.aload 0, .getfield 72, .iload 1, .invokevirtual 912808, .ifCond .eq 10, .aload 0, .getfield 72, .iload 2, .invokevirtual 920808, .ifCond .ne 12, .iconst 0, .freturn, .aload 0, .getfield 72, 
  .getfield 10012, .iload 1, .aaload, .astore 3, .aload 3, .getfield 2000, .aload 0, .getfield 100, .if_icmp .eq 30, .aload 3, .getfield 2010, .aload 0, .getfield 100, .if_icmp .eq 30, .iconst 0, 
  .freturn, .aload 3, .getfield 2010, .aload 0, .getfield 100, .if_icmp .ne 37, .iconst 1, .goto 38, .iconst 0, .istore 4, .aload 0, .getfield 72, .iload 1, .iload 4, .iload 2, .aload 0, .getfield 140, 
  .invokevirtual 992820, .istore 5, .iload 5, .iconst (-1), .if_icmp .eq 59, .aload 0, .getfield 120, .iload 5, .iadd, .aload 0, .getfield 72, .getfield 10100, .if_icmp .le 61, .iconst 0, .freturn, 
  .iload 4, .ifCond .eq 66, .aload 3, .getfield 2000, .goto 68, .aload 3, .getfield 2010, .istore 6, .aload 0, .getfield 72, .iload 1, .iload 4, .iload 2, .aload 0, .getfield 140, .invokevirtual 1000820, 
  .istore 7, .aload 0, .getfield 72, .aload 0, .getfield 110, .iload 7, .isub, .invokevirtual 1024808, .istore 8, .aload 0, .getfield 110, .iload 7, .iconst 2, .idiv, .isub, .aload 3, .getfield 2050, 
  .if_icmp .lt 101, .aload 0, .getfield 72, .iload 6, .iload 8, .invokevirtual 928812, .ifCond .ne 103, .iconst 0, .freturn, .aload 0, .iload 6, .putfield 100, .aload 0, .iload 8, .putfield 110, 
  .aload 0, .dup, .getfield 120, .iload 5, .iadd, .putfield 120, .aload 0, .invokevirtual 32007, .iconst 1, .freturn]
def ps_11 : List Nat := [0, 1, 4, 5, 8, 11, 12, 15, 16, 19, 22, 23, 24, 25, 28, 31, 32, 33, 34, 35, 38, 39, 42, 45, 46, 49, 50, 53, 56, 57, 58, 59, 62, 63, 66, 69, 70, 73, 74, 76, 77, 80, 81, 83, 84, 85, 88, 91, 93, 95, 96, 
  99, 100, 103, 105, 106, 107, 110, 113, 116, 117, 118, 120, 123, 124, 127, 130, 131, 134, 136, 137, 140, 141, 143, 144, 145, 148, 151, 153, 154, 157, 158, 161, 163, 164, 167, 169, 170, 173, 175, 176, 
  177, 178, 179, 182, 185, 186, 189, 191, 193, 196, 199, 200, 201, 202, 204, 207, 208, 210, 213, 214, 215, 218, 220, 221, 224, 225, 228, 229]
theorem ck_11 : xChkM 0 false (some .boolean) prog_2_method_12_code cd_11 ps_11 = true := xChkN_ok 0xac045500b62a4800b56005154800b4592a4500b508152a3f00b506152aac0305009ac700b6081506152b00b42a1100a1c400b42d646c0507154500b42a0836a500b66407154500b42a2b00b42a0736c100b64f00b42a1c04151b2b00b42a0636ba00b42d0700a7b500b42d0a00990415ac030500a4a800b42b00b42a6005154800b42a14009f0205150536bd00b64f00b42a1c04151b2b00b42a0436030400a7040700a03f00b42aba00b42dac0305009f3f00b42aba00b42d10009f3f00b42ab500b42d4e321bb100b42b00b42aac0305009aae00b61c2b00b42a0e0099ab00b61b2b00b42a 230 0x00e500e400e100e000dd00dc00da00d700d600d500d200d000cf00cc00ca00c900c800c700c400c100bf00bd00ba00b900b600b300b200b100b000af00ad00aa00a900a700a400a300a1009e009d009a00990097009400910090008f008d008c00890088008600830082007f007c007b00780076007500740071006e006b006a00690067006400630060005f005d005b005800550054005300510050004d004c004a0049004600450042003f003e003b003a00390038003500320031002e002d002a002700260023002200210020001f001c001900180017001600130010000f000c000b00080005000400010000 119 (by decide +kernel)
/-- LastCloud$Flight.noted(II)I -/
def cd_12 : List Instr := [.iload 1, .ifCond .lt 6, .iload 1, .aload 0, .getfield 60, .if_icmp .lt 8, .iconst (-1), .ireturn, .iload 2, .tableswitch 39 0 4 #[10, 15, 20, 25, 30], .aload 0, .getfield 2, .iload 1, .iaload, 
  .ireturn, .aload 0, .getfield 12, .iload 1, .iaload, .ireturn, .aload 0, .getfield 22, .iload 1, .iaload, .ireturn, .aload 0, .getfield 32, .iload 1, .iaload, .ireturn, .aload 0, .getfield 42, 
  .iload 1, .caload, .ifCond .eq 37, .iconst 1, .goto 38, .iconst 0, .ireturn, .iconst (-1), .ireturn]
def ps_12 : List Nat := [0, 1, 4, 5, 6, 9, 12, 13, 14, 15, 48, 49, 52, 53, 54, 55, 56, 59, 60, 61, 62, 63, 66, 67, 68, 69, 70, 73, 74, 75, 76, 77, 80, 81, 82, 85, 86, 89, 90, 91, 92]
theorem ck_12 : xChkM 0 false (some .int) prog_2_method_13_code cd_12 ps_12 = true := xChkN_ok 0xac02ac030400a704070099331b1800b42aac2e1b1500b42aac2e1b1200b42aac2e1b0f00b42aac2e1b0b00b42a3d000000360000002f000000280000002100000004000000000000004c000000aa1cac020500a13900b42a1b0b009b1b 93 0x005c005b005a005900560055005200510050004d004c004b004a004900460045004400430042003f003e003d003c003b0038003700360035003400310030000f000e000d000c000900060005000400010000 41 (by decide +kernel)
/-- LastCloud$Flight.endOf(I)I -/
def cd_13 : List Instr := [.aload 0, .getfield 60, .ifCond .ne 5, .iconst (-1), .ireturn, .iload 1, .tableswitch 22 0 4 #[7, 10, 13, 16, 19], .aload 0, .getfield 100, .ireturn, .aload 0, .getfield 110, .ireturn, .aload 0, 
  .getfield 120, .ireturn, .aload 0, .getfield 170, .ireturn, .aload 0, .getfield 160, .ireturn, .iconst (-1), .ireturn]
def ps_13 : List Nat := [0, 1, 4, 7, 8, 9, 10, 44, 45, 48, 49, 50, 53, 54, 55, 58, 59, 60, 63, 64, 65, 68, 69, 70]
theorem ck_13 : xChkM 0 false (some .int) prog_2_method_14_code cd_13 ps_13 = true := xChkN_ok 0xac02ac8800b42aac8200b42aac4800b42aac4500b42aac3f00b42a36000000310000002c000000270000002200000004000000000000003b00000000aa1bac0205009a3900b42a 71 0x00460045004400410040003f003c003b003a003700360035003200310030002d002c000a000900080007000400010000 24 (by decide +kernel)
/-- LastCloud$Flight.spreadValue(I)I -/
def cd_14 : List Instr := [.iload 1, .tableswitch 16 2 4 #[2, 10, 13], .aload 0, .getfield 160, .iconst 3, .if_icmp .ne 8, .iconst 1, .goto 9, .iconst 0, .ireturn, .aload 0, .getfield 120, .ireturn, .aload 0, .getfield 60, 
  .ireturn, .aload 0, .getfield 170, .ireturn]
def ps_14 : List Nat := [0, 1, 28, 29, 32, 33, 36, 37, 40, 41, 42, 43, 46, 47, 48, 51, 52, 53, 56]
theorem ck_14 : xChkM 0 false (some .int) prog_2_method_15_code cd_14 ps_14 = true := xChkN_ok 0xac8200b42aac3900b42aac4800b42aac030400a7040700a0068800b42a2e000000290000001b0000000400000002000000330000000000aa1b 57 0x00380035003400330030002f002e002b002a002900280025002400210020001d001c00010000 19 (by decide +kernel)
/-- LastCloud$Hops.<init>()V -/
def cd_15 : List Instr := [.aload 0, .dneg, .aload 0, .iconst 17, .newarray .int, .putfield 1002, .aload 0, .iconst 240, .newarray .int, .putfield 1012, .aload 0, .iconst 240, .newarray .int, .putfield 1022, .aload 0, 
  .iconst 240, .newarray .int, .putfield 1032, .aload 0, .iconst 240, .newarray .int, .putfield 1042, .aload 0, .iconst 240, .newarray .int, .putfield 1052, .aload 0, .iconst 16, .newarray .int, 
  .putfield 1072, .aload 0, .iconst 8, .newarray .int, .putfield 1082, .aload 0, .iconst 256, .newarray .int, .putfield 1092, .return_]
def ps_15 : List Nat := [0, 1, 4, 5, 7, 9, 12, 13, 16, 18, 21, 22, 25, 27, 30, 31, 34, 36, 39, 40, 43, 45, 48, 49, 52, 54, 57, 58, 60, 62, 65, 66, 68, 70, 73, 74, 77, 79, 82]
theorem ck_15 : xChkM 1 true none prog_3_method_1_code cd_15 ps_15 = true := xChkN_ok 0xb12400b50abc0001112a2100b50abc08102a1e00b50abc10102a1b00b50abcf000112a1800b50abcf000112a1500b50abcf000112a1200b50abcf000112a0f00b50abcf000112a0b00b50abc11102a0300b72a 83 0x0052004f004d004a00490046004400420041003e003c003a00390036003400310030002d002b0028002700240022001f001e001b00190016001500120010000d000c000900070005000400010000 39 (by decide +kernel)
/-- LastCloud$Hops.group(IZ)I -/
def cd_16 : List Instr := [.iload 1, .ifCond .eq 6, .iconst 8, .iload 0, .iadd, .goto 7, .iload 0, .ireturn]
def ps_16 : List Nat := [0, 1, 4, 6, 7, 8, 11, 12]
theorem ck_16 : xChkM 1 false (some .int) prog_3_method_2_code cd_16 ps_16 = true := xChkN_ok 0xac1a0400a7601a08100a00991b 13 0x000c000b000800070006000400010000 8 (by decide +kernel)
/-- LastCloud$Hops.build(LLastCloud$Sky;)V -/
def cd_17 : List Instr := [.aload 0, .iconst 0, .putfield 1060, .iconst 0, .istore 2, .iload 2, .iconst 16, .if_icmp .ge 34, .aload 0, .getfield 1002, .iload 2, .aload 0, .getfield 1060, .iastore, .iload 2, .iconst 8, .irem, 
  .istore 3, .iload 3, .aload 1, .getfield 10040, .if_icmp .ge 32, .aload 0, .aload 1, .iload 3, .iload 2, .iconst 8, .if_icmp .lt 30, .iconst 1, .goto 31, .iconst 0, .invokevirtual 144099, .iinc 2 1, 
  .goto 5, .aload 0, .getfield 1002, .iconst 16, .aload 0, .getfield 1060, .iastore, .aload 0, .aload 1, .iconst 0, .invokevirtual 184095, .aload 0, .aload 1, .iconst 1, .invokevirtual 184095, .return_]
def ps_17 : List Nat := [0, 1, 2, 5, 6, 7, 8, 10, 13, 14, 17, 18, 19, 22, 23, 24, 26, 27, 28, 29, 30, 33, 36, 37, 38, 39, 40, 42, 45, 46, 49, 50, 53, 56, 59, 60, 63, 65, 66, 69, 70, 71, 72, 73, 76, 77, 78, 79, 82]
theorem ck_17 : xChkM 1 false none prog_3_method_3_code cd_17 ps_17 = true := xChkN_ok 0xb13400b6042b2a3400b6032b2a4f2700b42a10100b00b42acfffa70102843000b6030400a7040700a108101c1d2b2a1400a22b00b42b1d3e7008101c4f2700b42a1c0b00b42a3100a210101c3d032700b5032a 83 0x0052004f004e004d004c0049004800470046004500420041003f003c003b0038003500320031002e002d002a002800270026002500240021001e001d001c001b001a001800170016001300120011000e000d000a0008000700060005000200010000 49 (by decide +kernel)
/-- LastCloud$Hops.addFrom(LLastCloud$Sky;IZ)V -/
def cd_18 : List Instr := [.iconst 0, .istore 4, .iload 4, .aload 1, .getfield 10050, .if_icmp .ge 43, .aload 1, .getfield 10012, .iload 4, .aaload, .astore 5, .aload 5, .getfield 2000, .iload 2, .if_icmp .eq 19, .aload 5, 
  .getfield 2010, .iload 2, .if_icmp .ne 41, .iconst 0, .istore 6, .iload 6, .aload 1, .getfield 10022, .getfield 6000, .if_icmp .ge 41, .aload 0, .aload 1, .iload 4, .aload 5, .getfield 2010, .iload 2, 
  .if_icmp .ne 35, .iconst 1, .goto 36, .iconst 0, .iload 6, .iload 3, .invokevirtual 152107, .iinc 6 1, .goto 21, .iinc 4 1, .goto 2, .return_]
def ps_18 : List Nat := [0, 1, 3, 5, 6, 9, 12, 13, 16, 18, 19, 21, 23, 26, 27, 30, 32, 35, 36, 39, 40, 42, 44, 45, 48, 51, 54, 55, 56, 58, 60, 63, 64, 67, 68, 71, 72, 74, 75, 78, 81, 84, 87, 90]
theorem ck_18 : xChkM 1 false none prog_3_method_4_code cd_18 ps_18 = true := xChkN_ok 0xb1acffa7010484d9ffa70106844e00b61d0615030400a7040700a01c4400b4051904152b2a2100a24b00b44700b42b06150636033000a01c4400b405190c009f1c3f00b40519053a3204153b00b42b5100a23800b42b0415043603 91 0x005a005700540051004e004b004a00480047004400430040003f003c003a00380037003600330030002d002c002a00280027002400230020001e001b001a00170015001300120010000d000c000900060005000300010000 44 (by decide +kernel)
/-- LastCloud$Hops.add(LLastCloud$Sky;IZIZ)V -/
def cd_19 : List Instr := [.aload 1, .iload 2, .iload 3, .iload 4, .iload 5, .invokevirtual 992820, .istore 6, .iload 6, .iconst (-1), .if_icmp .eq 14, .aload 0, .getfield 1060, .iconst 240, .if_icmp .lt 15, .return_, .aload 1, 
  .getfield 10012, .iload 2, .aaload, .astore 7, .iload 3, .ifCond .eq 25, .aload 7, .getfield 2010, .goto 27, .aload 7, .getfield 2000, .istore 8, .iload 3, .ifCond .eq 33, .aload 7, .getfield 2000, 
  .goto 35, .aload 7, .getfield 2010, .istore 9, .aload 1, .iload 2, .iload 3, .iload 4, .iload 5, .invokevirtual 1000820, .istore 10, .aload 7, .getfield 2050, .iload 10, .iconst 2, .idiv, .iadd, 
  .aload 1, .getfield 10002, .iload 9, .aaload, .getfield 4000, .iload 10, .iadd, .dadd, .istore 11, .aload 0, .getfield 1012, .aload 0, .getfield 1060, .iload 9, .iastore, .aload 0, .getfield 1022, 
  .aload 0, .getfield 1060, .iload 6, .iastore, .aload 0, .getfield 1032, .aload 0, .getfield 1060, .iload 10, .iastore, .aload 0, .getfield 1042, .aload 0, .getfield 1060, .iload 11, .aload 1, 
  .getfield 10002, .iload 8, .aaload, .getfield 4000, .dadd, .iastore, .aload 0, .getfield 1052, .aload 0, .getfield 1060, .iconst 100, .iconst 10, .iload 2, .imul, .iadd, .iload 4, .iadd, .iastore, 
  .aload 0, .dup, .getfield 1060, .iconst 1, .iadd, .putfield 1060, .return_]
def ps_19 : List Nat := [0, 1, 2, 3, 5, 7, 10, 12, 14, 15, 18, 19, 22, 25, 28, 29, 30, 33, 34, 35, 37, 38, 41, 43, 46, 49, 51, 54, 56, 57, 60, 62, 65, 68, 70, 73, 75, 76, 77, 78, 80, 82, 85, 87, 89, 92, 94, 95, 96, 97, 98, 
  101, 103, 104, 107, 109, 110, 113, 115, 116, 119, 120, 123, 125, 126, 127, 130, 131, 134, 136, 137, 138, 141, 142, 145, 147, 148, 149, 152, 153, 156, 158, 159, 162, 164, 165, 168, 171, 172, 173, 176, 
  177, 180, 182, 184, 185, 186, 187, 189, 190, 191, 192, 193, 196, 197, 198, 201]
theorem ck_19 : xChkM 1 false none prog_3_method_5_code cd_19 ps_19 = true := xChkN_ok 0xb12700b560042700b4592a4f60041560681c0a1064102700b42a1b00b42a4f6400b85f00b43208155b00b42b0b152700b42a1800b42a4f0a152700b42a1500b42a4f06152700b42a1200b42a4f09152700b42a0f00b42a0b366400b8600a155f00b43209155b00b42b606c050a155800b407190a365500b6051504151d1c2b09364400b407190800a73f00b407190b00991d08363f00b407190800a74400b407190b00991d073a321c3b00b42bb10400a1f000112700b42a0d009f02061506365200b6051504151d1c2b 202 0x00c900c600c500c400c100c000bf00be00bd00bb00ba00b900b800b600b400b100b000ad00ac00ab00a800a500a400a2009f009e009c009900980095009400930091008e008d008a00890088008600830082007f007e007d007b00780077007400730071006e006d006b006800670065006200610060005f005e005c00590057005500520050004e004d004c004b0049004600440041003e003c00390038003600330031002e002b002900260025002300220021001e001d001c0019001600130012000f000e000c000a000700050003000200010000 107 (by decide +kernel)
/-- LastCloud$Hops.edgeAt(IZ)I -/
def cd_20 : List Instr := [.iload 1, .iload 2, .invokestatic 135928, .istore 3, .iload 3, .ifCond .lt 14, .iload 3, .iconst 16, .if_icmp .ge 14, .aload 0, .getfield 1072, .iload 3, .iaload, .goto 15, .iconst 1000000, .ireturn]
def ps_20 : List Nat := [0, 1, 2, 5, 6, 7, 10, 11, 13, 16, 17, 20, 21, 22, 25, 27]
theorem ck_20 : xChkM 1 false (some .int) prog_3_method_6_code cd_20 ps_20 = true := xChkN_ok 0xac6e120500a72e1d1e00b42a0c00a210101d12009b1d3e6a00b81c1b 28 0x001b001900160015001400110010000d000b000a000700060005000200010000 16 (by decide +kernel)
/-- LastCloud$Hops.heightAt(I)I -/
def cd_21 : List Instr := [.iload 1, .ifCond .lt 10, .iload 1, .iconst 8, .if_icmp .ge 10, .aload 0, .getfield 1082, .iload 1, .iaload, .goto 11, .iconst (-1), .ireturn]
def ps_21 : List Nat := [0, 1, 4, 5, 7, 10, 11, 14, 15, 16, 19, 20]
theorem ck_21 : xChkM 1 false (some .int) prog_3_method_7_code cd_21 ps_21 = true := xChkN_ok 0xac020400a72e1b2100b42a0c00a208101b12009b1b 21 0x001400130010000f000e000b000a00070005000400010000 12 (by decide +kernel)
/-- LastCloud$Hops.speedOf(I)I -/
def cd_22 : List Instr := [.aload 0, .getfield 1052, .iload 1, .iaload, .iconst 100, .isub, .iconst 10, .irem, .ireturn]
def ps_22 : List Nat := [0, 1, 4, 5, 6, 8, 9, 11, 12]
theorem ck_22 : xChkM 1 false (some .int) prog_3_method_8_code cd_22 ps_22 = true := xChkN_ok 0xac700a106464102e1b1b00b42a 13 0x000c000b0009000800060005000400010000 9 (by decide +kernel)
/-- LastCloud$Hops.findEdges(LLastCloud$Sky;Z)V -/
def cd_23 : List Instr := [.iconst 0, .istore 3, .iload 3, .aload 1, .getfield 10040, .if_icmp .ge 25, .aload 0, .getfield 1072, .iload 3, .iload 2, .invokestatic 135928, .aload 1, .iload 3, .invokevirtual 960808, 
  .ifCond .eq 21, .aload 1, .getfield 10002, .iload 3, .aaload, .getfield 4000, .goto 22, .iconst 1000000, .iastore, .iinc 3 1, .goto 2, .iconst 1, .istore 3, .iconst 0, .istore 4, .iload 4, .iconst 496, 
  .if_icmp .gt 67, .iload 3, .ifCond .eq 67, .iconst 0, .istore 3, .iconst 0, .istore 5, .iload 5, .aload 1, .getfield 10040, .if_icmp .ge 65, .aload 0, .aload 1, .iload 5, .iload 2, 
  .invokevirtual 192096, .istore 6, .iload 6, .aload 0, .iload 5, .iload 2, .invokevirtual 160092, .if_icmp .ge 63, .aload 0, .getfield 1072, .iload 5, .iload 2, .invokestatic 135928, .iload 6, .iastore, 
  .iconst 1, .istore 3, .iinc 5 1, .goto 38, .iinc 4 1, .goto 29, .return_]
def ps_23 : List Nat := [0, 1, 2, 3, 4, 7, 10, 11, 14, 15, 16, 19, 20, 21, 24, 27, 28, 31, 32, 33, 36, 39, 41, 42, 45, 48, 49, 50, 51, 53, 55, 58, 61, 62, 65, 66, 67, 68, 70, 72, 73, 76, 79, 80, 81, 83, 84, 87, 89, 91, 92, 94, 
  95, 98, 101, 102, 105, 107, 108, 111, 113, 114, 115, 116, 119, 122, 125, 128]
theorem ck_23 : xChkM 1 false none prog_3_method_9_code cd_23 ps_23 = true := xChkN_ok 0xb1b8ffa7010484cfffa70105843e044f06156a00b81c05151e00b42a1200a27700b61c05152a061506367300b61c05152b2a2e00a22b00b42b05150536033e034200991d4600a3f0011104150436033e04d5ffa70103844f6e120500a75f00b4321d5b00b42b0f00996f00b61d2b6a00b81c1d1e00b42a2900a22b00b42b1d3e03 129 0x0080007d007a00770074007300720071006f006c006b0069006600650062005f005e005c005b005900570054005300510050004f004c0049004800460044004300420041003e003d003a003700350033003200310030002d002a00290027002400210020001f001c001b00180015001400130010000f000e000b000a000700040003000200010000 68 (by decide +kernel)
/-- LastCloud$Hops.leastByHop(LLastCloud$Sky;IZ)I -/
def cd_24 : List Instr := [.iconst 1000000, .istore 4, .iload 2, .iload 3, .invokestatic 135928, .istore 5, .aload 0, .getfield 1002, .iload 5, .iaload, .istore 6, .iload 6, .aload 0, .getfield 1002, .iload 5, .iconst 1, .iadd, 
  .iaload, .if_icmp .ge 52, .aload 0, .aload 0, .getfield 1012, .iload 6, .iaload, .iload 3, .invokevirtual 160092, .istore 7, .iload 7, .iconst 1000000, .if_icmp .eq 50, .aload 0, .getfield 1042, 
  .iload 6, .iaload, .iload 7, .aload 0, .getfield 1032, .iload 6, .iaload, .iadd, .dadd, .istore 8, .iload 8, .aload 1, .getfield 10090, .if_icmp .gt 50, .iload 4, .iload 8, .dsub, .istore 4, .iinc 6 1, 
  .goto 11, .iload 4, .ireturn]
def ps_24 : List Nat := [0, 2, 4, 5, 6, 9, 11, 12, 15, 17, 18, 20, 22, 23, 26, 28, 29, 30, 31, 34, 35, 36, 39, 41, 42, 43, 46, 48, 50, 52, 55, 56, 59, 61, 62, 64, 65, 68, 70, 71, 72, 75, 77, 79, 80, 83, 86, 88, 90, 93, 95, 98, 
  101, 103]
theorem ck_24 : xChkM 1 false (some .int) prog_3_method_10_code cd_24 ps_24 = true := xChkN_ok 0xac0415b2ffa701068404367d00b8081504150c00a37a00b42b081508366400b8602e06151500b42a07152e06151800b42a2b009f6e12071507367700b61d2e06150f00b42a2a4600a22e600405150b00b42a061506362e05150b00b42a05366a00b81d1c04366e12 104 0x006700650062005f005d005a0058005600530050004f004d004b004800470046004400410040003e003d003b00380037003400320030002e002b002a00290027002400230022001f001e001d001c001a00170016001400120011000f000c000b000900060005000400020000 54 (by decide +kernel)
/-- LastCloud$Hops.glide(LLastCloud$Sky;IIZ)V -/
def cd_25 : List Instr := [.aload 0, .getfield 1082, .iconst (-1), .invokestatic 2679931, .aload 0, .getfield 1082, .iload 2, .iload 3, .iastore, .iconst 1, .istore 5, .iconst 0, .istore 6, .iload 6, .iconst 496, 
  .if_icmp .gt 46, .iload 5, .ifCond .eq 46, .iconst 0, .istore 5, .iconst 0, .istore 7, .iload 7, .aload 1, .getfield 10040, .if_icmp .ge 44, .aload 0, .getfield 1082, .iload 7, .iaload, .iconst (-1), 
  .if_icmp .eq 42, .aload 0, .aload 1, .iload 7, .iload 7, .iload 4, .invokestatic 135928, .invokevirtual 208096, .ifCond .eq 42, .iconst 1, .istore 5, .iinc 7 1, .goto 22, .iinc 6 1, .goto 13, .return_]
def ps_25 : List Nat := [0, 1, 4, 5, 8, 9, 12, 13, 14, 15, 16, 18, 19, 21, 23, 26, 29, 31, 34, 35, 37, 38, 40, 42, 43, 46, 49, 50, 53, 55, 56, 57, 60, 61, 62, 64, 66, 68, 71, 74, 77, 78, 80, 83, 86, 89, 92]
theorem ck_25 : xChkM 1 false none prog_3_method_11_code cd_25 ps_25 = true := xChkN_ok 0xb1bcffa7010684d5ffa70107840536040600998600b66a00b80415071507152b2a17009f022e07152100b42a2800a22b00b42b07150736030536033d009905154200a3f0011106150636030536044f1d1c2100b42a8000b8022100b42a 93 0x005c0059005600530050004e004d004a0047004400420040003e003d003c003900380037003500320031002e002b002a00280026002500230022001f001d001a00170015001300120010000f000e000d000c000900080005000400010000 47 (by decide +kernel)
/-- LastCloud$Hops.raiseFrom(LLastCloud$Sky;II)Z -/
def cd_26 : List Instr := [.iconst 0, .istore 4, .aload 0, .getfield 1002, .iload 3, .iaload, .istore 5, .iload 5, .aload 0, .getfield 1002, .iload 3, .iconst 1, .iadd, .iaload, .if_icmp .ge 48, .aload 1, .aload 0, 
  .getfield 1082, .iload 2, .iaload, .aload 0, .getfield 1032, .iload 5, .iaload, .isub, .invokevirtual 1024808, .istore 6, .aload 0, .getfield 1082, .iload 2, .iaload, .aload 0, .getfield 1042, 
  .iload 5, .iaload, .if_icmp .lt 46, .aload 0, .aload 0, .getfield 1012, .iload 5, .iaload, .iload 6, .invokevirtual 216092, .ifCond .eq 46, .iconst 1, .istore 4, .iinc 5 1, .goto 7, .iload 4, .freturn]
def ps_26 : List Nat := [0, 1, 3, 4, 7, 8, 9, 11, 13, 14, 17, 18, 19, 20, 21, 24, 25, 26, 29, 30, 31, 32, 35, 37, 38, 39, 42, 44, 45, 48, 49, 50, 51, 54, 56, 57, 60, 61, 62, 65, 67, 68, 70, 73, 76, 77, 79, 82, 85, 87]
theorem ck_26 : xChkM 1 false (some .boolean) prog_3_method_12_code cd_26 ps_26 = true := xChkN_ok 0xac0415b9ffa70105840436040600998e00b606152e05150f00b42a2a1600a12e05151800b42a2e1c2100b42a06368a00b6642e05151500b42a2e1c2100b42a2b4000a22e60041d0b00b42a051505362e1d0b00b42a043603 88 0x005700550052004f004d004c00490046004400430041003e003d003c0039003800360033003200310030002d002c002a00270026002500230020001f001e001d001a0019001800150014001300120011000e000d000b0009000800070004000300010000 50 (by decide +kernel)
