/-- LastCloud$Reader.takeSigned(I)I -/
def cd_81 : List Instr := [.aload 0, .iconst 0, .iload 1, .invokevirtual 640572, .istore 2, .aload 0, .getfield 7060, .ifCond .ne 17, .aload 0, .ldc 16, .invokevirtual 616568, .ifCond .eq 17, .aload 0, .invokevirtual 608567, 
  .iload 2, .ineg, .istore 2, .iload 2, .ireturn]
def ps_81 : List Nat := [0, 1, 2, 3, 6, 7, 8, 11, 14, 15, 17, 20, 23, 24, 27, 28, 29, 30, 31]
theorem ck_81 : xChkM 7 false (some .int) prog_9_method_12_code cd_81 ps_81 = true := xChkN_ok 0xac1c3d741c6b00b62a0a00996700b675122a13009a2100b42a3d7200b61b032a 32 0x001f001e001d001c001b0018001700140011000f000e000b0008000700060003000200010000 19 (by decide +kernel)
/-- LastCloud$Reader.takePlace(I)I -/
def cd_82 : List Instr := [.aload 0, .getfield 7050, .istore 2, .aload 0, .iconst 0, .aload 0, .getfield 7092, .getfield 10040, .iconst 1, .isub, .invokevirtual 640572, .istore 3, .aload 0, .getfield 7060, .ifCond .ne 27, 
  .iload 1, .iload 3, .ishr, .iconst 1, .iand, .ifCond .eq 27, .aload 0, .iload 2, .putfield 7050, .aload 0, .iconst 2, .invokevirtual 600571, .iload 3, .ireturn]
def ps_82 : List Nat := [0, 1, 4, 5, 6, 7, 8, 11, 14, 15, 16, 19, 20, 21, 24, 27, 28, 29, 30, 31, 32, 35, 36, 37, 40, 41, 42, 45, 46]
theorem ck_82 : xChkM 7 false (some .int) prog_9_method_13_code cd_82 ps_82 = true := xChkN_ok 0xac1d6e00b6052a1d00b51c2a0d00997e047a1d1b15009a2100b42a3e7200b664047700b41900b42a032a3d1d00b42a 47 0x002e002d002a002900280025002400230020001f001e001d001c001b00180015001400130010000f000e000b0008000700060005000400010000 29 (by decide +kernel)
/-- LastCloud$Reader.readLine()V -/
def cd_83 : List Instr := [.aload 0, .invokevirtual 672564, .istore 1, .iload 1, .iconst (-1), .if_icmp .ne 10, .aload 0, .iconst 1, .invokevirtual 600571, .goto 61, .aload 0, .getfield 7080, .iload 1, .ishr, .iconst 1, .iand, 
  .ifCond .eq 21, .aload 0, .iconst 2, .invokevirtual 600571, .goto 61, .aload 0, .getfield 7092, .getfield 10060, .iconst 60, .if_icmp .ge 30, .aload 0, .iload 1, .invokevirtual 680568, .ifCond .eq 34, 
  .aload 0, .iconst 3, .invokevirtual 600571, .goto 61, .aload 0, .invokevirtual 608567, .aload 0, .iload 1, .invokevirtual 688571, .aload 0, .getfield 7012, .aload 0, .getfield 7050, .iaload, .iconst 3, 
  .if_icmp .eq 49, .aload 0, .iconst 1, .invokevirtual 600571, .aload 0, .getfield 7060, .ifCond .ne 61, .aload 0, .invokevirtual 608567, .aload 0, .getfield 7092, .dup, .getfield 10060, .iconst 1, 
  .iadd, .putfield 10060, .return_]
def ps_83 : List Nat := [0, 1, 4, 5, 6, 7, 10, 11, 12, 15, 18, 19, 22, 23, 24, 25, 26, 29, 30, 31, 34, 37, 38, 41, 44, 46, 49, 50, 51, 54, 57, 58, 59, 62, 65, 66, 69, 70, 71, 74, 75, 78, 79, 82, 83, 84, 87, 88, 89, 92, 93, 96, 
  99, 100, 103, 104, 107, 108, 111, 112, 113, 116]
theorem ck_83 : xChkM 7 false none prog_9_method_14_code cd_83 ps_83 = true := xChkN_ok 0xb17d00b560047d00b4591900b42a6b00b62a14009a2100b42a6e00b6042a08009f062e1d00b42a0900b42a8400b61b2a6b00b62a3600a76e00b6062a0b00998000b61b2a0b00a23c107d00b41900b42a5200a76e00b6052a0b00997e047a1b2700b42a6500a76e00b6042a0b00a0021b3c7a00b62a 117 0x007400710070006f006c006b00680067006400630060005d005c005900580057005400530052004f004e004b004a00470046004500420041003e003b003a00390036003300320031002e002c0029002600250022001f001e001d001a001900180017001600130012000f000c000b000a000700060005000400010000 62 (by decide +kernel)
/-- LastCloud$Reader.lineKind()I -/
def cd_84 : List Instr := [.aload 0, .ldc 0, .invokevirtual 616568, .ifCond .eq 6, .iconst 0, .ireturn, .aload 0, .ldc 1, .invokevirtual 616568, .ifCond .eq 12, .iconst 1, .ireturn, .aload 0, .ldc 2, .invokevirtual 616568, 
  .ifCond .eq 18, .iconst 2, .ireturn, .aload 0, .ldc 3, .invokevirtual 616568, .ifCond .eq 24, .iconst 3, .ireturn, .aload 0, .ldc 4, .invokevirtual 616568, .ifCond .eq 30, .iconst 4, .ireturn, 
  .aload 0, .ldc 5, .invokevirtual 616568, .ifCond .eq 36, .iconst 5, .ireturn, .aload 0, .ldc 6, .invokevirtual 616568, .ifCond .eq 42, .iconst 6, .ireturn, .aload 0, .ldc 7, .invokevirtual 616568, 
  .ifCond .eq 48, .iconst 7, .ireturn, .aload 0, .ldc 8, .invokevirtual 616568, .ifCond .eq 54, .iconst 8, .ireturn, .aload 0, .ldc 9, .invokevirtual 616568, .ifCond .eq 60, .iconst 9, .ireturn, 
  .aload 0, .ldc 10, .invokevirtual 616568, .ifCond .eq 66, .iconst 10, .goto 67, .iconst (-1), .ireturn]
def ps_84 : List Nat := [0, 1, 3, 6, 9, 10, 11, 12, 14, 17, 20, 21, 22, 23, 25, 28, 31, 32, 33, 34, 36, 39, 42, 43, 44, 45, 47, 50, 53, 54, 55, 56, 58, 61, 64, 65, 66, 67, 69, 72, 75, 77, 78, 79, 81, 84, 87, 89, 90, 91, 93, 
  96, 99, 101, 102, 103, 105, 108, 111, 113, 114, 115, 117, 120, 123, 125, 128, 129]
theorem ck_84 : xChkM 7 false (some .int) prog_9_method_15_code cd_84 ps_84 = true := xChkN_ok 0xac020400a70a100800996700b69a122aac09100600996700b698122aac08100600996700b696122aac07100600996700b695122aac06100600996700b693122aac080500996700b691122aac070500996700b68f122aac060500996700b68d122aac050500996700b68b122aac040500996700b689122aac030500996700b687122a 130 0x00810080007d007b00780075007300720071006f006c006900670066006500630060005d005b005a0059005700540051004f004e004d004b004800450043004200410040003d003a00380037003600350032002f002d002c002b002a00270024002200210020001f001c001900170016001500140011000e000c000b000a00090006000300010000 68 (by decide +kernel)
/-- LastCloud$Reader.isFull(I)Z -/
def cd_85 : List Instr := [.iload 1, .tableswitch 40 0 4 #[2, 11, 40, 20, 30], .aload 0, .getfield 7092, .getfield 10040, .iconst 8, .if_icmp .lt 9, .iconst 1, .goto 10, .iconst 0, .freturn, .aload 0, .getfield 7092, 
  .getfield 10050, .iconst 10, .if_icmp .lt 18, .iconst 1, .goto 19, .iconst 0, .freturn, .aload 0, .getfield 7092, .getfield 10022, .getfield 6000, .iconst 6, .if_icmp .lt 28, .iconst 1, .goto 29, 
  .iconst 0, .freturn, .aload 0, .getfield 7092, .getfield 10180, .invokestatic 2663924, .iconst 3, .if_icmp .lt 38, .iconst 1, .goto 39, .iconst 0, .freturn, .iconst 0, .freturn]
def ps_85 : List Nat := [0, 1, 36, 37, 40, 43, 45, 48, 49, 52, 53, 54, 55, 58, 61, 63, 66, 67, 70, 71, 72, 73, 76, 79, 82, 84, 87, 88, 91, 92, 93, 94, 97, 100, 103, 104, 107, 108, 111, 112, 113, 114]
theorem ck_85 : xChkM 7 false (some .boolean) prog_9_method_16_code cd_85 ps_85 = true := xChkN_ok 0xac03ac030400a7040700a106ab00b8a800b41900b42aac030400a7040700a10610a300b49f00b41900b42aac030400a7040700a10a109c00b41900b42aac030400a7040700a108107700b41900b42a5c000000470000007000000035000000230000000400000000000000700000000000aa1b 115 0x007200710070006f006c006b0068006700640061005e005d005c005b0058005700540052004f004c004900480047004600430042003f003d003a003700360035003400310030002d002b00280025002400010000 42 (by decide +kernel)
/-- LastCloud$Reader.readRest(I)V -/
def cd_86 : List Instr := [.iload 1, .iconst 5, .if_icmp .lt 11, .aload 0, .dup, .getfield 7080, .iconst 1, .iload 1, .ishl, .ior, .putfield 7080, .iload 1, .tableswitch 74 0 9 #[13, 16, 19, 22, 25, 39, 47, 55, 63, 71], 
  .aload 0, .invokevirtual 696567, .goto 76, .aload 0, .invokevirtual 704567, .goto 76, .aload 0, .invokevirtual 712567, .goto 76, .aload 0, .invokevirtual 720567, .goto 76, .aload 0, .getfield 7092, 
  .dup, .getfield 10180, .iconst 1, .aload 0, .aload 0, .getfield 7092, .getfield 10180, .invokevirtual 656568, .ishl, .ior, .putfield 10180, .goto 76, .aload 0, .getfield 7092, .aload 0, .iconst 0, 
  .iconst 999, .invokevirtual 640572, .putfield 10070, .goto 76, .aload 0, .getfield 7092, .aload 0, .iconst 0, .iconst 50, .invokevirtual 640572, .putfield 10080, .goto 76, .aload 0, .getfield 7092, 
  .aload 0, .iconst 31, .iconst 60, .invokevirtual 640572, .putfield 10090, .goto 76, .aload 0, .getfield 7092, .aload 0, .iconst 1, .iconst 47, .invokevirtual 640572, .putfield 10100, .goto 76, 
  .aload 0, .invokevirtual 728567, .goto 76, .aload 0, .invokevirtual 736567, .return_]
def ps_86 : List Nat := [0, 1, 2, 5, 6, 7, 10, 11, 12, 13, 14, 17, 18, 72, 73, 76, 79, 80, 83, 86, 87, 90, 93, 94, 97, 100, 101, 104, 105, 108, 109, 110, 111, 114, 117, 120, 121, 122, 125, 128, 129, 132, 133, 134, 137, 140, 
  143, 146, 147, 150, 151, 152, 154, 157, 160, 163, 164, 167, 168, 170, 172, 175, 178, 181, 182, 185, 186, 187, 189, 192, 195, 198, 199, 202, 205, 206, 209]
theorem ck_86 : xChkM 7 false none prog_9_method_17_code cd_86 ps_86 = true := xChkN_ok 0xb1c900b62a0700a7c600b62a0e00a7c300b57200b62f10042a1900b42a1f00a74000b57200b63c101f102a1900b42a3100a7c100b57200b63210032a1900b42a4200a7bf00b57200b6e70311032a1900b42a5400a7a800b58078bc00b6a800b41900b42a2a04a800b4591900b42a7000a7b900b62a7700a7b600b62a7e00a7b300b62a8500a7b000b62ab4000000a300000091000000800000006e000000520000004b000000440000003d000000360000000900000000000000bb00000000aa1b2700b580781b042700b4592a0f00a1081b 210 0x00d100ce00cd00ca00c700c600c300c000bd00bb00ba00b900b600b500b200af00ac00aa00a800a700a400a300a0009d009a00980097009600930092008f008c008900860085008400810080007d007a0079007800750072006f006e006d006c00690068006500640061005e005d005a0057005600530050004f004c0049004800120011000e000d000c000b000a000700060005000200010000 77 (by decide +kernel)
/-- LastCloud$Reader.readPlace()V -/
def cd_87 : List Instr := [.aload 0, .ldc 11, .invokevirtual 632571, .aload 0, .iconst 0, .iconst 30, .invokevirtual 640572, .istore 1, .iconst (-1), .istore 2, .iconst 0, .istore 3, .aload 0, .ldc 12, .invokevirtual 616568, 
  .ifCond .eq 25, .aload 0, .getfield 7092, .getfield 10140, .iconst (-1), .if_icmp .eq 25, .aload 0, .iconst 2, .invokevirtual 600571, .goto 41, .aload 0, .ldc 12, .invokevirtual 624568, .ifCond .eq 32, 
  .iconst 1, .istore 3, .goto 41, .aload 0, .ldc 13, .invokevirtual 624568, .ifCond .eq 41, .aload 0, .iconst 0, .iconst 999, .invokevirtual 640572, .istore 2, .aload 0, .getfield 7060, .ifCond .ne 82, 
  .aload 0, .getfield 7092, .getfield 10040, .iconst 8, .if_icmp .ge 82, .aload 0, .getfield 7092, .getfield 10002, .aload 0, .getfield 7092, .getfield 10040, .aaload, .iload 1, .putfield 4000, .aload 0, 
  .getfield 7092, .getfield 10002, .aload 0, .getfield 7092, .getfield 10040, .aaload, .iload 2, .putfield 4010, .iload 3, .ifCond .eq 75, .aload 0, .getfield 7092, .aload 0, .getfield 7092, 
  .getfield 10040, .putfield 10140, .aload 0, .getfield 7092, .dup, .getfield 10040, .iconst 1, .iadd, .putfield 10040, .return_]
def ps_87 : List Nat := [0, 1, 3, 6, 7, 8, 10, 13, 14, 15, 16, 17, 18, 19, 21, 24, 27, 28, 31, 34, 35, 38, 39, 40, 43, 46, 47, 49, 52, 55, 56, 57, 60, 61, 63, 66, 69, 70, 71, 74, 77, 78, 79, 82, 85, 86, 89, 92, 94, 97, 98, 
  101, 104, 105, 108, 111, 112, 113, 116, 117, 120, 123, 124, 127, 130, 131, 132, 135, 136, 139, 140, 143, 144, 147, 150, 153, 154, 157, 158, 161, 162, 163, 166]
theorem ck_87 : xChkM 7 false none prog_9_method_18_code cd_87 ps_87 = true := xChkN_ok 0xb17700b560047700b4591900b42ad300b57700b41900b42a1900b42a1100991ddb00b51c327700b41900b42a4600b41900b42a4d00b51b327700b41900b42a4600b41900b42a4800a208107700b41900b42a54009a2100b42a3d7200b6e70311032a0c0099d600b6d9122a1500a73e04080099d600b6d1122a2300a76e00b6052a0b009f02d300b41900b42a1600996700b6d1122a3e033d023c7200b61e10032acd00b6cc122a 167 0x00a600a300a200a1009e009d009a0099009600930090008f008c008b00880087008400830082007f007c007b00780075007400710070006f006c00690068006500620061005e005c0059005600550052004f004e004d004a0047004600450042003f003d003c00390038003700340031002f002e002b00280027002600230022001f001c001b001800150013001200110010000f000e000d000a000800070006000300010000 83 (by decide +kernel)
/-- LastCloud$Reader.readLeg()V -/
def cd_88 : List Instr := [.aload 0, .iconst 0, .invokevirtual 656568, .istore 1, .aload 0, .iconst 1, .iload 1, .ishl, .invokevirtual 656568, .istore 2, .aload 0, .ldc 14, .invokevirtual 632571, .aload 0, .iconst 1, .iconst 60, 
  .invokevirtual 640572, .istore 3, .aload 0, .ldc 15, .invokevirtual 632571, .aload 0, .iconst 999, .invokevirtual 648568, .istore 4, .aload 0, .ldc 17, .invokevirtual 632571, .aload 0, .iconst 60, 
  .invokevirtual 648568, .istore 5, .aload 0, .ldc 18, .invokevirtual 624568, .ifCond .eq 41, .aload 0, .iconst 0, .iconst 40, .invokevirtual 640572, .goto 42, .iconst 0, .istore 6, .aload 0, 
  .getfield 7060, .ifCond .ne 84, .aload 0, .getfield 7092, .getfield 10050, .iconst 10, .if_icmp .ge 84, .aload 0, .getfield 7092, .getfield 10012, .aload 0, .getfield 7092, .getfield 10050, .aaload, 
  .astore 7, .aload 7, .iload 1, .putfield 2000, .aload 7, .iload 2, .putfield 2010, .aload 7, .iload 3, .putfield 2020, .aload 7, .iload 4, .putfield 2030, .aload 7, .iload 5, .putfield 2040, .aload 7, 
  .iload 6, .putfield 2050, .aload 0, .getfield 7092, .dup, .getfield 10050, .iconst 1, .iadd, .putfield 10050, .return_]
def ps_88 : List Nat := [0, 1, 2, 5, 6, 7, 8, 9, 10, 13, 14, 15, 17, 20, 21, 22, 24, 27, 28, 29, 31, 34, 35, 38, 41, 43, 44, 46, 49, 50, 52, 55, 57, 58, 60, 63, 66, 67, 68, 70, 73, 76, 77, 79, 80, 83, 86, 87, 90, 93, 95, 98, 
  99, 102, 105, 106, 109, 112, 113, 115, 117, 118, 121, 123, 124, 127, 129, 130, 133, 135, 137, 140, 142, 144, 147, 149, 151, 154, 155, 158, 159, 162, 163, 164, 167]
theorem ck_88 : xChkM 7 false none prog_9_method_19_code cd_88 ps_88 = true := xChkN_ok 0xb19c00b560049c00b4591900b42afa00b506150719f800b505150719f600b504150719f400b51d0719f100b51c0719ec00b51b0719073a329c00b41900b42ae800b41900b42a4800a20a109c00b41900b42a54009a2100b42a0636030400a77200b62810032a0d0099d600b6e6122a0536e100b63c102acd00b6e4122a0436e100b6e703112acd00b6df122a3e7200b63c10042acd00b6dd122a3dbc00b6781b042a3cbc00b6032a 168 0x00a700a400a300a2009f009e009b009a0097009500930090008e008c00890087008500820081007f007c007b007900760075007300710070006d006a0069006600630062005f005d005a0057005600530050004f004d004c00490046004400430042003f003c003a00390037003400320031002e002c002b0029002600230022001f001d001c001b00180016001500140011000f000e000d000a00090008000700060005000200010000 85 (by decide +kernel)
/-- LastCloud$Reader.readLift()V -/
def cd_89 : List Instr := [.aload 0, .aload 0, .getfield 7092, .invokevirtual 976804, .invokevirtual 656568, .istore 1, .aload 0, .ldc 19, .invokevirtual 632571, .aload 0, .iconst 0, .iconst 100, .invokevirtual 640572, 
  .istore 2, .aload 0, .ldc 20, .invokevirtual 632571, .aload 0, .iconst 0, .iconst 2000, .invokevirtual 640572, .istore 3, .iconst 0, .istore 4, .iconst 0, .istore 5, .aload 0, .ldc 21, 
  .invokevirtual 624568, .ifCond .eq 40, .aload 0, .iconst 0, .iconst 100, .invokevirtual 640572, .istore 4, .aload 0, .iconst 0, .iconst 100, .invokevirtual 640572, .istore 5, .aload 0, .getfield 7060, 
  .ifCond .ne 69, .aload 0, .getfield 7092, .iload 1, .invokevirtual 904808, .ifCond .eq 69, .aload 0, .getfield 7092, .getfield 10002, .iload 1, .aaload, .astore 6, .aload 6, .iconst 1, .putfield 4023, 
  .aload 6, .iload 2, .putfield 4030, .aload 6, .iload 3, .putfield 4040, .aload 6, .iload 4, .putfield 4050, .aload 6, .iload 5, .putfield 4060, .return_]
def ps_89 : List Nat := [0, 1, 2, 5, 8, 11, 12, 13, 15, 18, 19, 20, 22, 25, 26, 27, 30, 33, 34, 35, 38, 41, 42, 43, 45, 46, 48, 49, 52, 55, 58, 59, 60, 62, 65, 67, 68, 69, 71, 74, 76, 77, 80, 83, 84, 87, 88, 91, 94, 95, 98, 
  101, 102, 103, 105, 107, 108, 111, 113, 114, 117, 119, 120, 123, 125, 127, 130, 132, 134, 137]
theorem ck_89 : xChkM 7 false none prog_9_method_20_code cd_89 ps_89 = true := xChkN_ok 0xb11301b5051506191001b5041506190e01b51d06190c01b51c06190801b5040619063a321b4600b41900b42a2e00990501b61b1900b42a39009a2100b42a05367200b66410032a04367200b66410032a150099d600b60301132a0536030436033e7200b6d00711032acd00b60101132a3d7200b66410032acd00b6ff122a3cbc00b6fc00b61900b42a2a 138 0x0089008600840082007f007d007b00780077007500720071006f006c006b00690067006600650062005f005e005b00580057005400530050004d004c004a00470045004400430041003e003c003b003a0037003400310030002e002d002b002a00290026002300220021001e001b001a00190016001400130012000f000d000c000b00080005000200010000 70 (by decide +kernel)
/-- LastCloud$Reader.readSpeed()V -/
def cd_90 : List Instr := [.aload 0, .iconst 20, .iconst 150, .invokevirtual 640572, .istore 1, .aload 0, .ldc 22, .invokevirtual 632571, .aload 0, .iconst 1, .iconst 999, .invokevirtual 640572, .istore 2, .aload 0, 
  .getfield 7060, .ifCond .ne 22, .aload 0, .getfield 7092, .getfield 10022, .iload 1, .iload 2, .invokevirtual 520495, .return_]
def ps_90 : List Nat := [0, 1, 3, 6, 9, 10, 11, 14, 17, 18, 19, 22, 25, 26, 27, 30, 33, 34, 37, 40, 41, 42, 45]
theorem ck_90 : xChkM 7 false none prog_9_method_21_code cd_90 ps_90 = true := xChkN_ok 0xb11801b61c1b9f00b41900b42a0f009a2100b42a3d7200b6e70311042acd00b61601132a3c7200b696001114102a 46 0x002d002a00290028002500220021001e001b001a00190016001300120011000e000b000a00090006000300010000 23 (by decide +kernel)
/-- LastCloud$Reader.readWorth()V -/
def cd_91 : List Instr := [.aload 0, .ldc 12, .invokevirtual 632571, .aload 0, .getfield 7092, .aload 0, .iconst 0, .iconst 9999, .invokevirtual 640572, .putfield 10110, .aload 0, .ldc 23, .invokevirtual 632571, .aload 0, 
  .getfield 7092, .aload 0, .iconst 0, .iconst 99, .invokevirtual 640572, .putfield 10120, .aload 0, .ldc 24, .invokevirtual 632571, .aload 0, .getfield 7092, .aload 0, .iconst 0, .iconst 9999, 
  .invokevirtual 640572, .putfield 10130, .return_]
def ps_91 : List Nat := [0, 1, 3, 6, 7, 10, 11, 12, 15, 18, 21, 22, 25, 28, 29, 32, 33, 34, 36, 39, 42, 43, 46, 49, 50, 53, 54, 55, 58, 61, 64]
theorem ck_91 : xChkM 7 false none prog_9_method_22_code cd_91 ps_91 = true := xChkN_ok 0xb12601b57200b60f2711032a1900b42acd00b62401132a2101b57200b66310032a1900b42acd00b61f01132a1c01b57200b60f2711032a1900b42acd00b6d1122a 65 0x0040003d003a00370036003500320031002e002b002a00270024002200210020001d001c0019001600150012000f000c000b000a00070006000300010000 31 (by decide +kernel)
/-- LastCloud$Reader.readStart()V -/
def cd_92 : List Instr := [.aload 0, .iconst 0, .invokevirtual 656568, .istore 1, .aload 0, .ldc 25, .invokevirtual 632571, .aload 0, .iconst 0, .iconst 60, .invokevirtual 640572, .istore 2, .aload 0, .ldc 26, 
  .invokevirtual 624568, .istore 3, .aload 0, .getfield 7060, .ifCond .ne 31, .aload 0, .getfield 7092, .iload 1, .putfield 10150, .aload 0, .getfield 7092, .iload 2, .putfield 10160, .aload 0, 
  .getfield 7092, .iload 3, .putfield 10173, .return_]
def ps_92 : List Nat := [0, 1, 2, 5, 6, 7, 10, 13, 14, 15, 17, 20, 21, 22, 25, 28, 29, 30, 33, 36, 37, 40, 41, 44, 45, 48, 49, 52, 53, 56, 57, 60]
theorem ck_92 : xChkM 7 false none prog_9_method_23_code cd_92 ps_92 = true := xChkN_ok 0xb12c01b51d1900b42a4300b51c1900b42a4a00b51b1900b42a1b009a2100b42a3ed600b62a01132a3d7200b63c10032acd00b62901132a3cbc00b6032a 61 0x003c003900380035003400310030002d002c00290028002500240021001e001d001c00190016001500140011000f000e000d000a000700060005000200010000 32 (by decide +kernel)
/-- LastCloud$Route.<init>()V -/
def cd_93 : List Instr := [.aload 0, .dneg, .aload 0, .iconst 3072, .newarray .int, .putfield 8002, .aload 0, .iconst 8, .newarray .int, .putfield 8012, .aload 0, .iconst 8, .newarray .int, .putfield 8022, .aload 0, .iconst 49, 
  .newarray .int, .putfield 8032, .return_]
def ps_93 : List Nat := [0, 1, 4, 5, 8, 10, 13, 14, 16, 18, 21, 22, 24, 26, 29, 30, 32, 34, 37]
theorem ck_93 : xChkM 8 true none prog_10_method_1_code cd_93 ps_93 = true := xChkN_ok 0xb11500b50abc31102a1200b50abc08102a0f00b50abc08102a0b00b50abc000c112a0300b72a 38 0x002500220020001e001d001a00180016001500120010000e000d000a00080005000400010000 19 (by decide +kernel)
/-- LastCloud$Route.spot(III)I -/
def cd_94 : List Instr := [.iload 0, .iconst 8, .imul, .iload 1, .iadd, .iconst 8, .imul, .iload 2, .iadd, .ireturn]
def ps_94 : List Nat := [0, 1, 3, 4, 5, 6, 8, 9, 10, 11]
theorem ck_94 : xChkM 8 false (some .int) prog_10_method_2_code cd_94 ps_94 = true := xChkN_ok 0xac601c680810601b6808101a 12 0x000b000a00090008000600050004000300010000 10 (by decide +kernel)
/-- LastCloud$Route.leastAt(I)I -/
def cd_95 : List Instr := [.iload 1, .ifCond .lt 12, .iload 1, .aload 0, .getfield 8002, .arraylength, .if_icmp .ge 12, .aload 0, .getfield 8002, .iload 1, .iaload, .goto 13, .iconst 1000000, .ireturn]
def ps_95 : List Nat := [0, 1, 4, 5, 6, 9, 10, 13, 14, 17, 18, 19, 22, 24]
theorem ck_95 : xChkM 8 false (some .int) prog_10_method_3_code cd_95 ps_95 = true := xChkN_ok 0xac18120500a72e1b0b00b42a0c00a2be0b00b42a1b15009b1b 25 0x00180016001300120011000e000d000a000900060005000400010000 14 (by decide +kernel)
/-- LastCloud$Route.pointBitAt(I)I -/
def cd_96 : List Instr := [.iload 1, .ifCond .lt 10, .iload 1, .iconst 8, .if_icmp .ge 10, .aload 0, .getfield 8012, .iload 1, .iaload, .goto 11, .iconst 0, .ireturn]
def ps_96 : List Nat := [0, 1, 4, 5, 7, 10, 11, 14, 15, 16, 19, 20]
theorem ck_96 : xChkM 8 false (some .int) prog_10_method_4_code cd_96 ps_96 = true := xChkN_ok 0xac030400a72e1b0f00b42a0c00a208101b12009b1b 21 0x001400130010000f000e000b000a00070005000400010000 12 (by decide +kernel)
/-- LastCloud$Route.winsAt(I)I -/
def cd_97 : List Instr := [.iload 1, .ifCond .lt 10, .iload 1, .iconst 8, .if_icmp .ge 10, .aload 0, .getfield 8022, .iload 1, .iaload, .goto 11, .iconst 0, .ireturn]
def ps_97 : List Nat := [0, 1, 4, 5, 7, 10, 11, 14, 15, 16, 19, 20]
theorem ck_97 : xChkM 8 false (some .int) prog_10_method_5_code cd_97 ps_97 = true := xChkN_ok 0xac030400a72e1b1200b42a0c00a208101b12009b1b 21 0x001400130010000f000e000b000a00070005000400010000 12 (by decide +kernel)
/-- LastCloud$Route.setLeast(II)V -/
def cd_98 : List Instr := [.iload 1, .ifCond .lt 12, .iload 1, .aload 0, .getfield 8002, .arraylength, .if_icmp .ge 12, .aload 0, .getfield 8002, .iload 1, .iload 2, .iastore, .return_]
def ps_98 : List Nat := [0, 1, 4, 5, 6, 9, 10, 13, 14, 17, 18, 19, 20]
theorem ck_98 : xChkM 8 false none prog_10_method_6_code cd_98 ps_98 = true := xChkN_ok 0xb14f1c1b0b00b42a0a00a2be0b00b42a1b13009b1b 21 0x0014001300120011000e000d000a000900060005000400010000 13 (by decide +kernel)
/-- LastCloud$Route.fewest(LLastCloud$Sky;LLastCloud$Hops;I)I -/
def cd_99 : List Instr := [.aload 0, .aload 1, .aload 2, .iload 3, .invokevirtual 800659, .aload 0, .getfield 8002, .iconst 1000000, .invokestatic 2679931, .aload 0, .getfield 8072, .getfield 10140, .iconst (-1), 
  .if_icmp .ne 16, .iconst (-1), .ireturn, .aload 0, .iconst 0, .aload 0, .getfield 8050, .aload 0, .getfield 8072, .getfield 10140, .invokestatic 759932, .aload 0, .getfield 8072, .getfield 10002, 
  .aload 0, .getfield 8072, .getfield 10140, .aaload, .getfield 4000, .invokevirtual 784655, .aload 0, .aload 0, .getfield 8072, .getfield 10150, .invokevirtual 768648, .istore 4, .iconst 0, .istore 5, 
  .iload 5, .aload 0, .getfield 8072, .getfield 10100, .if_icmp .gt 67, .iload 5, .ifCond .le 51, .aload 0, .iload 5, .invokevirtual 808651, .aload 0, .iload 5, .iload 4, .aload 0, .getfield 8072, 
  .getfield 10150, .invokestatic 759932, .invokevirtual 760648, .aload 0, .getfield 8072, .getfield 10160, .if_icmp .gt 65, .iload 5, .ireturn, .iinc 5 1, .goto 41, .iconst (-1), .ireturn]
def ps_99 : List Nat := [0, 1, 2, 3, 4, 7, 8, 11, 13, 16, 17, 20, 23, 24, 27, 28, 29, 30, 31, 32, 35, 36, 39, 42, 45, 46, 49, 52, 53, 56, 59, 60, 63, 66, 67, 68, 71, 74, 77, 79, 80, 82, 84, 85, 88, 91, 94, 96, 99, 100, 102, 
  105, 106, 108, 110, 111, 114, 117, 120, 123, 124, 127, 130, 133, 135, 136, 139, 142, 143]
theorem ck_99 : xChkM 8 false (some .int) prog_10_method_7_code cd_99 ps_99 = true := xChkN_ok 0xac02c7ffa7010584ac05150600a35200b42300b42a4f00b63000b84100b42300b42a041505152a4b00b605152a09009e05153300a34800b42300b42a051505360304364400b64100b42300b42a2a3d00b63800b4322700b42300b42a3400b42300b42a3000b82700b42300b42a2d00b42a032aac020500a0022700b42300b42a1d00b818120b00b42a1900b61d2c2b2a 144 0x008f008e008b0088008700850082007f007c007b007800750072006f006e006c006a00690066006400630060005e005b00580055005400520050004f004d004a0047004400430042003f003c003b0038003500340031002e002d002a0027002400230020001f001e001d001c001b00180017001400110010000d000b0008000700040003000200010000 69 (by decide +kernel)
/-- LastCloud$Route.begin(LLastCloud$Sky;LLastCloud$Hops;I)V -/
def cd_100 : List Instr := [.aload 0, .aload 1, .putfield 8072, .aload 0, .aload 2, .putfield 8082, .aload 0, .aload 0, .getfield 8072, .invokevirtual 952804, .putfield 8063, .iconst 0, .istore 4, .iconst 0, .istore 5, .iload 5, 
  .aload 0, .getfield 8072, .getfield 10040, .if_icmp .ge 71, .aload 0, .getfield 8072, .getfield 10180, .iload 5, .ishr, .iconst 1, .iand, .ifCond .eq 30, .iconst 1, .goto 31, .iconst 0, .istore 6, 
  .aload 0, .getfield 8012, .iload 5, .iload 6, .ifCond .eq 41, .iconst 1, .iload 4, .ishl, .goto 42, .iconst 0, .iastore, .iload 4, .iload 6, .ifCond .eq 48, .iconst 1, .goto 49, .iconst 0, .iadd, 
  .istore 4, .aload 0, .getfield 8022, .iload 5, .iload 3, .iload 5, .ishr, .iconst 1, .iand, .ifCond .eq 67, .aload 0, .getfield 8072, .iload 5, .aload 0, .getfield 8060, .invokevirtual 1008812, 
  .goto 68, .iconst 0, .iastore, .iinc 5 1, .goto 15, .aload 0, .iconst 1, .iload 4, .ishl, .iconst 1, .isub, .putfield 8050, .return_]
def ps_100 : List Nat := [0, 1, 2, 5, 6, 7, 10, 11, 12, 15, 18, 21, 22, 24, 25, 27, 29, 30, 33, 36, 39, 40, 43, 46, 48, 49, 50, 51, 54, 55, 58, 59, 61, 62, 65, 67, 69, 72, 73, 75, 76, 79, 80, 81, 83, 85, 88, 89, 92, 93, 94, 96, 
  97, 100, 102, 103, 105, 106, 107, 108, 111, 112, 115, 117, 118, 121, 124, 127, 128, 129, 132, 135, 136, 137, 139, 140, 141, 142, 145]
theorem ck_100 : xChkM 8 false none prog_10_method_8_code cd_100 ps_100 = true := xChkN_ok 0xb12d00b56404780415042a97ffa70105844f030400a76600b65d00b42a05152300b42a1300997e047a05151d05151200b42a043660030400a704070099061504154f030400a7780415040a0099061505150f00b42a0636030400a7040700997e047a05156400b42300b42a6300a26100b42300b42a05150536030436035d00b55900b62300b42a2a5500b52c2a2300b52b2a 146 0x0091008e008d008c008b008900880087008400810080007f007c00790076007500730070006f006c006b006a006900670066006400610060005e005d005c005900580055005300510050004f004c004b00490048004500430041003e003d003b003a003700360033003200310030002e002b0028002700240021001e001d001b00190018001600150012000f000c000b000a000700060005000200010000 79 (by decide +kernel)
/-- LastCloud$Route.fillPeriods(I)V -/
def cd_101 : List Instr := [.iconst 0, .istore 2, .iload 2, .aload 0, .getfield 8050, .if_icmp .gt 65, .iconst 0, .istore 3, .iload 3, .aload 0, .getfield 8072, .getfield 10040, .if_icmp .ge 63, .aload 0, .iload 1, .iconst 1, 
  .isub, .iload 2, .iload 3, .invokestatic 759932, .invokevirtual 760648, .istore 4, .iload 4, .aload 0, .iload 1, .iload 2, .iload 3, .invokevirtual 816656, .dsub, .istore 5, .iload 4, .iconst 1000000, 
  .if_icmp .eq 54, .aload 0, .getfield 8022, .iload 3, .iaload, .ifCond .le 54, .iload 5, .aload 0, .getfield 8072, .getfield 10002, .iload 3, .aaload, .getfield 4000, .iload 4, .aload 0, .getfield 8022, 
  .iload 3, .iaload, .isub, .dadd, .dsub, .istore 5, .aload 0, .iload 1, .iload 2, .iload 3, .invokestatic 759932, .iload 5, .invokevirtual 784655, .iinc 3 1, .goto 8, .iinc 2 1, .goto 2, .return_]
def ps_101 : List Nat := [0, 1, 2, 3, 4, 7, 10, 11, 12, 13, 14, 17, 20, 23, 24, 25, 26, 27, 28, 29, 32, 35, 37, 39, 40, 41, 42, 43, 46, 49, 51, 53, 55, 58, 59, 62, 63, 64, 67, 69, 70, 73, 76, 77, 78, 81, 83, 84, 87, 88, 89, 90, 
  93, 96, 98, 99, 100, 101, 102, 105, 107, 110, 113, 116, 119, 122]
theorem ck_101 : xChkM 8 false none prog_10_method_9_code cd_101 ps_101 = true := xChkN_ok 0xb18bffa70102849bffa70103843d00b605153000b81d1c1b2a05366c00b87200b8642e1d1200b42a04153800b4321d3400b42300b42a051522009e2e1d1200b42a2b009f1812041505366c00b86900b61d1c1b2a041504364f00b63000b81d1c64041b2a6000a26100b42300b42a1d3e037300a32d00b42a1c3d03 123 0x007a007700740071006e006b0069006600650064006300620060005d005a005900580057005400530051004e004d004c00490046004500430040003f003e003b003a0037003500330031002e002b002a002900280027002500230020001d001c001b001a00190018001700140011000e000d000c000b000a000700040003000200010000 66 (by decide +kernel)
/-- LastCloud$Route.leastByHops(III)I -/
def cd_102 : List Instr := [.iconst 1000000, .istore 4, .iload 3, .aload 0, .getfield 8060, .invokestatic 135928, .istore 5, .aload 0, .getfield 8082, .getfield 1002, .iload 5, .iaload, .istore 6, .iload 6, .aload 0, 
  .getfield 8082, .getfield 1002, .iload 5, .iconst 1, .iadd, .iaload, .if_icmp .ge 65, .aload 0, .getfield 8082, .getfield 1022, .iload 6, .iaload, .iload 1, .if_icmp .gt 63, .aload 0, .aload 0, 
  .iload 6, .iload 1, .iload 2, .invokevirtual 824656, .invokevirtual 760648, .istore 7, .aload 0, .getfield 8082, .getfield 1042, .iload 6, .iaload, .iload 7, .aload 0, .getfield 8082, .getfield 1032, 
  .iload 6, .iaload, .iadd, .dadd, .istore 8, .iload 7, .iconst 1000000, .if_icmp .eq 63, .iload 8, .aload 0, .getfield 8072, .getfield 10090, .if_icmp .gt 63, .iload 4, .iload 8, .dsub, .istore 4, 
  .iinc 6 1, .goto 13, .iload 4, .ireturn]
def ps_102 : List Nat := [0, 2, 4, 5, 6, 9, 12, 14, 15, 18, 21, 23, 24, 26, 28, 29, 32, 35, 37, 38, 39, 40, 43, 44, 47, 50, 52, 53, 54, 57, 58, 59, 61, 62, 63, 66, 69, 71, 72, 75, 78, 80, 81, 83, 84, 87, 90, 92, 93, 94, 97, 99, 
  101, 103, 106, 108, 109, 112, 115, 118, 120, 122, 125, 127, 130, 133, 135]
theorem ck_102 : xChkM 8 false (some .int) prog_10_method_10_code cd_102 ps_102 = true := xChkN_ok 0xac041598ffa701068404366c00b8081504150c00a38700b42300b42a081518009f1812071508367200b8602e06158400b45500b42a07152e06158300b45500b42a07364f00b68000b61c1b06152a2a4900a31b2e06157d00b45500b42a5d00a22e600405157a00b45500b42a061506362e05157a00b45500b42a05367500b85d00b42a1d04361812 136 0x008700850082007f007d007a0078007600730070006d006c006a0067006500630061005e005d005c005a00570054005300510050004e004b0048004700450042003f003e003d003b003a00390036003500340032002f002c002b002800270026002500230020001d001c001a0018001700150012000f000e000c000900060005000400020000 67 (by decide +kernel)
/-- LastCloud$Route.behind(III)I -/
def cd_103 : List Instr := [.aload 0, .getfield 8082, .getfield 1012, .iload 1, .iaload, .istore 4, .iload 2, .aload 0, .getfield 8082, .getfield 1022, .iload 1, .iaload, .isub, .iload 3, .aload 0, .iload 4, 
  .invokevirtual 768648, .ior, .iload 4, .invokestatic 759932, .ireturn]
def ps_103 : List Nat := [0, 1, 4, 7, 8, 9, 11, 12, 13, 16, 19, 20, 21, 22, 23, 24, 26, 29, 30, 32, 35]
theorem ck_103 : xChkM 8 false (some .int) prog_10_method_11_code cd_103 ps_103 = true := xChkN_ok 0xac3000b80415804400b604152a1d642e1b7d00b45500b42a1c04362e1b8a00b45500b42a 36 0x00230020001e001d001a0018001700160015001400130010000d000c000b000900080007000400010000 21 (by decide +kernel)
/-- LastCloud$Route.walk(I)V -/
def cd_104 : List Instr := [.iload 1, .istore 2, .aload 0, .getfield 8072, .getfield 10150, .istore 3, .aload 0, .getfield 8072, .getfield 10160, .istore 4, .aload 0, .iload 3, .invokevirtual 768648, .istore 5, .aload 0, 
  .iconst 0, .putfield 8040, .aload 0, .iload 3, .invokevirtual 848651, .iconst 0, .istore 6, .iload 6, .iconst 48, .if_icmp .ge 100, .iload 2, .ifCond .le 100, .aload 0, .getfield 8072, .iload 4, 
  .aload 0, .iload 3, .invokevirtual 776648, .iadd, .invokevirtual 1024808, .istore 7, .iload 7, .iload 4, .if_icmp .le 53, .aload 0, .iload 2, .iconst 1, .isub, .iload 5, .iload 3, .invokestatic 759932, 
  .invokevirtual 760648, .iload 7, .if_icmp .gt 53, .iload 7, .istore 4, .iinc 2 (-1), .goto 98, .aload 0, .iload 2, .iload 5, .iload 3, .iload 4, .invokevirtual 840660, .istore 8, .iload 8, 
  .iconst (-1), .if_icmp .ne 64, .return_, .aload 0, .getfield 8082, .getfield 1012, .iload 8, .iaload, .istore 3, .aload 0, .getfield 8072, .iload 4, .aload 0, .getfield 8082, .getfield 1032, .iload 8, 
  .iaload, .isub, .invokevirtual 1024808, .istore 4, .iload 5, .aload 0, .iload 3, .invokevirtual 768648, .ior, .istore 5, .iload 2, .aload 0, .getfield 8082, .getfield 1022, .iload 8, .iaload, .isub, 
  .istore 2, .aload 0, .iload 3, .invokevirtual 848651, .iinc 6 1, .goto 22, .return_]
def ps_104 : List Nat := [0, 1, 2, 3, 6, 9, 10, 11, 14, 17, 19, 20, 21, 24, 26, 27, 28, 31, 32, 33, 36, 37, 39, 41, 43, 46, 47, 50, 51, 54, 56, 57, 58, 61, 62, 65, 67, 69, 71, 74, 75, 76, 77, 78, 80, 81, 84, 87, 89, 92, 94, 96, 
  99, 102, 103, 104, 106, 107, 109, 112, 114, 116, 117, 120, 121, 122, 125, 128, 130, 131, 132, 133, 136, 138, 139, 142, 145, 147, 148, 149, 152, 154, 156, 157, 158, 161, 162, 164, 165, 166, 169, 172, 
  174, 175, 176, 177, 178, 179, 182, 185, 188]
theorem ck_104 : xChkM 8 false none prog_10_method_12_code cd_104 ps_104 = true := xChkN_ok 0xb16effa70106849000b61d2a3d642e08157d00b45500b42a1c0536804400b61d2a051504369600b6642e08158400b45500b42a04152300b42a3e2e08158a00b45500b42ab10400a002081508369900b604151d05151c2a5300a7ff0284043607150d00a307154f00b63000b81d051564041c2a1f00a40415071507369600b6609300b61d2a04152300b42a8d009e1c9100a2301006150636039000b61d2a8d00b5032a05364400b61d2a04365200b42300b42a3e4100b42300b42a3d1b 189 0x00bc00b900b600b300b200b100b000af00ae00ac00a900a600a500a400a200a1009e009d009c009a00980095009400930091008e008b008a008800850084008300820080007d007a007900780075007400720070006d006b006a00680067006600630060005e005c00590057005400510050004e004d004c004b004a0047004500430041003e003d003a00390038003600330032002f002e002b002900270025002400210020001f001c001b001a00180015001400130011000e000b000a000900060003000200010000 101 (by decide +kernel)
/-- LastCloud$Route.firstHop(IIII)I -/
def cd_105 : List Instr := [.iload 3, .aload 0, .getfield 8060, .invokestatic 135928, .istore 5, .aload 0, .getfield 8082, .getfield 1002, .iload 5, .iaload, .istore 6, .iload 6, .aload 0, .getfield 8082, .getfield 1002, 
  .iload 5, .iconst 1, .iadd, .iaload, .if_icmp .ge 56, .iload 4, .aload 0, .getfield 8082, .getfield 1042, .iload 6, .iaload, .if_icmp .lt 54, .aload 0, .getfield 8082, .getfield 1022, .iload 6, 
  .iaload, .iload 1, .if_icmp .gt 54, .aload 0, .aload 0, .iload 6, .iload 1, .iload 2, .invokevirtual 824656, .invokevirtual 760648, .aload 0, .getfield 8072, .iload 4, .aload 0, .getfield 8082, 
  .getfield 1032, .iload 6, .iaload, .isub, .invokevirtual 1024808, .if_icmp .gt 54, .iload 6, .ireturn, .iinc 6 1, .goto 11, .iconst (-1), .ireturn]
def ps_105 : List Nat := [0, 1, 2, 5, 8, 10, 11, 14, 17, 19, 20, 22, 24, 25, 28, 31, 33, 34, 35, 36, 39, 41, 42, 45, 48, 50, 51, 54, 55, 58, 61, 63, 64, 65, 68, 69, 70, 72, 73, 74, 77, 80, 81, 84, 86, 87, 90, 93, 95, 96, 97, 
  100, 103, 105, 106, 109, 112, 113]
theorem ck_105 : xChkM 8 false (some .int) prog_10_method_13_code cd_105 ps_105 = true := xChkN_ok 0xac02a9ffa7010684ac06150600a39600b6642e06158400b45500b42a04152300b42a4f00b68000b61c1b06152a2a2900a31b2e06157d00b45500b42a3700a12e06158300b45500b42a04154c00a22e600405157a00b45500b42a061506362e05157a00b45500b42a05367500b85d00b42a1d 114 0x00710070006d006a00690067006400610060005f005d005a00570056005400510050004d004a0049004800460045004400410040003f003d003a00370036003300320030002d002a002900270024002300220021001f001c001900180016001400130011000e000b000a00080005000200010000 58 (by decide +kernel)
/-- LastCloud$Route.addToWay(I)V -/
def cd_106 : List Instr := [.aload 0, .getfield 8040, .aload 0, .getfield 8032, .arraylength, .if_icmp .ge 18, .aload 0, .getfield 8032, .aload 0, .getfield 8040, .iload 1, .iastore, .aload 0, .dup, .getfield 8040, .iconst 1, 
  .iadd, .putfield 8040, .return_]
def ps_106 : List Nat := [0, 1, 4, 5, 8, 9, 12, 13, 16, 17, 20, 21, 22, 23, 24, 27, 28, 29, 32]
theorem ck_106 : xChkM 8 false none prog_10_method_14_code cd_106 ps_106 = true := xChkN_ok 0xb18d00b560048d00b4592a4f1b8d00b42a1500b42a1700a2be1500b42a8d00b42a 33 0x0020001d001c001b0018001700160015001400110010000d000c000900080005000400010000 19 (by decide +kernel)
/-- LastCloud$Sights.<init>()V -/
def cd_107 : List Instr := [.aload 0, .dneg, .aload 0, .iconst 20, .newarray .int, .putfield 9012, .aload 0, .iconst 20, .newarray .int, .putfield 9022, .return_]
def ps_107 : List Nat := [0, 1, 4, 5, 7, 9, 12, 13, 15, 17, 20]
theorem ck_107 : xChkM 9 true none prog_11_method_1_code cd_107 ps_107 = true := xChkN_ok 0xb10f00b50abc14102a0900b50abc14102a0300b72a 21 0x00140011000f000d000c000900070005000400010000 11 (by decide +kernel)
