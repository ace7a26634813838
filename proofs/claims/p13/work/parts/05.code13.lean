def cdL_0 : List Instr := [.new 11, .dup, .invokespecial 1056887, .astore 1, .new 12, .dup, .invokespecial 1624967, .astore 2, .iconst 0, .istore 3, .iload 3, .aload 0, .arraylength, .iconst 7, .isub, .if_icmp .gt 1617, 
  .aload 0, .iload 3, .iaload, .iconst 63, .iand, 
  .tableswitch 1615 0 50 #[22, 79, 96, 103, 120, 183, 246, 281, 298, 325, 342, 377, 432, 477, 512, 529, 546, 553, 636, 719, 802, 819, 836, 881, 926, 953, 990, 1025, 1070, 1077, 1094, 1111, 1128, 1135, 1142, 1169, 1196, 1213, 1240, 1277, 1314, 1361, 1368, 1385, 1402, 1409, 1426, 1443, 1460, 1497, 1558], 
  .aload 1, .aload 0, .iload 3, .iconst 1, .iadd, .iaload, .aload 0, .iload 3, .iconst 2, .iadd, .iaload, .aload 0, .iload 3, .iconst 3, .iadd, .iaload, .aload 0, .iload 3]
def psL_0 : List Nat := [0, 3, 4, 7, 8, 11, 12, 15, 16, 17, 18, 19, 20, 21, 23, 24, 27, 28, 29, 30, 32, 33, 252, 253, 254, 255, 256, 257, 258, 259, 260, 261, 262, 263, 264, 265, 266, 267, 268, 269]
def cdL_1 : List Instr := [.iconst 4, .iadd, .iaload, .aload 0, .iload 3, .iconst 5, .iadd, .iaload, .invokevirtual 1064904, .pop, .aload 2, .aload 0, .iload 3, .iconst 1, .iadd, .iaload, .aload 0, .iload 3, .iconst 2, .iadd, 
  .iaload, .aload 0, .iload 3, .iconst 3, .iadd, .iaload, .aload 0, .iload 3, .iconst 4, .iadd, .iaload, .aload 0, .iload 3, .iconst 5, .iadd, .iaload, .invokevirtual 1680984, .pop, .goto 1615, .aload 1]
def psL_1 : List Nat := [270, 271, 272, 273, 274, 275, 276, 277, 278, 281, 282, 283, 284, 285, 286, 287, 288, 289, 290, 291, 292, 293, 294, 295, 296, 297, 298, 299, 300, 301, 302, 303, 304, 305, 306, 307, 308, 311, 312, 315]
def cdL_2 : List Instr := [.aload 0, .iload 3, .iconst 1, .iadd, .iaload, .invokevirtual 1080888, .pop, .aload 2, .aload 0, .iload 3, .iconst 1, .iadd, .iaload, .invokevirtual 1688968, .pop, .goto 1615, .aload 1, 
  .invokevirtual 1088884, .pop, .aload 2, .invokevirtual 1864964, .pop, .goto 1615, .aload 1, .aload 0, .iload 3, .iconst 1, .iadd, .iaload, .invokevirtual 1096888, .pop, .aload 2, .aload 0, .iload 3, 
  .iconst 1, .iadd, .iaload, .invokevirtual 1768968, .pop, .goto 1615]
def psL_2 : List Nat := [316, 317, 318, 319, 320, 321, 324, 325, 326, 327, 328, 329, 330, 331, 334, 335, 338, 339, 342, 343, 344, 347, 348, 351, 352, 353, 354, 355, 356, 357, 360, 361, 362, 363, 364, 365, 366, 367, 370, 371]
def cdL_3 : List Instr := [.aload 1, .aload 0, .iload 3, .iconst 1, .iadd, .iaload, .aload 0, .iload 3, .iconst 2, .iadd, .iaload, .ifCond .eq 134, .iconst 1, .goto 135, .iconst 0, .aload 0, .iload 3, .iconst 3, .iadd, .iaload, 
  .aload 0, .iload 3, .iconst 4, .iadd, .iaload, .ifCond .eq 148, .iconst 1, .goto 149, .iconst 0, .invokevirtual 1112900, .pop, .aload 2, .aload 0, .iload 3, .iconst 1, .iadd, .iaload, .aload 0, 
  .iload 3, .iconst 2]
def psL_3 : List Nat := [374, 375, 376, 377, 378, 379, 380, 381, 382, 383, 384, 385, 388, 389, 392, 393, 394, 395, 396, 397, 398, 399, 400, 401, 402, 403, 406, 407, 410, 411, 414, 415, 416, 417, 418, 419, 420, 421, 422, 423]
def cdL_4 : List Instr := [.iadd, .iaload, .ifCond .eq 165, .iconst 1, .goto 166, .iconst 0, .aload 0, .iload 3, .iconst 3, .iadd, .iaload, .aload 0, .iload 3, .iconst 4, .iadd, .iaload, .ifCond .eq 179, .iconst 1, .goto 180, 
  .iconst 0, .invokevirtual 1904980, .pop, .goto 1615, .aload 1, .aload 0, .iload 3, .iconst 1, .iadd, .iaload, .aload 0, .iload 3, .iconst 2, .iadd, .iaload, .ifCond .eq 197, .iconst 1, .goto 198, 
  .iconst 0, .aload 0, .iload 3]
def psL_4 : List Nat := [424, 425, 426, 429, 430, 433, 434, 435, 436, 437, 438, 439, 440, 441, 442, 443, 444, 447, 448, 451, 452, 455, 456, 459, 460, 461, 462, 463, 464, 465, 466, 467, 468, 469, 470, 473, 474, 477, 478, 479]
def cdL_5 : List Instr := [.iconst 3, .iadd, .iaload, .aload 0, .iload 3, .iconst 4, .iadd, .iaload, .ifCond .eq 211, .iconst 1, .goto 212, .iconst 0, .invokevirtual 1120900, .pop, .aload 2, .aload 0, .iload 3, .iconst 1, .iadd, 
  .iaload, .aload 0, .iload 3, .iconst 2, .iadd, .iaload, .ifCond .eq 228, .iconst 1, .goto 229, .iconst 0, .aload 0, .iload 3, .iconst 3, .iadd, .iaload, .aload 0, .iload 3, .iconst 4, .iadd, .iaload, 
  .ifCond .eq 242]
def psL_5 : List Nat := [480, 481, 482, 483, 484, 485, 486, 487, 488, 491, 492, 495, 496, 499, 500, 501, 502, 503, 504, 505, 506, 507, 508, 509, 510, 511, 514, 515, 518, 519, 520, 521, 522, 523, 524, 525, 526, 527, 528, 529]
def cdL_6 : List Instr := [.iconst 1, .goto 243, .iconst 0, .invokevirtual 1912980, .pop, .goto 1615, .aload 1, .aload 0, .iload 3, .iconst 1, .iadd, .iaload, .aload 0, .iload 3, .iconst 2, .iadd, .iaload, .ifCond .eq 260, 
  .iconst 1, .goto 261, .iconst 0, .invokevirtual 1128892, .pop, .aload 2, .aload 0, .iload 3, .iconst 1, .iadd, .iaload, .aload 0, .iload 3, .iconst 2, .iadd, .iaload, .ifCond .eq 277, .iconst 1, 
  .goto 278, .iconst 0, .invokevirtual 1936972, .pop]
def psL_6 : List Nat := [532, 533, 536, 537, 540, 541, 544, 545, 546, 547, 548, 549, 550, 551, 552, 553, 554, 555, 558, 559, 562, 563, 566, 567, 568, 569, 570, 571, 572, 573, 574, 575, 576, 577, 578, 581, 582, 585, 586, 589]
def cdL_7 : List Instr := [.goto 1615, .aload 1, .aload 0, .iload 3, .iconst 1, .iadd, .iaload, .invokevirtual 1136888, .pop, .aload 2, .aload 0, .iload 3, .iconst 1, .iadd, .iaload, .invokevirtual 1968968, .pop, .goto 1615, 
  .aload 1, .aload 0, .iload 3, .iconst 1, .iadd, .iaload, .aload 0, .iload 3, .iconst 2, .iadd, .iaload, .invokevirtual 1144892, .pop, .aload 2, .aload 0, .iload 3, .iconst 1, .iadd, .iaload, .aload 0, 
  .iload 3, .iconst 2]
def psL_7 : List Nat := [590, 593, 594, 595, 596, 597, 598, 599, 602, 603, 604, 605, 606, 607, 608, 609, 612, 613, 616, 617, 618, 619, 620, 621, 622, 623, 624, 625, 626, 627, 630, 631, 632, 633, 634, 635, 636, 637, 638, 639]
def cdL_8 : List Instr := [.iadd, .iaload, .invokevirtual 1976972, .pop, .goto 1615, .aload 1, .aload 0, .iload 3, .iconst 1, .iadd, .iaload, .invokevirtual 1152888, .pop, .aload 2, .aload 0, .iload 3, .iconst 1, .iadd, .iaload, 
  .invokevirtual 1984968, .pop, .goto 1615, .aload 1, .aload 0, .iload 3, .iconst 1, .iadd, .iaload, .aload 0, .iload 3, .iconst 2, .iadd, .iaload, .ifCond .eq 356, .iconst 1, .goto 357, .iconst 0, 
  .invokevirtual 1160892, .pop, .aload 2]
def psL_8 : List Nat := [640, 641, 642, 645, 646, 649, 650, 651, 652, 653, 654, 655, 658, 659, 660, 661, 662, 663, 664, 665, 668, 669, 672, 673, 674, 675, 676, 677, 678, 679, 680, 681, 682, 683, 686, 687, 690, 691, 694, 695]
def cdL_9 : List Instr := [.aload 0, .iload 3, .iconst 1, .iadd, .iaload, .aload 0, .iload 3, .iconst 2, .iadd, .iaload, .ifCond .eq 373, .iconst 1, .goto 374, .iconst 0, .invokevirtual 1992972, .pop, .goto 1615, .aload 1, 
  .aload 0, .iload 3, .iconst 1, .iadd, .iaload, .aload 0, .iload 3, .iconst 2, .iadd, .iaload, .aload 0, .iload 3, .iconst 3, .iadd, .iaload, .aload 0, .iload 3, .iconst 4, .iadd, .iaload, 
  .ifCond .eq 401, .iconst 1]
def psL_9 : List Nat := [696, 697, 698, 699, 700, 701, 702, 703, 704, 705, 706, 709, 710, 713, 714, 717, 718, 721, 722, 723, 724, 725, 726, 727, 728, 729, 730, 731, 732, 733, 734, 735, 736, 737, 738, 739, 740, 741, 742, 745]
def cdL_10 : List Instr := [.goto 402, .iconst 0, .invokevirtual 1168900, .aload 2, .aload 0, .iload 3, .iconst 1, .iadd, .iaload, .aload 0, .iload 3, .iconst 2, .iadd, .iaload, .aload 0, .iload 3, .iconst 3, .iadd, .iaload, 
  .aload 0, .iload 3, .iconst 4, .iadd, .iaload, .ifCond .eq 427, .iconst 1, .goto 428, .iconst 0, .invokevirtual 2040980, .if_icmp .eq 1615, .iconst 0, .ireturn, .aload 1, .aload 0, .iload 3, .iconst 1, 
  .iadd, .iaload, .aload 0, .iload 3]
def psL_10 : List Nat := [746, 749, 750, 753, 754, 755, 756, 757, 758, 759, 760, 761, 762, 763, 764, 765, 766, 767, 768, 769, 770, 771, 772, 773, 774, 777, 778, 781, 782, 785, 788, 789, 790, 791, 792, 793, 794, 795, 796, 797]
def cdL_11 : List Instr := [.iconst 2, .iadd, .iaload, .aload 0, .iload 3, .iconst 3, .iadd, .iaload, .ifCond .eq 451, .iconst 1, .goto 452, .iconst 0, .invokevirtual 1176896, .pop, .aload 2, .aload 0, .iload 3, .iconst 1, .iadd, 
  .iaload, .aload 0, .iload 3, .iconst 2, .iadd, .iaload, .aload 0, .iload 3, .iconst 3, .iadd, .iaload, .ifCond .eq 473, .iconst 1, .goto 474, .iconst 0, .invokevirtual 2056976, .pop, .goto 1615, 
  .aload 1, .aload 0, .iload 3]
def psL_11 : List Nat := [798, 799, 800, 801, 802, 803, 804, 805, 806, 809, 810, 813, 814, 817, 818, 819, 820, 821, 822, 823, 824, 825, 826, 827, 828, 829, 830, 831, 832, 833, 834, 837, 838, 841, 842, 845, 846, 849, 850, 851]
def cdL_12 : List Instr := [.iconst 1, .iadd, .iaload, .aload 0, .iload 3, .iconst 2, .iadd, .iaload, .ifCond .eq 491, .iconst 1, .goto 492, .iconst 0, .invokevirtual 1184892, .pop, .aload 2, .aload 0, .iload 3, .iconst 1, .iadd, 
  .iaload, .aload 0, .iload 3, .iconst 2, .iadd, .iaload, .ifCond .eq 508, .iconst 1, .goto 509, .iconst 0, .invokevirtual 2064972, .pop, .goto 1615, .aload 1, .aload 0, .iload 3, .iconst 1, .iadd, 
  .iaload, .invokevirtual 1208888, .pop]
def psL_12 : List Nat := [852, 853, 854, 855, 856, 857, 858, 859, 860, 863, 864, 867, 868, 871, 872, 873, 874, 875, 876, 877, 878, 879, 880, 881, 882, 883, 886, 887, 890, 891, 894, 895, 898, 899, 900, 901, 902, 903, 904, 907]
def cdL_13 : List Instr := [.aload 2, .aload 0, .iload 3, .iconst 1, .iadd, .iaload, .invokevirtual 2104968, .pop, .goto 1615, .aload 1, .aload 0, .iload 3, .iconst 1, .iadd, .iaload, .invokevirtual 1216888, .pop, .aload 2, 
  .aload 0, .iload 3, .iconst 1, .iadd, .iaload, .invokevirtual 2112968, .pop, .goto 1615, .aload 1, .invokevirtual 1232884, .pop, .aload 2, .invokevirtual 2120964, .pop, .goto 1615, .aload 1, .aload 0, 
  .iload 3, .iconst 1, .iadd, .iaload, .aload 0]
def psL_13 : List Nat := [908, 909, 910, 911, 912, 913, 914, 917, 918, 921, 922, 923, 924, 925, 926, 927, 930, 931, 932, 933, 934, 935, 936, 937, 940, 941, 944, 945, 948, 949, 950, 953, 954, 957, 958, 959, 960, 961, 962, 963]
def cdL_14 : List Instr := [.iload 3, .iconst 2, .iadd, .iaload, .aload 0, .iload 3, .iconst 3, .iadd, .iaload, .aload 0, .iload 3, .iconst 4, .iadd, .iaload, .aload 0, .iload 3, .iconst 5, .iadd, .iaload, .ifCond .eq 582, 
  .iconst 1, .goto 583, .iconst 0, .aload 0, .iload 3, .iconst 6, .iadd, .iaload, .ifCond .eq 591, .iconst 1, .goto 592, .iconst 0, .invokevirtual 1240908, .pop, .aload 2, .aload 0, .iload 3, .iconst 1, 
  .iadd, .iaload]
def psL_14 : List Nat := [964, 965, 966, 967, 968, 969, 970, 971, 972, 973, 974, 975, 976, 977, 978, 979, 980, 981, 982, 983, 986, 987, 990, 991, 992, 993, 995, 996, 997, 1000, 1001, 1004, 1005, 1008, 1009, 1010, 1011, 1012, 
  1013, 1014]
def cdL_15 : List Instr := [.aload 0, .iload 3, .iconst 2, .iadd, .iaload, .aload 0, .iload 3, .iconst 3, .iadd, .iaload, .aload 0, .iload 3, .iconst 4, .iadd, .iaload, .aload 0, .iload 3, .iconst 5, .iadd, .iaload, 
  .ifCond .eq 623, .iconst 1, .goto 624, .iconst 0, .aload 0, .iload 3, .iconst 6, .iadd, .iaload, .ifCond .eq 632, .iconst 1, .goto 633, .iconst 0, .invokevirtual 2224988, .pop, .goto 1615, .aload 1, 
  .aload 0, .iload 3, .iconst 1]
def psL_15 : List Nat := [1015, 1016, 1017, 1018, 1019, 1020, 1021, 1022, 1023, 1024, 1025, 1026, 1027, 1028, 1029, 1030, 1031, 1032, 1033, 1034, 1035, 1038, 1039, 1042, 1043, 1044, 1045, 1047, 1048, 1049, 1052, 1053, 1056, 
  1057, 1060, 1061, 1064, 1065, 1066, 1067]
def cdL_16 : List Instr := [.iadd, .iaload, .aload 0, .iload 3, .iconst 2, .iadd, .iaload, .aload 0, .iload 3, .iconst 3, .iadd, .iaload, .aload 0, .iload 3, .iconst 4, .iadd, .iaload, .aload 0, .iload 3, .iconst 5, .iadd, 
  .iaload, .ifCond .eq 665, .iconst 1, .goto 666, .iconst 0, .aload 0, .iload 3, .iconst 6, .iadd, .iaload, .ifCond .eq 674, .iconst 1, .goto 675, .iconst 0, .invokevirtual 1248908, .pop, .aload 2, 
  .aload 0, .iload 3]
def psL_16 : List Nat := [1068, 1069, 1070, 1071, 1072, 1073, 1074, 1075, 1076, 1077, 1078, 1079, 1080, 1081, 1082, 1083, 1084, 1085, 1086, 1087, 1088, 1089, 1090, 1093, 1094, 1097, 1098, 1099, 1100, 1102, 1103, 1104, 1107, 
  1108, 1111, 1112, 1115, 1116, 1117, 1118]
def cdL_17 : List Instr := [.iconst 1, .iadd, .iaload, .aload 0, .iload 3, .iconst 2, .iadd, .iaload, .aload 0, .iload 3, .iconst 3, .iadd, .iaload, .aload 0, .iload 3, .iconst 4, .iadd, .iaload, .aload 0, .iload 3, .iconst 5, 
  .iadd, .iaload, .ifCond .eq 706, .iconst 1, .goto 707, .iconst 0, .aload 0, .iload 3, .iconst 6, .iadd, .iaload, .ifCond .eq 715, .iconst 1, .goto 716, .iconst 0, .invokevirtual 2232988, .pop, 
  .goto 1615, .aload 1]
def psL_17 : List Nat := [1119, 1120, 1121, 1122, 1123, 1124, 1125, 1126, 1127, 1128, 1129, 1130, 1131, 1132, 1133, 1134, 1135, 1136, 1137, 1138, 1139, 1140, 1141, 1142, 1145, 1146, 1149, 1150, 1151, 1152, 1154, 1155, 1156, 
  1159, 1160, 1163, 1164, 1167, 1168, 1171]
def cdL_18 : List Instr := [.aload 0, .iload 3, .iconst 1, .iadd, .iaload, .aload 0, .iload 3, .iconst 2, .iadd, .iaload, .aload 0, .iload 3, .iconst 3, .iadd, .iaload, .aload 0, .iload 3, .iconst 4, .iadd, .iaload, .aload 0, 
  .iload 3, .iconst 5, .iadd, .iaload, .ifCond .eq 748, .iconst 1, .goto 749, .iconst 0, .aload 0, .iload 3, .iconst 6, .iadd, .iaload, .ifCond .eq 757, .iconst 1, .goto 758, .iconst 0, 
  .invokevirtual 1256908, .pop]
def psL_18 : List Nat := [1172, 1173, 1174, 1175, 1176, 1177, 1178, 1179, 1180, 1181, 1182, 1183, 1184, 1185, 1186, 1187, 1188, 1189, 1190, 1191, 1192, 1193, 1194, 1195, 1196, 1197, 1200, 1201, 1204, 1205, 1206, 1207, 1209, 
  1210, 1211, 1214, 1215, 1218, 1219, 1222]
def cdL_19 : List Instr := [.aload 2, .aload 0, .iload 3, .iconst 1, .iadd, .iaload, .aload 0, .iload 3, .iconst 2, .iadd, .iaload, .aload 0, .iload 3, .iconst 3, .iadd, .iaload, .aload 0, .iload 3, .iconst 4, .iadd, .iaload, 
  .aload 0, .iload 3, .iconst 5, .iadd, .iaload, .ifCond .eq 789, .iconst 1, .goto 790, .iconst 0, .aload 0, .iload 3, .iconst 6, .iadd, .iaload, .ifCond .eq 798, .iconst 1, .goto 799, .iconst 0, 
  .invokevirtual 2240988]
def psL_19 : List Nat := [1223, 1224, 1225, 1226, 1227, 1228, 1229, 1230, 1231, 1232, 1233, 1234, 1235, 1236, 1237, 1238, 1239, 1240, 1241, 1242, 1243, 1244, 1245, 1246, 1247, 1248, 1249, 1252, 1253, 1256, 1257, 1258, 1259, 
  1261, 1262, 1263, 1266, 1267, 1270, 1271]
def cdL_20 : List Instr := [.pop, .goto 1615, .aload 1, .aload 0, .iload 3, .iconst 1, .iadd, .iaload, .invokevirtual 1288888, .pop, .aload 2, .aload 0, .iload 3, .iconst 1, .iadd, .iaload, .invokevirtual 2272968, .pop, 
  .goto 1615, .aload 1, .aload 0, .iload 3, .iconst 1, .iadd, .iaload, .invokevirtual 1296888, .pop, .aload 2, .aload 0, .iload 3, .iconst 1, .iadd, .iaload, .invokevirtual 2280968, .pop, .goto 1615, 
  .aload 1, .aload 0, .iload 3, .iconst 1]
def psL_20 : List Nat := [1274, 1275, 1278, 1279, 1280, 1281, 1282, 1283, 1284, 1287, 1288, 1289, 1290, 1291, 1292, 1293, 1294, 1297, 1298, 1301, 1302, 1303, 1304, 1305, 1306, 1307, 1310, 1311, 1312, 1313, 1314, 1315, 1316, 
  1317, 1320, 1321, 1324, 1325, 1326, 1327]
def cdL_21 : List Instr := [.iadd, .iaload, .aload 0, .iload 3, .iconst 2, .iadd, .iaload, .aload 0, .iload 3, .iconst 3, .iadd, .iaload, .ifCond .eq 855, .iconst 1, .goto 856, .iconst 0, .invokevirtual 1304896, .pop, .aload 2, 
  .aload 0, .iload 3, .iconst 1, .iadd, .iaload, .aload 0, .iload 3, .iconst 2, .iadd, .iaload, .aload 0, .iload 3, .iconst 3, .iadd, .iaload, .ifCond .eq 877, .iconst 1, .goto 878, .iconst 0, 
  .invokevirtual 2296976, .pop]
def psL_21 : List Nat := [1328, 1329, 1330, 1331, 1332, 1333, 1334, 1335, 1336, 1337, 1338, 1339, 1340, 1343, 1344, 1347, 1348, 1351, 1352, 1353, 1354, 1355, 1356, 1357, 1358, 1359, 1360, 1361, 1362, 1363, 1364, 1365, 1366, 
  1367, 1368, 1371, 1372, 1375, 1376, 1379]
def cdL_22 : List Instr := [.goto 1615, .aload 1, .aload 0, .iload 3, .iconst 1, .iadd, .iaload, .aload 0, .iload 3, .iconst 2, .iadd, .iaload, .aload 0, .iload 3, .iconst 3, .iadd, .iaload, .ifCond .eq 900, .iconst 1, .goto 901, 
  .iconst 0, .invokevirtual 1312896, .pop, .aload 2, .aload 0, .iload 3, .iconst 1, .iadd, .iaload, .aload 0, .iload 3, .iconst 2, .iadd, .iaload, .aload 0, .iload 3, .iconst 3, .iadd, .iaload, 
  .ifCond .eq 922]
def psL_22 : List Nat := [1380, 1383, 1384, 1385, 1386, 1387, 1388, 1389, 1390, 1391, 1392, 1393, 1394, 1395, 1396, 1397, 1398, 1399, 1402, 1403, 1406, 1407, 1410, 1411, 1412, 1413, 1414, 1415, 1416, 1417, 1418, 1419, 1420, 
  1421, 1422, 1423, 1424, 1425, 1426, 1427]
def cdL_23 : List Instr := [.iconst 1, .goto 923, .iconst 0, .invokevirtual 2304976, .pop, .goto 1615, .aload 1, .aload 0, .iload 3, .iconst 1, .iadd, .iaload, .aload 0, .iload 3, .iconst 2, .iadd, .iaload, 
  .invokevirtual 1328892, .pop, .aload 2, .aload 0, .iload 3, .iconst 1, .iadd, .iaload, .aload 0, .iload 3, .iconst 2, .iadd, .iaload, .invokevirtual 2312972, .pop, .goto 1615, .aload 1, .aload 0, 
  .iload 3, .iconst 1, .iadd, .iaload, .aload 0]
def psL_23 : List Nat := [1430, 1431, 1434, 1435, 1438, 1439, 1442, 1443, 1444, 1445, 1446, 1447, 1448, 1449, 1450, 1451, 1452, 1453, 1456, 1457, 1458, 1459, 1460, 1461, 1462, 1463, 1464, 1465, 1466, 1467, 1468, 1471, 1472, 
  1475, 1476, 1477, 1478, 1479, 1480, 1481]
def cdL_24 : List Instr := [.iload 3, .iconst 2, .iadd, .iaload, .aload 0, .iload 3, .iconst 3, .iadd, .iaload, .invokevirtual 1336896, .pop, .aload 2, .aload 0, .iload 3, .iconst 1, .iadd, .iaload, .aload 0, .iload 3, .iconst 2, 
  .iadd, .iaload, .aload 0, .iload 3, .iconst 3, .iadd, .iaload, .invokevirtual 2320976, .pop, .goto 1615, .aload 1, .aload 0, .iload 3, .iconst 1, .iadd, .iaload, .aload 0, .iload 3, .iconst 2, .iadd]
def psL_24 : List Nat := [1482, 1483, 1484, 1485, 1486, 1487, 1488, 1489, 1490, 1491, 1494, 1495, 1496, 1497, 1498, 1499, 1500, 1501, 1502, 1503, 1504, 1505, 1506, 1507, 1508, 1509, 1510, 1511, 1514, 1515, 1518, 1519, 1520, 
  1521, 1522, 1523, 1524, 1525, 1526, 1527]
def cdL_25 : List Instr := [.iaload, .ifCond .eq 1004, .iconst 1, .goto 1005, .iconst 0, .invokevirtual 1344892, .pop, .aload 2, .aload 0, .iload 3, .iconst 1, .iadd, .iaload, .aload 0, .iload 3, .iconst 2, .iadd, .iaload, 
  .ifCond .eq 1021, .iconst 1, .goto 1022, .iconst 0, .invokevirtual 2352972, .pop, .goto 1615, .aload 1, .aload 0, .iload 3, .iconst 1, .iadd, .iaload, .aload 0, .iload 3, .iconst 2, .iadd, .iaload, 
  .aload 0, .iload 3, .iconst 3, .iadd]
def psL_25 : List Nat := [1528, 1529, 1532, 1533, 1536, 1537, 1540, 1541, 1542, 1543, 1544, 1545, 1546, 1547, 1548, 1549, 1550, 1551, 1552, 1555, 1556, 1559, 1560, 1563, 1564, 1567, 1568, 1569, 1570, 1571, 1572, 1573, 1574, 
  1575, 1576, 1577, 1578, 1579, 1580, 1581]
def cdL_26 : List Instr := [.iaload, .ifCond .eq 1044, .iconst 1, .goto 1045, .iconst 0, .invokevirtual 1192896, .pop, .aload 2, .aload 0, .iload 3, .iconst 1, .iadd, .iaload, .aload 0, .iload 3, .iconst 2, .iadd, .iaload, 
  .aload 0, .iload 3, .iconst 3, .iadd, .iaload, .ifCond .eq 1066, .iconst 1, .goto 1067, .iconst 0, .invokevirtual 2072976, .pop, .goto 1615, .aload 1, .invokevirtual 1200884, .pop, .aload 2, 
  .invokevirtual 2080964, .pop, .goto 1615, .aload 1, .aload 0, .iload 3]
def psL_26 : List Nat := [1582, 1583, 1586, 1587, 1590, 1591, 1594, 1595, 1596, 1597, 1598, 1599, 1600, 1601, 1602, 1603, 1604, 1605, 1606, 1607, 1608, 1609, 1610, 1611, 1614, 1615, 1618, 1619, 1622, 1623, 1626, 1627, 1630, 
  1631, 1632, 1635, 1636, 1639, 1640, 1641]
def cdL_27 : List Instr := [.iconst 1, .iadd, .iaload, .invokevirtual 1352888, .pop, .aload 2, .aload 0, .iload 3, .iconst 1, .iadd, .iaload, .invokevirtual 2368968, .pop, .goto 1615, .aload 1, .aload 0, .iload 3, .iconst 1, 
  .iadd, .iaload, .invokevirtual 1360888, .pop, .aload 2, .aload 0, .iload 3, .iconst 1, .iadd, .iaload, .invokevirtual 2376968, .pop, .goto 1615, .aload 1, .aload 0, .iload 3, .iconst 1, .iadd, .iaload, 
  .invokevirtual 1368888, .pop, .aload 2]
def psL_27 : List Nat := [1642, 1643, 1644, 1645, 1648, 1649, 1650, 1651, 1652, 1653, 1654, 1655, 1658, 1659, 1662, 1663, 1664, 1665, 1666, 1667, 1668, 1671, 1672, 1673, 1674, 1675, 1676, 1677, 1678, 1681, 1682, 1685, 1686, 
  1687, 1688, 1689, 1690, 1691, 1694, 1695]
def cdL_28 : List Instr := [.aload 0, .iload 3, .iconst 1, .iadd, .iaload, .invokevirtual 2384968, .pop, .goto 1615, .aload 1, .invokevirtual 1400884, .pop, .aload 2, .invokevirtual 2392964, .pop, .goto 1615, .aload 1, 
  .invokevirtual 1408884, .pop, .aload 2, .invokevirtual 2400964, .pop, .goto 1615, .aload 1, .aload 0, .iload 3, .iconst 1, .iadd, .iaload, .aload 0, .iload 3, .iconst 2, .iadd, .iaload, 
  .invokevirtual 1416892, .pop, .aload 2, .aload 0, .iload 3, .iconst 1, .iadd]
def psL_28 : List Nat := [1696, 1697, 1698, 1699, 1700, 1701, 1704, 1705, 1708, 1709, 1712, 1713, 1714, 1717, 1718, 1721, 1722, 1725, 1726, 1727, 1730, 1731, 1734, 1735, 1736, 1737, 1738, 1739, 1740, 1741, 1742, 1743, 1744, 
  1745, 1748, 1749, 1750, 1751, 1752, 1753]
def cdL_29 : List Instr := [.iaload, .aload 0, .iload 3, .iconst 2, .iadd, .iaload, .invokevirtual 2448972, .pop, .goto 1615, .aload 1, .aload 0, .iload 3, .iconst 1, .iadd, .iaload, .aload 0, .iload 3, .iconst 2, .iadd, .iaload, 
  .invokevirtual 1440892, .pop, .aload 2, .aload 0, .iload 3, .iconst 1, .iadd, .iaload, .aload 0, .iload 3, .iconst 2, .iadd, .iaload, .invokevirtual 2456972, .pop, .goto 1615, .aload 1, .aload 0, 
  .iload 3, .iconst 1]
def psL_29 : List Nat := [1754, 1755, 1756, 1757, 1758, 1759, 1760, 1763, 1764, 1767, 1768, 1769, 1770, 1771, 1772, 1773, 1774, 1775, 1776, 1777, 1778, 1781, 1782, 1783, 1784, 1785, 1786, 1787, 1788, 1789, 1790, 1791, 1792, 
  1793, 1796, 1797, 1800, 1801, 1802, 1803]
def cdL_30 : List Instr := [.iadd, .iaload, .invokevirtual 1448888, .pop, .aload 2, .aload 0, .iload 3, .iconst 1, .iadd, .iaload, .invokevirtual 2464968, .pop, .goto 1615, .aload 1, .aload 0, .iload 3, .iconst 1, .iadd, .iaload, 
  .aload 0, .iload 3, .iconst 2, .iadd, .iaload, .invokevirtual 1456892, .pop, .aload 2, .aload 0, .iload 3, .iconst 1, .iadd, .iaload, .aload 0, .iload 3, .iconst 2, .iadd, .iaload, 
  .invokevirtual 2472972, .pop, .goto 1615]
def psL_30 : List Nat := [1804, 1805, 1806, 1809, 1810, 1811, 1812, 1813, 1814, 1815, 1816, 1819, 1820, 1823, 1824, 1825, 1826, 1827, 1828, 1829, 1830, 1831, 1832, 1833, 1834, 1837, 1838, 1839, 1840, 1841, 1842, 1843, 1844, 
  1845, 1846, 1847, 1848, 1849, 1852, 1853]
def cdL_31 : List Instr := [.aload 1, .aload 0, .iload 3, .iconst 1, .iadd, .iaload, .aload 0, .iload 3, .iconst 2, .iadd, .iaload, .aload 0, .iload 3, .iconst 3, .iadd, .iaload, .invokevirtual 1464896, .pop, .aload 2, .aload 0, 
  .iload 3, .iconst 1, .iadd, .iaload, .aload 0, .iload 3, .iconst 2, .iadd, .iaload, .aload 0, .iload 3, .iconst 3, .iadd, .iaload, .invokevirtual 2496976, .pop, .goto 1615, .aload 1, .aload 0, 
  .iload 3]
def psL_31 : List Nat := [1856, 1857, 1858, 1859, 1860, 1861, 1862, 1863, 1864, 1865, 1866, 1867, 1868, 1869, 1870, 1871, 1872, 1875, 1876, 1877, 1878, 1879, 1880, 1881, 1882, 1883, 1884, 1885, 1886, 1887, 1888, 1889, 1890, 
  1891, 1892, 1895, 1896, 1899, 1900, 1901]
def cdL_32 : List Instr := [.iconst 1, .iadd, .iaload, .aload 0, .iload 3, .iconst 2, .iadd, .iaload, .aload 0, .iload 3, .iconst 3, .iadd, .iaload, .invokevirtual 1480896, .pop, .aload 2, .aload 0, .iload 3, .iconst 1, .iadd, 
  .iaload, .aload 0, .iload 3, .iconst 2, .iadd, .iaload, .aload 0, .iload 3, .iconst 3, .iadd, .iaload, .invokevirtual 2504976, .pop, .goto 1615, .aload 1, .aload 0, .iload 3, .iconst 1, .iadd, .iaload]
def psL_32 : List Nat := [1902, 1903, 1904, 1905, 1906, 1907, 1908, 1909, 1910, 1911, 1912, 1913, 1914, 1915, 1918, 1919, 1920, 1921, 1922, 1923, 1924, 1925, 1926, 1927, 1928, 1929, 1930, 1931, 1932, 1933, 1934, 1935, 1938, 
  1939, 1942, 1943, 1944, 1945, 1946, 1947]
def cdL_33 : List Instr := [.aload 0, .iload 3, .iconst 2, .iadd, .iaload, .aload 0, .iload 3, .iconst 3, .iadd, .iaload, .aload 0, .iload 3, .iconst 4, .iadd, .iaload, .invokevirtual 1488900, .pop, .aload 2, .aload 0, .iload 3, 
  .iconst 1, .iadd, .iaload, .aload 0, .iload 3, .iconst 2, .iadd, .iaload, .aload 0, .iload 3, .iconst 3, .iadd, .iaload, .aload 0, .iload 3, .iconst 4, .iadd, .iaload, .invokevirtual 2512980, .pop]
def psL_33 : List Nat := [1948, 1949, 1950, 1951, 1952, 1953, 1954, 1955, 1956, 1957, 1958, 1959, 1960, 1961, 1962, 1963, 1966, 1967, 1968, 1969, 1970, 1971, 1972, 1973, 1974, 1975, 1976, 1977, 1978, 1979, 1980, 1981, 1982, 
  1983, 1984, 1985, 1986, 1987, 1988, 1991]
def cdL_34 : List Instr := [.goto 1615, .aload 1, .invokevirtual 1496884, .pop, .aload 2, .invokevirtual 2576964, .pop, .goto 1615, .aload 1, .aload 0, .iload 3, .iconst 1, .iadd, .iaload, .invokevirtual 1504888, .pop, .aload 2, 
  .aload 0, .iload 3, .iconst 1, .iadd, .iaload, .invokevirtual 2584968, .pop, .goto 1615, .aload 1, .aload 0, .iload 3, .iconst 1, .iadd, .iaload, .invokevirtual 1512888, .pop, .aload 2, .aload 0, 
  .iload 3, .iconst 1, .iadd, .iaload, .invokevirtual 2592968]
def psL_34 : List Nat := [1992, 1995, 1996, 1999, 2000, 2001, 2004, 2005, 2008, 2009, 2010, 2011, 2012, 2013, 2014, 2017, 2018, 2019, 2020, 2021, 2022, 2023, 2024, 2027, 2028, 2031, 2032, 2033, 2034, 2035, 2036, 2037, 2040, 
  2041, 2042, 2043, 2044, 2045, 2046, 2047]
def cdL_35 : List Instr := [.pop, .goto 1615, .aload 1, .invokevirtual 1520884, .pop, .aload 2, .invokevirtual 2600964, .pop, .goto 1615, .aload 1, .aload 0, .iload 3, .iconst 1, .iadd, .iaload, .invokevirtual 1528888, .pop, 
  .aload 2, .aload 0, .iload 3, .iconst 1, .iadd, .iaload, .invokevirtual 2608968, .pop, .goto 1615, .aload 1, .aload 0, .iload 3, .iconst 1, .iadd, .iaload, .invokevirtual 1544888, .pop, .aload 2, 
  .aload 0, .iload 3, .iconst 1, .iadd, .iaload]
def psL_35 : List Nat := [2050, 2051, 2054, 2055, 2058, 2059, 2060, 2063, 2064, 2067, 2068, 2069, 2070, 2071, 2072, 2073, 2076, 2077, 2078, 2079, 2080, 2081, 2082, 2083, 2086, 2087, 2090, 2091, 2092, 2093, 2094, 2095, 2096, 
  2099, 2100, 2101, 2102, 2103, 2104, 2105]
def cdL_36 : List Instr := [.invokevirtual 1640968, .pop, .goto 1615, .aload 1, .aload 0, .iload 3, .iconst 1, .iadd, .iaload, .invokevirtual 1552888, .pop, .aload 2, .aload 0, .iload 3, .iconst 1, .iadd, .iaload, 
  .invokevirtual 1648968, .pop, .goto 1615, .aload 1, .aload 0, .iload 3, .iconst 1, .iadd, .iaload, .aload 0, .iload 3, .iconst 2, .iadd, .iaload, .aload 0, .iload 3, .iconst 3, .iadd, .iaload, 
  .invokevirtual 1568896, .pop, .aload 2, .aload 0]
def psL_36 : List Nat := [2106, 2109, 2110, 2113, 2114, 2115, 2116, 2117, 2118, 2119, 2122, 2123, 2124, 2125, 2126, 2127, 2128, 2129, 2132, 2133, 2136, 2137, 2138, 2139, 2140, 2141, 2142, 2143, 2144, 2145, 2146, 2147, 2148, 
  2149, 2150, 2151, 2152, 2155, 2156, 2157]
def cdL_37 : List Instr := [.iload 3, .iconst 1, .iadd, .iaload, .aload 0, .iload 3, .iconst 2, .iadd, .iaload, .aload 0, .iload 3, .iconst 3, .iadd, .iaload, .invokevirtual 2632976, .pop, .goto 1615, .aload 1, .aload 0, 
  .iload 3, .iconst 1, .iadd, .iaload, .aload 0, .iload 3, .iconst 2, .iadd, .iaload, .aload 0, .iload 3, .iconst 3, .iadd, .iaload, .i2l, .iconst 32, .lshl, .aload 0, .iload 3, .iconst 4, .iadd]
def psL_37 : List Nat := [2158, 2159, 2160, 2161, 2162, 2163, 2164, 2165, 2166, 2167, 2168, 2169, 2170, 2171, 2172, 2175, 2176, 2179, 2180, 2181, 2182, 2183, 2184, 2185, 2186, 2187, 2188, 2189, 2190, 2191, 2192, 2193, 2194, 
  2195, 2196, 2198, 2199, 2200, 2201, 2202]
def cdL_38 : List Instr := [.iaload, .i2l, .jsr 4294967295, .land, .lor, .invokevirtual 1576896, .pop, .aload 2, .aload 0, .iload 3, .iconst 1, .iadd, .iaload, .aload 0, .iload 3, .iconst 2, .iadd, .iaload, .aload 0, .iload 3, 
  .iconst 3, .iadd, .iaload, .i2l, .iconst 32, .lshl, .aload 0, .iload 3, .iconst 4, .iadd, .iaload, .i2l, .jsr 4294967295, .land, .lor, .invokevirtual 2640976, .pop, .goto 1615, .aload 1, .aload 0]
def psL_38 : List Nat := [2203, 2204, 2205, 2208, 2209, 2210, 2213, 2214, 2215, 2216, 2217, 2218, 2219, 2220, 2221, 2222, 2223, 2224, 2225, 2226, 2227, 2228, 2229, 2230, 2231, 2233, 2234, 2235, 2236, 2237, 2238, 2239, 2240, 
  2243, 2244, 2245, 2248, 2249, 2252, 2253]
def cdL_39 : List Instr := [.iload 3, .iconst 1, .iadd, .iaload, .aload 0, .iload 3, .iconst 2, .iadd, .iaload, .aload 0, .iload 3, .iconst 3, .iadd, .iaload, .aload 0, .iload 3, .iconst 4, .iadd, .iaload, .aload 0, .iload 3, 
  .iconst 5, .iadd, .iaload, .invokevirtual 1592904, .pop, .aload 2, .aload 0, .iload 3, .iconst 1, .iadd, .iaload, .aload 0, .iload 3, .iconst 2, .iadd, .iaload, .aload 0, .iload 3, .iconst 3]
def psL_39 : List Nat := [2254, 2255, 2256, 2257, 2258, 2259, 2260, 2261, 2262, 2263, 2264, 2265, 2266, 2267, 2268, 2269, 2270, 2271, 2272, 2273, 2274, 2275, 2276, 2277, 2278, 2281, 2282, 2283, 2284, 2285, 2286, 2287, 2288, 
  2289, 2290, 2291, 2292, 2293, 2294, 2295]
def cdL_40 : List Instr := [.iadd, .iaload, .aload 0, .iload 3, .iconst 4, .iadd, .iaload, .aload 0, .iload 3, .iconst 5, .iadd, .iaload, .invokevirtual 2648984, .pop, .goto 1615, .iinc 3 7, .goto 10, .iconst 1, .ireturn]
def psL_40 : List Nat := [2296, 2297, 2298, 2299, 2300, 2301, 2302, 2303, 2304, 2305, 2306, 2307, 2308, 2311, 2312, 2315, 2318, 2321, 2322]
def cdLaw : List Instr := cdL_0 ++ (cdL_1 ++ (cdL_2 ++ (cdL_3 ++ (cdL_4 ++ (cdL_5 ++ (cdL_6 ++ (cdL_7 ++ (cdL_8 ++ (cdL_9 ++ (cdL_10 ++ (cdL_11 ++ (cdL_12 ++ (cdL_13 ++ (cdL_14 ++ (cdL_15 ++ (cdL_16 ++ (cdL_17 ++ (cdL_18 ++ (cdL_19 ++ (cdL_20 ++ (cdL_21 ++ (cdL_22 ++ (cdL_23 ++ (cdL_24 ++ (cdL_25 ++ (cdL_26 ++ (cdL_27 ++ (cdL_28 ++ (cdL_29 ++ (cdL_30 ++ (cdL_31 ++ (cdL_32 ++ (cdL_33 ++ (cdL_34 ++ (cdL_35 ++ (cdL_36 ++ (cdL_37 ++ (cdL_38 ++ (cdL_39 ++ (cdL_40))))))))))))))))))))))))))))))))))))))))
def psLaw : List Nat := psL_0 ++ (psL_1 ++ (psL_2 ++ (psL_3 ++ (psL_4 ++ (psL_5 ++ (psL_6 ++ (psL_7 ++ (psL_8 ++ (psL_9 ++ (psL_10 ++ (psL_11 ++ (psL_12 ++ (psL_13 ++ (psL_14 ++ (psL_15 ++ (psL_16 ++ (psL_17 ++ (psL_18 ++ (psL_19 ++ (psL_20 ++ (psL_21 ++ (psL_22 ++ (psL_23 ++ (psL_24 ++ (psL_25 ++ (psL_26 ++ (psL_27 ++ (psL_28 ++ (psL_29 ++ (psL_30 ++ (psL_31 ++ (psL_32 ++ (psL_33 ++ (psL_34 ++ (psL_35 ++ (psL_36 ++ (psL_37 ++ (psL_38 ++ (psL_39 ++ (psL_40))))))))))))))))))))))))))))))))))))))))
theorem ckL_0 : xChkP 13 false (some .int) code psLaw (cdL_0.zip psL_0) (psL_0.tail ++ [270]) = true := by decide +kernel
theorem ckL_1 : xChkP 13 false (some .int) code psLaw (cdL_1.zip psL_1) (psL_1.tail ++ [316]) = true := by decide +kernel
theorem ckL_2 : xChkP 13 false (some .int) code psLaw (cdL_2.zip psL_2) (psL_2.tail ++ [374]) = true := by decide +kernel
theorem ckL_3 : xChkP 13 false (some .int) code psLaw (cdL_3.zip psL_3) (psL_3.tail ++ [424]) = true := by decide +kernel
theorem ckL_4 : xChkP 13 false (some .int) code psLaw (cdL_4.zip psL_4) (psL_4.tail ++ [480]) = true := by decide +kernel
theorem ckL_5 : xChkP 13 false (some .int) code psLaw (cdL_5.zip psL_5) (psL_5.tail ++ [532]) = true := by decide +kernel
theorem ckL_6 : xChkP 13 false (some .int) code psLaw (cdL_6.zip psL_6) (psL_6.tail ++ [590]) = true := by decide +kernel
theorem ckL_7 : xChkP 13 false (some .int) code psLaw (cdL_7.zip psL_7) (psL_7.tail ++ [640]) = true := by decide +kernel
theorem ckL_8 : xChkP 13 false (some .int) code psLaw (cdL_8.zip psL_8) (psL_8.tail ++ [696]) = true := by decide +kernel
theorem ckL_9 : xChkP 13 false (some .int) code psLaw (cdL_9.zip psL_9) (psL_9.tail ++ [746]) = true := by decide +kernel
theorem ckL_10 : xChkP 13 false (some .int) code psLaw (cdL_10.zip psL_10) (psL_10.tail ++ [798]) = true := by decide +kernel
theorem ckL_11 : xChkP 13 false (some .int) code psLaw (cdL_11.zip psL_11) (psL_11.tail ++ [852]) = true := by decide +kernel
theorem ckL_12 : xChkP 13 false (some .int) code psLaw (cdL_12.zip psL_12) (psL_12.tail ++ [908]) = true := by decide +kernel
theorem ckL_13 : xChkP 13 false (some .int) code psLaw (cdL_13.zip psL_13) (psL_13.tail ++ [964]) = true := by decide +kernel
theorem ckL_14 : xChkP 13 false (some .int) code psLaw (cdL_14.zip psL_14) (psL_14.tail ++ [1015]) = true := by decide +kernel
theorem ckL_15 : xChkP 13 false (some .int) code psLaw (cdL_15.zip psL_15) (psL_15.tail ++ [1068]) = true := by decide +kernel
theorem ckL_16 : xChkP 13 false (some .int) code psLaw (cdL_16.zip psL_16) (psL_16.tail ++ [1119]) = true := by decide +kernel
theorem ckL_17 : xChkP 13 false (some .int) code psLaw (cdL_17.zip psL_17) (psL_17.tail ++ [1172]) = true := by decide +kernel
theorem ckL_18 : xChkP 13 false (some .int) code psLaw (cdL_18.zip psL_18) (psL_18.tail ++ [1223]) = true := by decide +kernel
theorem ckL_19 : xChkP 13 false (some .int) code psLaw (cdL_19.zip psL_19) (psL_19.tail ++ [1274]) = true := by decide +kernel
theorem ckL_20 : xChkP 13 false (some .int) code psLaw (cdL_20.zip psL_20) (psL_20.tail ++ [1328]) = true := by decide +kernel
theorem ckL_21 : xChkP 13 false (some .int) code psLaw (cdL_21.zip psL_21) (psL_21.tail ++ [1380]) = true := by decide +kernel
theorem ckL_22 : xChkP 13 false (some .int) code psLaw (cdL_22.zip psL_22) (psL_22.tail ++ [1430]) = true := by decide +kernel
theorem ckL_23 : xChkP 13 false (some .int) code psLaw (cdL_23.zip psL_23) (psL_23.tail ++ [1482]) = true := by decide +kernel
theorem ckL_24 : xChkP 13 false (some .int) code psLaw (cdL_24.zip psL_24) (psL_24.tail ++ [1528]) = true := by decide +kernel
theorem ckL_25 : xChkP 13 false (some .int) code psLaw (cdL_25.zip psL_25) (psL_25.tail ++ [1582]) = true := by decide +kernel
theorem ckL_26 : xChkP 13 false (some .int) code psLaw (cdL_26.zip psL_26) (psL_26.tail ++ [1642]) = true := by decide +kernel
theorem ckL_27 : xChkP 13 false (some .int) code psLaw (cdL_27.zip psL_27) (psL_27.tail ++ [1696]) = true := by decide +kernel
theorem ckL_28 : xChkP 13 false (some .int) code psLaw (cdL_28.zip psL_28) (psL_28.tail ++ [1754]) = true := by decide +kernel
theorem ckL_29 : xChkP 13 false (some .int) code psLaw (cdL_29.zip psL_29) (psL_29.tail ++ [1804]) = true := by decide +kernel
theorem ckL_30 : xChkP 13 false (some .int) code psLaw (cdL_30.zip psL_30) (psL_30.tail ++ [1856]) = true := by decide +kernel
theorem ckL_31 : xChkP 13 false (some .int) code psLaw (cdL_31.zip psL_31) (psL_31.tail ++ [1902]) = true := by decide +kernel
theorem ckL_32 : xChkP 13 false (some .int) code psLaw (cdL_32.zip psL_32) (psL_32.tail ++ [1948]) = true := by decide +kernel
theorem ckL_33 : xChkP 13 false (some .int) code psLaw (cdL_33.zip psL_33) (psL_33.tail ++ [1992]) = true := by decide +kernel
theorem ckL_34 : xChkP 13 false (some .int) code psLaw (cdL_34.zip psL_34) (psL_34.tail ++ [2050]) = true := by decide +kernel
theorem ckL_35 : xChkP 13 false (some .int) code psLaw (cdL_35.zip psL_35) (psL_35.tail ++ [2106]) = true := by decide +kernel
theorem ckL_36 : xChkP 13 false (some .int) code psLaw (cdL_36.zip psL_36) (psL_36.tail ++ [2158]) = true := by decide +kernel
theorem ckL_37 : xChkP 13 false (some .int) code psLaw (cdL_37.zip psL_37) (psL_37.tail ++ [2203]) = true := by decide +kernel
theorem ckL_38 : xChkP 13 false (some .int) code psLaw (cdL_38.zip psL_38) (psL_38.tail ++ [2254]) = true := by decide +kernel
theorem ckL_39 : xChkP 13 false (some .int) code psLaw (cdL_39.zip psL_39) (psL_39.tail ++ [2296]) = true := by decide +kernel
theorem ckL_40 : xChkP 13 false (some .int) code psLaw (cdL_40.zip psL_40) (psL_40.tail ++ [2323]) = true := by decide +kernel
