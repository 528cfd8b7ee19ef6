/-! the law's own words are among the tables' -/
theorem mem_r {big : List Cond} (ws : List Cond) (ps : List Nat) (hp : ws = ps.filterMap (fun i => big[i]?)) : ∀ w ∈ ws, w ∈ big := by
  intro w hw
  rw [hp] at hw
  obtain ⟨i, -, hi⟩ := List.mem_filterMap.mp hw
  exact List.mem_of_getElem? hi
set_option maxRecDepth 20000 in
theorem tb_wsL_law0_r1 : ∀ w ∈ wsL_law0_r1, w ∈ lw_tbl := by
  exact mem_r _ [91, 92, 74, 860, 861, 83, 1293, 93, 94, 95, 96, 97, 98, 99, 100, 75, 295, 296, 297, 242, 243, 80, 298, 259] (by decide +kernel)
set_option maxRecDepth 20000 in
theorem tb_wsL_law0_r2 : ∀ w ∈ wsL_law0_r2, w ∈ lw_tbl := by
  exact mem_r _ [260, 81, 299, 273, 106, 76, 300, 275, 276, 82, 301, 102, 103, 104, 105, 193, 173, 174, 79, 195, 171, 197, 199, 201] (by decide +kernel)
set_option maxRecDepth 20000 in
theorem tb_wsL_law0_r3 : ∀ w ∈ wsL_law0_r3, w ∈ lw_tbl := by
  exact mem_r _ [203, 205, 207, 209, 211, 213, 215, 107, 108, 109, 110, 136, 139, 142, 172, 144, 147, 150, 152, 111, 112, 77, 113, 114] (by decide +kernel)
set_option maxRecDepth 20000 in
theorem tb_wsL_law0_r4 : ∀ w ∈ wsL_law0_r4, w ∈ lw_tbl := by
  exact mem_r _ [115, 116, 117, 118, 119, 120, 121, 126, 127, 78, 128, 129, 130, 131, 122, 123, 124, 125, 132, 134, 0, 135, 176, 177] (by decide +kernel)
set_option maxRecDepth 20000 in
theorem tb_wsL_law0_r5 : ∀ w ∈ wsL_law0_r5, w ∈ lw_tbl := by
  exact mem_r _ [178, 179, 180, 181, 182, 244, 245, 246, 247, 248, 251, 252, 262, 263, 264, 265, 266, 274, 278, 279, 280, 281, 283, 284] (by decide +kernel)
set_option maxRecDepth 20000 in
theorem tb_wsL_law0_r6 : ∀ w ∈ wsL_law0_r6, w ∈ lw_tbl := by
  exact mem_r _ [286, 282, 862, 863, 864, 865, 867, 870, 876, 620, 621, 73, 622, 623, 624, 625, 626, 627, 628, 629, 194, 137, 394, 395] (by decide +kernel)
set_option maxRecDepth 20000 in
theorem tb_wsL_law0_r7 : ∀ w ∈ wsL_law0_r7, w ∈ lw_tbl := by
  exact mem_r _ [396, 397, 87, 465, 466, 467, 468, 88, 630, 632, 9, 633, 634, 89, 571, 572, 573, 574, 575, 577, 5, 578, 579, 580] (by decide +kernel)
set_option maxRecDepth 20000 in
theorem tb_wsL_law0_r8 : ∀ w ∈ wsL_law0_r8, w ∈ lw_tbl := by
  exact mem_r _ [581, 650, 651, 652, 653, 654, 656, 10, 657, 658, 340, 341, 342, 355, 349, 348, 90, 343, 344, 345, 346, 347, 350, 351] (by decide +kernel)
set_option maxRecDepth 20000 in
theorem tb_wsL_law0_r9 : ∀ w ∈ wsL_law0_r9, w ∈ lw_tbl := by
  exact mem_r _ [352, 353, 354, 659, 660, 661, 662, 138, 141, 145, 148, 663, 907, 908, 909, 910, 911, 912, 913, 914, 915, 916, 917, 918] (by decide +kernel)
set_option maxRecDepth 20000 in
theorem tb_wsL_law0_r10 : ∀ w ∈ wsL_law0_r10, w ∈ lw_tbl := by
  exact mem_r _ [919, 920, 922, 15, 923, 924, 926, 16, 927, 928, 930, 17, 931, 932, 934, 18, 935, 936, 938, 19, 939, 940, 942, 20] (by decide +kernel)
set_option maxRecDepth 20000 in
theorem tb_wsL_law0_r11 : ∀ w ∈ wsL_law0_r11, w ∈ lw_tbl := by
  exact mem_r _ [943, 944, 946, 21, 947, 948, 950, 22, 951, 952, 953, 954, 955, 957, 23, 958, 866, 959, 961, 24, 962, 868, 963, 965] (by decide +kernel)
set_option maxRecDepth 20000 in
theorem tb_wsL_law0_r12 : ∀ w ∈ wsL_law0_r12, w ∈ lw_tbl := by
  exact mem_r _ [25, 966, 967, 969, 26, 970, 971, 973, 27, 974, 903, 904, 905, 906, 664, 665, 666, 667, 668, 669, 670, 155, 975, 976] (by decide +kernel)
set_option maxRecDepth 20000 in
theorem tb_wsL_law0_r13 : ∀ w ∈ wsL_law0_r13, w ∈ lw_tbl := by
  exact mem_r _ [977, 978, 979, 981, 28, 982, 983, 985, 29, 986, 671, 672, 673, 674, 675, 676, 677, 987, 988, 989, 990, 991, 993, 30] (by decide +kernel)
set_option maxRecDepth 20000 in
theorem tb_wsL_law0_r14 : ∀ w ∈ wsL_law0_r14, w ∈ lw_tbl := by
  exact mem_r _ [994, 995, 997, 31, 998, 678, 679, 680, 681, 682, 683, 684, 140, 999, 1000, 1001, 1002, 1003, 1005, 32, 1006, 1007, 1009, 33] (by decide +kernel)
set_option maxRecDepth 20000 in
theorem tb_wsL_law0_r15 : ∀ w ∈ wsL_law0_r15, w ∈ lw_tbl := by
  exact mem_r _ [1010, 685, 686, 687, 688, 689, 690, 691, 143, 1011, 1012, 1013, 1014, 1015, 1017, 34, 1018, 692, 693, 694, 695, 696, 697, 698] (by decide +kernel)
set_option maxRecDepth 20000 in
theorem tb_wsL_law0_r16 : ∀ w ∈ wsL_law0_r16, w ∈ lw_tbl := by
  exact mem_r _ [567, 568, 569, 558, 559, 560, 561, 562, 555, 556, 557, 1019, 1020, 1021, 1022, 1023, 1024, 1025, 1026, 1028, 35, 1029, 1030, 1032] (by decide +kernel)
set_option maxRecDepth 20000 in
theorem tb_wsL_law0_r17 : ∀ w ∈ wsL_law0_r17, w ∈ lw_tbl := by
  exact mem_r _ [36, 1033, 1034, 1036, 37, 1037, 1038, 1040, 38, 1041, 699, 700, 701, 702, 703, 704, 705, 486, 487, 488, 489, 1042, 1043, 1044] (by decide +kernel)
set_option maxRecDepth 20000 in
theorem tb_wsL_law0_r18 : ∀ w ∈ wsL_law0_r18, w ∈ lw_tbl := by
  exact mem_r _ [1045, 1046, 1048, 39, 1049, 1050, 1052, 40, 1053, 1054, 1056, 41, 1057, 706, 707, 708, 709, 710, 711, 712, 151, 1058, 1059, 1060] (by decide +kernel)
set_option maxRecDepth 20000 in
theorem tb_wsL_law0_r19 : ∀ w ∈ wsL_law0_r19, w ∈ lw_tbl := by
  exact mem_r _ [1061, 713, 714, 715, 716, 717, 718, 719, 198, 200, 202, 550, 551, 552, 553, 153, 1062, 1063, 1064, 1065, 1066, 1068, 42, 1069] (by decide +kernel)
set_option maxRecDepth 20000 in
theorem tb_wsL_law0_r20 : ∀ w ∈ wsL_law0_r20, w ∈ lw_tbl := by
  exact mem_r _ [720, 721, 722, 723, 724, 725, 726, 727, 728, 729, 730, 731, 732, 733, 734, 735, 736, 738, 11, 739, 740, 742, 12, 743] (by decide +kernel)
set_option maxRecDepth 20000 in
theorem tb_wsL_law0_r21 : ∀ w ∈ wsL_law0_r21, w ∈ lw_tbl := by
  exact mem_r _ [1070, 1071, 1072, 1073, 1074, 1076, 43, 1077, 744, 745, 746, 747, 748, 749, 750, 210, 751, 752, 753, 754, 755, 371, 372, 373] (by decide +kernel)
set_option maxRecDepth 20000 in
theorem tb_wsL_law0_r22 : ∀ w ∈ wsL_law0_r22, w ∈ lw_tbl := by
  exact mem_r _ [756, 375, 376, 377, 378, 379, 380, 381, 382, 384, 2, 385, 1078, 1079, 1080, 1081, 1082, 1084, 44, 1085, 1086, 1088, 45, 1089] (by decide +kernel)
set_option maxRecDepth 20000 in
theorem tb_wsL_law0_r23 : ∀ w ∈ wsL_law0_r23, w ∈ lw_tbl := by
  exact mem_r _ [1090, 1092, 46, 1093, 1094, 1096, 47, 1097, 1098, 1100, 48, 1101, 757, 758, 759, 760, 761, 762, 763, 267, 765, 766, 767, 768] (by decide +kernel)
set_option maxRecDepth 20000 in
theorem tb_wsL_law0_r24 : ∀ w ∈ wsL_law0_r24, w ∈ lw_tbl := by
  exact mem_r _ [1102, 1103, 1104, 1105, 871, 317, 318, 319, 320, 1106, 1107, 1108, 1109, 321, 322, 323, 324, 325, 326, 327, 328, 329, 330, 331] (by decide +kernel)
set_option maxRecDepth 20000 in
theorem tb_wsL_law0_r25 : ∀ w ∈ wsL_law0_r25, w ∈ lw_tbl := by
  exact mem_r _ [332, 333, 334, 1110, 1111, 1112, 1113, 872, 1114, 1116, 49, 1117, 1118, 1120, 50, 1121, 873, 874, 875, 1122, 1124, 51, 1125, 1126] (by decide +kernel)
set_option maxRecDepth 20000 in
theorem tb_wsL_law0_r26 : ∀ w ∈ wsL_law0_r26, w ∈ lw_tbl := by
  exact mem_r _ [1128, 52, 1129, 1130, 1132, 53, 1133, 1134, 1136, 54, 1137, 769, 770, 771, 772, 773, 774, 775, 214, 216, 776, 777, 778, 779] (by decide +kernel)
set_option maxRecDepth 20000 in
theorem tb_wsL_law0_r27 : ∀ w ∈ wsL_law0_r27, w ∈ lw_tbl := by
  exact mem_r _ [781, 782, 783, 784, 785, 617, 618, 619, 786, 788, 13, 789, 790, 791, 792, 793, 616, 794, 796, 14, 797, 1138, 1139, 1140] (by decide +kernel)
set_option maxRecDepth 20000 in
theorem tb_wsL_law0_r28 : ∀ w ∈ wsL_law0_r28, w ∈ lw_tbl := by
  exact mem_r _ [1141, 1142, 1144, 55, 1145, 1146, 1148, 56, 1149, 335, 336, 337, 338, 339, 1150, 1151, 1152, 1153, 869, 798, 799, 800, 801, 802] (by decide +kernel)
set_option maxRecDepth 20000 in
theorem tb_wsL_law0_r29 : ∀ w ∈ wsL_law0_r29, w ∈ lw_tbl := by
  exact mem_r _ [803, 804, 1154, 1155, 1156, 1157, 806, 807, 808, 809, 810, 811, 812, 253, 814, 815, 816, 817, 1158, 1159, 1160, 1161, 818, 819] (by decide +kernel)
set_option maxRecDepth 20000 in
theorem tb_wsL_law0_r30 : ∀ w ∈ wsL_law0_r30, w ∈ lw_tbl := by
  exact mem_r _ [820, 821, 541, 542, 543, 544, 545, 546, 547, 548, 549, 554, 1162, 1163, 1164, 1165, 1166, 1168, 57, 1169, 822, 823, 824, 825] (by decide +kernel)
set_option maxRecDepth 20000 in
theorem tb_wsL_law0_r31 : ∀ w ∈ wsL_law0_r31, w ∈ lw_tbl := by
  exact mem_r _ [587, 588, 589, 146, 149, 590, 591, 495, 496, 497, 1170, 1171, 1172, 1173, 1174, 1176, 58, 1177, 826, 827, 828, 829, 830, 831] (by decide +kernel)
set_option maxRecDepth 20000 in
theorem tb_wsL_law0_r32 : ∀ w ∈ wsL_law0_r32, w ∈ lw_tbl := by
  exact mem_r _ [832, 196, 596, 597, 598, 599, 1178, 1179, 1180, 1181, 834, 835, 836, 837, 513, 514, 515, 204, 206, 208, 212, 183, 516, 517] (by decide +kernel)
set_option maxRecDepth 20000 in
theorem tb_wsL_law0_r33 : ∀ w ∈ wsL_law0_r33, w ∈ lw_tbl := by
  exact mem_r _ [518, 519, 520, 521, 522, 523, 524, 525, 526, 527, 528, 529, 530, 531, 1182, 1183, 1184, 1185, 1186, 1188, 59, 1189, 1190, 1192] (by decide +kernel)
set_option maxRecDepth 20000 in
theorem tb_wsL_law0_r34 : ∀ w ∈ wsL_law0_r34, w ∈ lw_tbl := by
  exact mem_r _ [60, 1193, 1194, 1196, 61, 1197, 1198, 1200, 62, 1201, 1202, 1204, 63, 1205, 838, 839, 840, 841, 564, 565, 566, 1206, 1207, 1208] (by decide +kernel)
set_option maxRecDepth 20000 in
theorem tb_wsL_law0_r35 : ∀ w ∈ wsL_law0_r35, w ∈ lw_tbl := by
  exact mem_r _ [1209, 1210, 1212, 64, 1213, 842, 843, 844, 845, 846, 847, 848, 1214, 1215, 1216, 1217, 849, 850, 851, 852, 391, 392, 393, 484] (by decide +kernel)
set_option maxRecDepth 20000 in
theorem tb_wsL_law0_r36 : ∀ w ∈ wsL_law0_r36, w ∈ lw_tbl := by
  exact mem_r _ [485, 490, 491, 492, 493, 494, 1218, 1219, 1220, 1221, 1222, 1224, 65, 1225, 853, 854, 855, 856, 857, 858, 859, 285, 360, 361] (by decide +kernel)
set_option maxRecDepth 20000 in
theorem tb_wsL_law0_r37 : ∀ w ∈ wsL_law0_r37, w ∈ lw_tbl := by
  exact mem_r _ [362, 363, 364, 365, 366, 368, 1, 369, 154, 370, 374, 1226, 1227, 1228, 1229, 1230, 1232, 66, 1233, 356, 357, 358, 359, 287] (by decide +kernel)
set_option maxRecDepth 20000 in
theorem tb_wsL_law0_r38 : ∀ w ∈ wsL_law0_r38, w ∈ lw_tbl := by
  exact mem_r _ [1234, 1235, 1236, 1237, 1238, 1240, 67, 1241, 386, 387, 388, 389, 390, 1242, 1243, 1244, 1245, 1246, 1248, 68, 1249, 498, 499, 500] (by decide +kernel)
set_option maxRecDepth 20000 in
theorem tb_wsL_law0_r39 : ∀ w ∈ wsL_law0_r39, w ∈ lw_tbl := by
  exact mem_r _ [501, 502, 1250, 1251, 1252, 1253, 1254, 1256, 69, 1257, 1258, 503, 504, 505, 506, 1259, 1260, 1261, 1262, 1263, 1265, 70, 1266, 507] (by decide +kernel)
set_option maxRecDepth 20000 in
theorem tb_wsL_law0_r40 : ∀ w ∈ wsL_law0_r40, w ∈ lw_tbl := by
  exact mem_r _ [508, 509, 510, 511, 512, 532, 533, 534, 535, 536, 538, 4, 539, 540, 563, 582, 584, 6, 585, 586, 592, 594, 7, 595] (by decide +kernel)
set_option maxRecDepth 20000 in
theorem tb_wsL_law0_r41 : ∀ w ∈ wsL_law0_r41, w ∈ lw_tbl := by
  exact mem_r _ [600, 601, 602, 603, 604, 605, 606, 607, 608, 609, 610, 611, 612, 614, 8, 615, 1267, 1268, 1269, 1270, 1271, 877, 1272, 1274] (by decide +kernel)
set_option maxRecDepth 20000 in
theorem tb_wsL_law0_r42 : ∀ w ∈ wsL_law0_r42, w ∈ lw_tbl := by
  exact mem_r _ [71, 1275, 1276, 1277, 1279, 72, 1280, 1281, 1282, 1283, 1284, 1285, 1286, 1287, 1288, 1289, 1290, 1291, 1292] (by decide +kernel)
set_option maxRecDepth 20000 in
theorem tb_wsX60 : ∀ w ∈ wsX60, w ∈ lw_tbl := by
  exact mem_r _ [302, 304, 306, 308, 310, 312, 314] (by decide +kernel)
set_option maxRecDepth 20000 in
theorem tb_wsX70 : ∀ w ∈ wsX70, w ∈ lw_tbl := by
  exact mem_r _ [878, 880, 882, 884, 886, 888, 890, 892, 894, 896, 898, 900] (by decide +kernel)
set_option maxRecDepth 20000 in
theorem tb_wsX40 : ∀ w ∈ wsX40, w ∈ lw_tbl := by
  exact mem_r _ [217, 219, 221, 223, 225, 227, 229, 231, 233, 235, 237, 239] (by decide +kernel)
set_option maxRecDepth 20000 in
theorem tb_wsX20 : ∀ w ∈ wsX20, w ∈ lw_tbl := by
  exact mem_r _ [254, 256] (by decide +kernel)
set_option maxRecDepth 20000 in
theorem tb_wsX50 : ∀ w ∈ wsX50, w ∈ lw_tbl := by
  exact mem_r _ [268, 270] (by decide +kernel)
set_option maxRecDepth 20000 in
theorem tb_wsX00 : ∀ w ∈ wsX00, w ∈ lw_tbl := by
  exact mem_r _ [156, 158, 160, 162, 164, 166, 168] (by decide +kernel)
set_option maxRecDepth 20000 in
theorem tb_wsX10 : ∀ w ∈ wsX10, w ∈ lw_tbl := by
  exact mem_r _ [288, 290, 292] (by decide +kernel)
set_option maxRecDepth 20000 in
theorem tb_wsX30 : ∀ w ∈ wsX30, w ∈ lw_tbl := by
  exact mem_r _ [184, 186, 188, 190] (by decide +kernel)
set_option maxRecDepth 20000 in
theorem tb_x0 : ∀ w ∈ (vx_atS RX6 199 xcI xcN).filter goodWord, w ∈ lw_tbl := by
  exact mem_r _ [84, 419, 428, 432, 435, 437, 420, 421, 97, 98, 422, 427, 433, 453, 409, 454, 411, 455, 413, 423, 425, 415, 449, 450, 452, 415, 440, 441, 442, 443, 443, 444, 445, 446, 446, 447, 448, 449, 439, 398, 406, 407, 408, 410, 412, 414, 418, 417, 416] (by decide +kernel)
set_option maxRecDepth 20000 in
theorem tb_x1 : ∀ w ∈ (vx_atS RX6 142 xcA xcN).filter goodWord, w ∈ lw_tbl := by
  exact mem_r _ [84, 419, 428, 432, 435, 437, 420, 421, 97, 98, 422, 427, 433, 453, 409, 454, 411, 455, 413, 423, 425, 415, 449, 450, 452, 415, 479, 480, 481, 443, 443, 444, 445, 446, 446, 447, 448, 449, 478, 469, 471, 430, 472, 473, 474, 475, 418, 417, 476] (by decide +kernel)
set_option maxRecDepth 20000 in
theorem tb_x2 : ∀ w ∈ (vx_atS RX6 125 xcS xcN).filter goodWord, w ∈ lw_tbl := by
  exact mem_r _ [84, 419, 428, 432, 435, 437, 420, 421, 97, 98, 422, 427, 433, 453, 409, 454, 411, 455, 413, 423, 425, 415, 449, 450, 452, 415, 645, 646, 647, 443, 443, 444, 445, 446, 446, 447, 448, 449, 644, 635, 637, 431, 638, 639, 640, 641, 418, 417, 642] (by decide +kernel)
theorem mem_ap {a b c : List Cond} (h1 : ∀ w ∈ a, w ∈ c) (h2 : ∀ w ∈ b, w ∈ c) : ∀ w ∈ a ++ b, w ∈ c := fun w h => (List.mem_append.mp h).elim (h1 w) (h2 w)
theorem tb_law0 : ∀ w ∈ wsL_law0, w ∈ lw_tbl := by
  exact (mem_ap (mem_ap (mem_ap (mem_ap (mem_ap (mem_ap (mem_ap (mem_ap (mem_ap (mem_ap tb_wsL_law0_r1 (mem_ap tb_wsL_law0_r2 (mem_ap tb_wsL_law0_r3 (mem_ap tb_wsL_law0_r4 (mem_ap tb_wsL_law0_r5 (mem_ap tb_wsL_law0_r6 (mem_ap tb_wsL_law0_r7 (mem_ap tb_wsL_law0_r8 (mem_ap tb_wsL_law0_r9 (mem_ap tb_wsL_law0_r10 (mem_ap tb_wsL_law0_r11 (mem_ap tb_wsL_law0_r12 (mem_ap tb_wsL_law0_r13 (mem_ap tb_wsL_law0_r14 (mem_ap tb_wsL_law0_r15 (mem_ap tb_wsL_law0_r16 (mem_ap tb_wsL_law0_r17 (mem_ap tb_wsL_law0_r18 (mem_ap tb_wsL_law0_r19 (mem_ap tb_wsL_law0_r20 (mem_ap tb_wsL_law0_r21 (mem_ap tb_wsL_law0_r22 (mem_ap tb_wsL_law0_r23 (mem_ap tb_wsL_law0_r24 (mem_ap tb_wsL_law0_r25 (mem_ap tb_wsL_law0_r26 (mem_ap tb_wsL_law0_r27 (mem_ap tb_wsL_law0_r28 (mem_ap tb_wsL_law0_r29 (mem_ap tb_wsL_law0_r30 (mem_ap tb_wsL_law0_r31 (mem_ap tb_wsL_law0_r32 (mem_ap tb_wsL_law0_r33 (mem_ap tb_wsL_law0_r34 (mem_ap tb_wsL_law0_r35 (mem_ap tb_wsL_law0_r36 (mem_ap tb_wsL_law0_r37 (mem_ap tb_wsL_law0_r38 (mem_ap tb_wsL_law0_r39 (mem_ap tb_wsL_law0_r40 (mem_ap tb_wsL_law0_r41 tb_wsL_law0_r42))))))))))))))))))))))))))))))))))))))))) tb_wsX60) tb_wsX70) tb_wsX40) tb_wsX20) tb_wsX50) tb_wsX00) tb_wsX10) tb_wsX30) (fun _ h => absurd h List.not_mem_nil))
theorem tb_law : ∀ w ∈ wsL_law, w ∈ lw_tbl := by
  exact mem_ap (mem_ap (mem_ap tb_law0 tb_x0) tb_x1) tb_x2
