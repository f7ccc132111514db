theorem wl_mem {big ws : List Cond} (ps : List Nat) (hp : ws = ps.filterMap (fun i => big[i]?)) : ∀ w ∈ ws, w ∈ big := by
  intro w hw
  rw [hp] at hw
  obtain ⟨i, -, hi⟩ := List.mem_filterMap.mp hw
  exact List.mem_of_getElem? hi
theorem wl_app {big a b : List Cond} (ha : ∀ w ∈ a, w ∈ big) (hb : ∀ w ∈ b, w ∈ big) : ∀ w ∈ a ++ b, w ∈ big := fun w h => (List.mem_append.mp h).elim (ha w) (hb w)
set_option maxRecDepth 100000 in
theorem wsL_law_r1_in : ∀ w ∈ wsL_law_r1, w ∈ lw_tbl := wl_mem [98, 99, 79, 973, 974, 94, 100, 101, 102, 103, 104, 105, 106, 107, 80, 576, 126, 127, 81, 577, 177, 178, 83, 578] (by decide +kernel)
set_option maxRecDepth 100000 in
theorem wsL_law_r2_in : ∀ w ∈ wsL_law_r2, w ∈ lw_tbl := wl_mem [579, 580, 196, 197, 84, 581, 215, 216, 85, 582, 234, 235, 86, 583, 250, 251, 87, 584, 585, 586, 109, 110, 111, 125] (by decide +kernel)
set_option maxRecDepth 100000 in
theorem wsL_law_r3_in : ∀ w ∈ wsL_law_r3, w ∈ lw_tbl := wl_mem [112, 129, 130, 131, 152, 153, 154, 155, 156, 132, 133, 82, 157, 135, 136, 137, 138, 139, 151, 140, 180, 181, 182, 183] (by decide +kernel)
set_option maxRecDepth 100000 in
theorem wsL_law_r4_in : ∀ w ∈ wsL_law_r4, w ∈ lw_tbl := wl_mem [184, 185, 199, 200, 201, 202, 203, 204, 218, 219, 220, 221, 222, 237, 238, 239, 240, 253, 254, 255, 275, 276, 277, 278] (by decide +kernel)
set_option maxRecDepth 100000 in
theorem wsL_law_r5_in : ∀ w ∈ wsL_law_r5, w ∈ lw_tbl := wl_mem [279, 280, 256, 257, 88, 281, 259, 260, 261, 262, 263, 264, 265, 310, 311, 312, 89, 313, 1392, 314, 315, 316, 317, 318] (by decide +kernel)
set_option maxRecDepth 100000 in
theorem wsL_law_r6_in : ∀ w ∈ wsL_law_r6, w ∈ lw_tbl := wl_mem [1393, 320, 321, 322, 323, 324, 325, 326, 327, 328, 329, 90, 330, 331, 332, 333, 334, 336, 337, 91, 338, 339, 340, 92] (by decide +kernel)
set_option maxRecDepth 100000 in
theorem wsL_law_r7_in : ∀ w ∈ wsL_law_r7, w ∈ lw_tbl := wl_mem [341, 342, 343, 344, 345, 346, 347, 348, 349, 350, 351, 352, 354, 356, 358, 359, 360, 361, 113, 362, 364, 0, 365, 587] (by decide +kernel)
set_option maxRecDepth 100000 in
theorem wsL_law_r8_in : ∀ w ∈ wsL_law_r8, w ∈ lw_tbl := wl_mem [366, 367, 368, 369, 158, 159, 370, 371, 372, 373, 186, 374, 375, 93, 376, 377, 378, 379, 380, 381, 382, 383, 384, 385] (by decide +kernel)
set_option maxRecDepth 100000 in
theorem wsL_law_r9_in : ∀ w ∈ wsL_law_r9, w ∈ lw_tbl := wl_mem [387, 1, 388, 389, 390, 391, 392, 393, 394, 395, 396, 398, 399, 400, 401, 402, 403, 404, 405, 406, 407, 408, 409, 410] (by decide +kernel)
set_option maxRecDepth 100000 in
theorem wsL_law_r10_in : ∀ w ∈ wsL_law_r10, w ∈ lw_tbl := wl_mem [411, 412, 413, 414, 415, 416, 417, 418, 420, 421, 422, 423, 424, 425, 141, 426, 428, 430, 2, 431, 432, 433, 434, 435] (by decide +kernel)
set_option maxRecDepth 100000 in
theorem wsL_law_r11_in : ∀ w ∈ wsL_law_r11, w ∈ lw_tbl := wl_mem [436, 438, 3, 439, 440, 441, 442, 443, 444, 445, 446, 447, 448, 449, 450, 451, 452, 453, 454, 455, 456, 458, 4, 459] (by decide +kernel)
set_option maxRecDepth 100000 in
theorem wsL_law_r12_in : ∀ w ∈ wsL_law_r12, w ∈ lw_tbl := wl_mem [460, 462, 5, 463, 464, 466, 6, 467, 468, 469, 470, 471, 472, 473, 474, 475, 476, 477, 478, 479, 480, 481, 482, 483] (by decide +kernel)
set_option maxRecDepth 100000 in
theorem wsL_law_r13_in : ∀ w ∈ wsL_law_r13, w ∈ lw_tbl := wl_mem [205, 484, 486, 7, 487, 488, 489, 490, 491, 223, 224, 492, 494, 8, 495, 496, 497, 498, 499, 500, 501, 502, 503, 504] (by decide +kernel)
set_option maxRecDepth 100000 in
theorem wsL_law_r14_in : ∀ w ∈ wsL_law_r14, w ∈ lw_tbl := wl_mem [505, 507, 9, 508, 509, 510, 511, 512, 513, 514, 516, 10, 517, 518, 519, 520, 521, 522, 523, 524, 525, 526, 527, 528] (by decide +kernel)
set_option maxRecDepth 100000 in
theorem wsL_law_r15_in : ∀ w ∈ wsL_law_r15, w ∈ lw_tbl := wl_mem [529, 530, 532, 11, 533, 534, 535, 536, 537, 538, 539, 540, 541, 285, 542, 544, 12, 545, 546, 547, 548, 549, 241, 242] (by decide +kernel)
set_option maxRecDepth 100000 in
theorem wsL_law_r16_in : ∀ w ∈ wsL_law_r16, w ∈ lw_tbl := wl_mem [550, 551, 552, 553, 554, 555, 556, 557, 558, 559, 560, 561, 562, 563, 564, 565, 566, 568, 569, 570, 571, 572, 573, 574] (by decide +kernel)
set_option maxRecDepth 100000 in
theorem wsL_law_r17_in : ∀ w ∈ wsL_law_r17, w ∈ lw_tbl := wl_mem [575, 975, 976, 977, 978, 1036, 1037, 1038, 1041, 1042, 1043, 1044, 1045, 613, 1049, 1053, 1054, 1055, 1058, 1059, 1060, 1061, 1063, 1064] (by decide +kernel)
set_option maxRecDepth 100000 in
theorem wsL_law_r18_in : ∀ w ∈ wsL_law_r18, w ∈ lw_tbl := wl_mem [1065, 1066, 979, 981, 35, 982, 1039, 1040, 983, 985, 36, 986, 1056, 987, 989, 37, 990, 991, 993, 38, 994, 995, 997, 39] (by decide +kernel)
set_option maxRecDepth 100000 in
theorem wsL_law_r19_in : ∀ w ∈ wsL_law_r19, w ∈ lw_tbl := wl_mem [998, 999, 1001, 40, 1002, 1003, 1004, 1005, 1006, 1008, 41, 1009, 1010, 1012, 42, 1013, 1014, 1016, 43, 1017, 1018, 1020, 44, 1021] (by decide +kernel)
set_option maxRecDepth 100000 in
theorem wsL_law_r20_in : ∀ w ∈ wsL_law_r20, w ∈ lw_tbl := wl_mem [1022, 1024, 45, 1025, 1026, 1028, 46, 1029, 1030, 1032, 47, 1033, 1034, 1035, 1046, 1047, 614, 615, 616, 617, 1134, 1135, 1136, 1137] (by decide +kernel)
set_option maxRecDepth 100000 in
theorem wsL_law_r21_in : ∀ w ∈ wsL_law_r21, w ∈ lw_tbl := wl_mem [1138, 1139, 1048, 1140, 1141, 1142, 618, 619, 620, 621, 1143, 1144, 1145, 1146, 622, 623, 624, 625, 626, 627, 628, 629, 114, 115] (by decide +kernel)
set_option maxRecDepth 100000 in
theorem wsL_law_r22_in : ∀ w ∈ wsL_law_r22, w ∈ lw_tbl := wl_mem [630, 632, 13, 633, 634, 636, 14, 637, 638, 640, 15, 641, 643, 645, 16, 646, 647, 649, 17, 650, 651, 1147, 1148, 1149] (by decide +kernel)
set_option maxRecDepth 100000 in
theorem wsL_law_r23_in : ∀ w ∈ wsL_law_r23, w ∈ lw_tbl := wl_mem [1150, 1052, 1051, 1151, 1153, 48, 1154, 1050, 1155, 1157, 49, 1158, 1159, 1161, 50, 1162, 1163, 1165, 51, 1166, 1167, 1168, 1169, 1171] (by decide +kernel)
set_option maxRecDepth 100000 in
theorem wsL_law_r24_in : ∀ w ∈ wsL_law_r24, w ∈ lw_tbl := wl_mem [52, 1172, 1173, 1175, 53, 1176, 1177, 1178, 1179, 1181, 54, 1182, 1183, 1184, 1185, 1186, 1187, 1189, 55, 1190, 652, 653, 654, 655] (by decide +kernel)
set_option maxRecDepth 100000 in
theorem wsL_law_r25_in : ∀ w ∈ wsL_law_r25, w ∈ lw_tbl := wl_mem [656, 657, 658, 659, 660, 1191, 1192, 1193, 1194, 661, 662, 663, 664, 665, 667, 18, 668, 669, 670, 671, 672, 1195, 1196, 1197] (by decide +kernel)
set_option maxRecDepth 100000 in
theorem wsL_law_r26_in : ∀ w ∈ wsL_law_r26, w ∈ lw_tbl := wl_mem [1198, 1203, 1199, 1201, 56, 1202, 673, 674, 675, 676, 677, 678, 679, 1204, 1205, 1206, 1207, 680, 681, 682, 683, 684, 685, 1208] (by decide +kernel)
set_option maxRecDepth 100000 in
theorem wsL_law_r27_in : ∀ w ∈ wsL_law_r27, w ∈ lw_tbl := wl_mem [1209, 1210, 1211, 1212, 686, 687, 688, 689, 690, 692, 19, 693, 694, 695, 1213, 1214, 1215, 1216, 1217, 1219, 57, 1220, 696, 697] (by decide +kernel)
set_option maxRecDepth 100000 in
theorem wsL_law_r28_in : ∀ w ∈ wsL_law_r28, w ∈ lw_tbl := wl_mem [698, 699, 700, 701, 702, 703, 704, 705, 707, 20, 708, 709, 711, 710, 95, 1221, 1222, 1223, 1224, 1225, 1227, 58, 1228, 1229] (by decide +kernel)
set_option maxRecDepth 100000 in
theorem wsL_law_r29_in : ∀ w ∈ wsL_law_r29, w ∈ lw_tbl := wl_mem [1231, 59, 1232, 1233, 1235, 60, 1236, 712, 713, 714, 715, 716, 717, 718, 719, 1237, 1238, 1239, 1240, 1241, 1243, 61, 1244, 720] (by decide +kernel)
set_option maxRecDepth 100000 in
theorem wsL_law_r30_in : ∀ w ∈ wsL_law_r30, w ∈ lw_tbl := wl_mem [721, 722, 723, 724, 725, 1245, 1246, 1247, 1248, 1249, 726, 727, 728, 729, 730, 1250, 1251, 1252, 1253, 731, 732, 733, 734, 735] (by decide +kernel)
set_option maxRecDepth 100000 in
theorem wsL_law_r31_in : ∀ w ∈ wsL_law_r31, w ∈ lw_tbl := wl_mem [736, 737, 738, 739, 740, 741, 742, 743, 744, 745, 746, 1254, 1255, 1256, 1257, 747, 748, 749, 750, 751, 752, 753, 754, 1258] (by decide +kernel)
set_option maxRecDepth 100000 in
theorem wsL_law_r32_in : ∀ w ∈ wsL_law_r32, w ∈ lw_tbl := wl_mem [1259, 1260, 1261, 1262, 1264, 62, 1265, 1266, 1268, 63, 1269, 1270, 1272, 64, 1273, 1274, 1275, 1276, 1277, 1279, 65, 1280, 1057, 755] (by decide +kernel)
set_option maxRecDepth 100000 in
theorem wsL_law_r33_in : ∀ w ∈ wsL_law_r33, w ∈ lw_tbl := wl_mem [756, 757, 758, 759, 760, 761, 762, 763, 764, 765, 766, 767, 1281, 1282, 1283, 1284, 768, 769, 770, 771, 772, 773, 774, 775] (by decide +kernel)
set_option maxRecDepth 100000 in
theorem wsL_law_r34_in : ∀ w ∈ wsL_law_r34, w ∈ lw_tbl := wl_mem [1285, 1286, 1287, 1288, 776, 777, 778, 779, 780, 781, 782, 783, 784, 785, 96, 786, 787, 788, 789, 790, 791, 792, 793, 794] (by decide +kernel)
set_option maxRecDepth 100000 in
theorem wsL_law_r35_in : ∀ w ∈ wsL_law_r35, w ∈ lw_tbl := wl_mem [795, 796, 797, 798, 799, 800, 801, 802, 1289, 1290, 1291, 1292, 1293, 1295, 66, 1296, 1297, 1299, 67, 1300, 803, 804, 805, 806] (by decide +kernel)
set_option maxRecDepth 100000 in
theorem wsL_law_r36_in : ∀ w ∈ wsL_law_r36, w ∈ lw_tbl := wl_mem [807, 808, 809, 810, 282, 283, 811, 812, 813, 815, 21, 816, 817, 818, 819, 820, 821, 822, 823, 825, 22, 826, 843, 827] (by decide +kernel)
set_option maxRecDepth 100000 in
theorem wsL_law_r37_in : ∀ w ∈ wsL_law_r37, w ∈ lw_tbl := wl_mem [829, 23, 830, 831, 833, 24, 834, 835, 837, 25, 838, 839, 841, 26, 842, 844, 846, 27, 847, 284, 848, 850, 28, 851] (by decide +kernel)
set_option maxRecDepth 100000 in
theorem wsL_law_r38_in : ∀ w ∈ wsL_law_r38, w ∈ lw_tbl := wl_mem [852, 854, 29, 855, 856, 858, 30, 859, 861, 862, 863, 864, 865, 866, 867, 868, 869, 870, 871, 872, 873, 874, 875, 876] (by decide +kernel)
set_option maxRecDepth 100000 in
theorem wsL_law_r39_in : ∀ w ∈ wsL_law_r39, w ∈ lw_tbl := wl_mem [877, 879, 31, 880, 881, 883, 32, 884, 894, 895, 97, 896, 885, 887, 33, 888, 889, 890, 891, 892, 893, 1301, 1302, 1303] (by decide +kernel)
set_option maxRecDepth 100000 in
theorem wsL_law_r40_in : ∀ w ∈ wsL_law_r40, w ∈ lw_tbl := wl_mem [1304, 1305, 1062, 1306, 1308, 68, 1309, 1310, 1312, 69, 1313, 1314, 1316, 70, 1317, 1318, 1320, 71, 1321, 1322, 1324, 72, 1325, 1326] (by decide +kernel)
set_option maxRecDepth 100000 in
theorem wsL_law_r41_in : ∀ w ∈ wsL_law_r41, w ∈ lw_tbl := wl_mem [1328, 73, 1329, 1330, 1332, 74, 1333, 1334, 1336, 75, 1337, 1338, 1340, 76, 1341, 1342, 1344, 77, 1345, 1346, 1347, 1348, 897, 898] (by decide +kernel)
set_option maxRecDepth 100000 in
theorem wsL_law_r42_in : ∀ w ∈ wsL_law_r42, w ∈ lw_tbl := wl_mem [899, 900, 901, 902, 903, 904, 1349, 1350, 1351, 1352, 905, 906, 907, 908, 1353, 1354, 1355, 1356, 909, 910, 911, 912, 1357, 1358] (by decide +kernel)
set_option maxRecDepth 100000 in
theorem wsL_law_r43_in : ∀ w ∈ wsL_law_r43, w ∈ lw_tbl := wl_mem [1359, 1360, 913, 914, 915, 916, 917, 918, 919, 920, 1361, 1362, 1363, 1364, 921, 922, 923, 924, 925, 926, 927, 928, 1365, 1366] (by decide +kernel)
set_option maxRecDepth 100000 in
theorem wsL_law_r44_in : ∀ w ∈ wsL_law_r44, w ∈ lw_tbl := wl_mem [1367, 1368, 929, 930, 931, 932, 933, 934, 935, 936, 937, 938, 939, 940, 941, 942, 943, 944, 945, 946, 947, 948, 949, 950] (by decide +kernel)
set_option maxRecDepth 100000 in
theorem wsL_law_r45_in : ∀ w ∈ wsL_law_r45, w ∈ lw_tbl := wl_mem [951, 952, 953, 954, 956, 955, 1369, 1370, 1371, 1372, 1373, 1374, 1375, 1376, 1377, 1378, 957, 958, 959, 960, 961, 963, 34, 964] (by decide +kernel)
set_option maxRecDepth 100000 in
theorem wsL_law_r46_in : ∀ w ∈ wsL_law_r46, w ∈ lw_tbl := wl_mem [1379, 1380, 1381, 1382, 965, 966, 967, 968, 1383, 1384, 1385, 1386, 969, 970, 971, 972, 1387, 1388, 1389, 1390, 1391] (by decide +kernel)
set_option maxRecDepth 100000 in
theorem wsX90_inL : ∀ w ∈ wsX90, w ∈ lw_tbl := wl_mem [588, 590, 592, 594, 596, 598, 600, 602, 604, 606, 608, 610] (by decide +kernel)
set_option maxRecDepth 100000 in
theorem wsX100_inL : ∀ w ∈ wsX100, w ∈ lw_tbl := wl_mem [1067, 1069, 1071, 1073, 1075, 1077, 1079, 1081, 1083, 1085, 1087, 1089, 1091, 1093, 1095, 1097, 1099, 1101, 1103, 1105, 1107, 1109, 1111, 1113, 1115, 1117, 1119, 1121, 1123, 1125, 1127, 1129, 1131] (by decide +kernel)
set_option maxRecDepth 100000 in
theorem wsX70_inL : ∀ w ∈ wsX70, w ∈ lw_tbl := wl_mem [116, 118, 120, 122] (by decide +kernel)
set_option maxRecDepth 100000 in
theorem wsX40_inL : ∀ w ∈ wsX40, w ∈ lw_tbl := wl_mem [160, 162, 164, 166, 168, 170, 172, 174] (by decide +kernel)
set_option maxRecDepth 100000 in
theorem wsX60_inL : ∀ w ∈ wsX60, w ∈ lw_tbl := wl_mem [187, 189, 191, 193] (by decide +kernel)
set_option maxRecDepth 100000 in
theorem wsX00_inL : ∀ w ∈ wsX00, w ∈ lw_tbl := wl_mem [206, 208, 210, 212] (by decide +kernel)
set_option maxRecDepth 100000 in
theorem wsX50_inL : ∀ w ∈ wsX50, w ∈ lw_tbl := wl_mem [225, 227, 229, 231] (by decide +kernel)
set_option maxRecDepth 100000 in
theorem wsX30_inL : ∀ w ∈ wsX30, w ∈ lw_tbl := wl_mem [243, 245, 247] (by decide +kernel)
set_option maxRecDepth 100000 in
theorem wsX80_inL : ∀ w ∈ wsX80, w ∈ lw_tbl := wl_mem [286, 288, 290, 292, 294, 296, 298, 300, 302, 304, 306] (by decide +kernel)
set_option maxRecDepth 100000 in
theorem wsX20_inL : ∀ w ∈ wsX20, w ∈ lw_tbl := wl_mem [142, 144, 146, 148] (by decide +kernel)
set_option maxRecDepth 100000 in
theorem wsX10_inL : ∀ w ∈ wsX10, w ∈ lw_tbl := wl_mem [266, 268, 270, 272] (by decide +kernel)
theorem wsL_law_in : ∀ w ∈ wsL_law, w ∈ lw_tbl := wl_app (wl_app (wl_app (wl_app (wl_app (wl_app (wl_app (wl_app (wl_app (wl_app (wl_app (wl_app (wl_app wsL_law_r1_in (wl_app wsL_law_r2_in (wl_app wsL_law_r3_in (wl_app wsL_law_r4_in (wl_app wsL_law_r5_in (wl_app wsL_law_r6_in (wl_app wsL_law_r7_in (wl_app wsL_law_r8_in (wl_app wsL_law_r9_in (wl_app wsL_law_r10_in (wl_app wsL_law_r11_in (wl_app wsL_law_r12_in (wl_app wsL_law_r13_in (wl_app wsL_law_r14_in (wl_app wsL_law_r15_in (wl_app wsL_law_r16_in (wl_app wsL_law_r17_in (wl_app wsL_law_r18_in (wl_app wsL_law_r19_in (wl_app wsL_law_r20_in (wl_app wsL_law_r21_in (wl_app wsL_law_r22_in (wl_app wsL_law_r23_in (wl_app wsL_law_r24_in (wl_app wsL_law_r25_in (wl_app wsL_law_r26_in (wl_app wsL_law_r27_in (wl_app wsL_law_r28_in (wl_app wsL_law_r29_in (wl_app wsL_law_r30_in (wl_app wsL_law_r31_in (wl_app wsL_law_r32_in (wl_app wsL_law_r33_in (wl_app wsL_law_r34_in (wl_app wsL_law_r35_in (wl_app wsL_law_r36_in (wl_app wsL_law_r37_in (wl_app wsL_law_r38_in (wl_app wsL_law_r39_in (wl_app wsL_law_r40_in (wl_app wsL_law_r41_in (wl_app wsL_law_r42_in (wl_app wsL_law_r43_in (wl_app wsL_law_r44_in (wl_app wsL_law_r45_in wsL_law_r46_in))))))))))))))))))))))))))))))))))))))))))))) wsX90_inL) wsX100_inL) wsX70_inL) wsX40_inL) wsX60_inL) wsX00_inL) wsX50_inL) wsX30_inL) wsX80_inL) wsX20_inL) wsX10_inL) (fun _ h => absurd h List.not_mem_nil)
theorem inlX0 : ∀ w ∈ wsX00, w ∈ wsL_law := fun _ h => List.mem_append_left _ (List.mem_append_left _ (List.mem_append_left _ (List.mem_append_left _ (List.mem_append_left _ (List.mem_append_left _ (List.mem_append_right _ h))))))
theorem inlX1 : ∀ w ∈ wsX10, w ∈ wsL_law := fun _ h => List.mem_append_left _ (List.mem_append_right _ h)
theorem inlX2 : ∀ w ∈ wsX20, w ∈ wsL_law := fun _ h => List.mem_append_left _ (List.mem_append_left _ (List.mem_append_right _ h))
theorem inlX3 : ∀ w ∈ wsX30, w ∈ wsL_law := fun _ h => List.mem_append_left _ (List.mem_append_left _ (List.mem_append_left _ (List.mem_append_left _ (List.mem_append_right _ h))))
theorem inlX4 : ∀ w ∈ wsX40, w ∈ wsL_law := fun _ h => List.mem_append_left _ (List.mem_append_left _ (List.mem_append_left _ (List.mem_append_left _ (List.mem_append_left _ (List.mem_append_left _ (List.mem_append_left _ (List.mem_append_left _ (List.mem_append_right _ h))))))))
theorem inlX5 : ∀ w ∈ wsX50, w ∈ wsL_law := fun _ h => List.mem_append_left _ (List.mem_append_left _ (List.mem_append_left _ (List.mem_append_left _ (List.mem_append_left _ (List.mem_append_right _ h)))))
theorem inlX6 : ∀ w ∈ wsX60, w ∈ wsL_law := fun _ h => List.mem_append_left _ (List.mem_append_left _ (List.mem_append_left _ (List.mem_append_left _ (List.mem_append_left _ (List.mem_append_left _ (List.mem_append_left _ (List.mem_append_right _ h)))))))
theorem inlX7 : ∀ w ∈ wsX70, w ∈ wsL_law := fun _ h => List.mem_append_left _ (List.mem_append_left _ (List.mem_append_left _ (List.mem_append_left _ (List.mem_append_left _ (List.mem_append_left _ (List.mem_append_left _ (List.mem_append_left _ (List.mem_append_left _ (List.mem_append_right _ h)))))))))
theorem inlX8 : ∀ w ∈ wsX80, w ∈ wsL_law := fun _ h => List.mem_append_left _ (List.mem_append_left _ (List.mem_append_left _ (List.mem_append_right _ h)))
theorem inlX9 : ∀ w ∈ wsX90, w ∈ wsL_law := fun _ h => List.mem_append_left _ (List.mem_append_left _ (List.mem_append_left _ (List.mem_append_left _ (List.mem_append_left _ (List.mem_append_left _ (List.mem_append_left _ (List.mem_append_left _ (List.mem_append_left _ (List.mem_append_left _ (List.mem_append_left _ (List.mem_append_right _ h)))))))))))
theorem inlX10 : ∀ w ∈ wsX100, w ∈ wsL_law := fun _ h => List.mem_append_left _ (List.mem_append_left _ (List.mem_append_left _ (List.mem_append_left _ (List.mem_append_left _ (List.mem_append_left _ (List.mem_append_left _ (List.mem_append_left _ (List.mem_append_left _ (List.mem_append_left _ (List.mem_append_right _ h))))))))))
