/-! the words of both sides lie in the law's table -/
theorem at_some {ws big : List Cond} {is : List Nat} (h : ws.map some = is.map (fun i => big[i]?)) : ∀ w ∈ ws, w ∈ big := by
  intro w hw
  have h1 : some w ∈ ws.map some := List.mem_map.mpr ⟨w, hw, rfl⟩
  rw [h] at h1
  obtain ⟨i, -, hi⟩ := List.mem_map.mp h1
  exact List.mem_of_getElem? hi
set_option maxRecDepth 100000 in
theorem TWC_L0 : ((TWC.drop 0).take 60).map some = [240, 241, 116, 117, 184, 242, 243, 244, 234, 235, 236, 237, 94, 262, 261, 263, 239, 661, 154, 416, 128, 283, 799, 245, 246, 800, 282, 95, 517, 146, 809, 141, 514, 516, 10, 90, 817, 818, 107, 265, 446, 127, 838, 144, 145, 264, 814, 816, 27, 93, 790, 414, 415, 88, 834, 444, 445, 835, 836, 837].map (fun i => lw_tbl[i]?) := by decide +kernel
set_option maxRecDepth 100000 in
theorem TWC_L1 : ((TWC.drop 60).take 60).map some = [813, 842, 789, 659, 660, 846, 854, 143, 862, 858, 859, 860, 861, 866, 873, 870, 871, 872, 851, 852, 853, 855, 856, 857, 863, 864, 865, 867, 869, 31, 850, 740, 142, 885, 886, 887, 888, 889, 890, 892, 893, 579, 89, 580, 894, 896, 895, 108, 882, 883, 884, 878, 738, 739, 879, 880, 881, 877, 904, 901].map (fun i => lw_tbl[i]?) := by decide +kernel
set_option maxRecDepth 100000 in
theorem TWC_L2 : ((TWC.drop 120).take 60).map some = [902, 903, 900, 908, 924, 151, 920, 147, 921, 923, 37, 928, 148, 917, 918, 919, 925, 926, 927, 806, 807, 808, 916, 913, 915, 36, 912, 932, 940, 149, 944, 150, 937, 938, 939, 941, 942, 943, 936, 952, 949, 950, 951, 948, 960, 957, 958, 959, 956, 964, 968, 810, 812, 26, 839, 841, 28, 843, 845, 29].map (fun i => lw_tbl[i]?) := by decide +kernel
set_option maxRecDepth 100000 in
theorem TWC_L3 : ((TWC.drop 180).take 60).map some = [847, 849, 30, 874, 876, 32, 897, 899, 33, 905, 907, 34, 909, 911, 35, 929, 931, 38, 933, 935, 39, 945, 947, 40, 953, 955, 41, 961, 963, 42, 965, 967, 43, 805, 976, 972, 247, 973, 975, 44, 980, 801, 796, 797, 798, 802, 804, 25, 969, 970, 971, 977, 978, 979, 795, 791, 792, 794, 24, 788].map (fun i => lw_tbl[i]?) := by decide +kernel
set_option maxRecDepth 100000 in
theorem TWC_L4 : ((TWC.drop 240).take 60).map some = [984, 139, 140, 185, 456, 152, 153, 509, 525, 464, 465, 100, 679, 198, 683, 199, 675, 462, 463, 676, 677, 678, 92, 680, 681, 682, 674, 513, 736, 737, 741, 511, 512, 537, 496, 727, 196, 197, 190, 191, 192, 193, 206, 205, 207, 195, 484, 208, 476, 488, 542, 560, 561, 1409, 570, 566, 1410, 567, 568, 569].map (fun i => lw_tbl[i]?) := by decide +kernel
set_option maxRecDepth 100000 in
theorem TWC_L5 : ((TWC.drop 300).take 60).map some = [101, 576, 583, 573, 577, 125, 126, 578, 574, 575, 102, 581, 582, 601, 602, 600, 557, 558, 559, 563, 564, 565, 571, 572, 556, 553, 554, 555, 552, 641, 636, 637, 642, 643, 644, 645, 646, 647, 638, 640, 15, 652, 665, 666, 670, 658, 662, 663, 664, 667, 668, 669, 671, 672, 673, 657, 502, 209, 547, 461].map (fun i => lw_tbl[i]?) := by decide +kernel
set_option maxRecDepth 100000 in
theorem TWC_L6 : ((TWC.drop 360).take 60).map some = [549, 550, 551, 633, 634, 635, 649, 650, 651, 654, 656, 16, 91, 546, 695, 701, 702, 481, 483, 6, 692, 694, 19, 698, 699, 700, 691, 688, 690, 18, 687, 706, 720, 716, 210, 211, 712, 717, 719, 23, 212, 713, 715, 22, 711, 731, 475, 468, 470, 3, 510, 506, 507, 508, 733, 734, 735, 529, 485, 487].map (fun i => lw_tbl[i]?) := by decide +kernel
set_option maxRecDepth 100000 in
theorem TWC_L7 : ((TWC.drop 420).take 60).map some = [7, 498, 500, 9, 530, 532, 13, 539, 540, 541, 543, 545, 14, 684, 686, 17, 703, 705, 20, 521, 522, 523, 524, 526, 528, 12, 708, 710, 21, 724, 725, 726, 729, 730, 533, 534, 535, 536, 501, 457, 459, 2, 492, 493, 494, 495, 471, 472, 474, 4, 477, 479, 5, 480, 489, 491, 8, 518, 520, 11].map (fun i => lw_tbl[i]?) := by decide +kernel
set_option maxRecDepth 100000 in
theorem TWC_L8 : ((TWC.drop 480).take 60).map some = [460, 453, 454, 455, 742, 452, 122, 123, 124, 134, 425, 441, 437, 438, 439, 440, 442, 443, 447, 423, 424, 280, 293, 294, 281, 115, 118, 119, 284, 285, 286, 287, 288, 135, 136, 289, 290, 186, 187, 291, 230, 231, 292, 295, 296, 120, 121, 137, 138, 188, 189, 232, 233, 277, 279, 0, 87, 114, 420, 343].map (fun i => lw_tbl[i]?) := by decide +kernel
set_option maxRecDepth 100000 in
theorem TWC_L9 : ((TWC.drop 540).take 60).map some = [344, 413, 418, 419, 422, 434, 435, 436, 448, 449, 450, 451, 744, 432, 753, 106, 752, 775, 785, 786, 787, 981, 982, 983, 985, 986, 784, 327, 331, 335, 1002, 1003, 997, 998, 999, 1001, 46, 994, 996, 45, 1013, 1010, 1012, 48, 1009, 1006, 1008, 47, 993, 1021, 1022, 109, 126, 580].map (fun i => lw_tbl[i]?) := by decide +kernel
theorem TWC_L : ∀ w ∈ TWC, w ∈ lw_tbl := by
  have h : ∀ w ∈ TWC.drop 600, w ∈ lw_tbl := by
    have e : TWC.drop 600 = [] := List.drop_eq_nil_of_le (by decide +kernel)
    rw [e]
    intro w hw
    exact absurd hw List.not_mem_nil
  have h : ∀ w ∈ TWC.drop 540, w ∈ lw_tbl := by
    rw [← List.take_append_drop 60 (TWC.drop 540), List.drop_drop]
    exact List.forall_mem_append.mpr ⟨at_some TWC_L9, h⟩
  have h : ∀ w ∈ TWC.drop 480, w ∈ lw_tbl := by
    rw [← List.take_append_drop 60 (TWC.drop 480), List.drop_drop]
    exact List.forall_mem_append.mpr ⟨at_some TWC_L8, h⟩
  have h : ∀ w ∈ TWC.drop 420, w ∈ lw_tbl := by
    rw [← List.take_append_drop 60 (TWC.drop 420), List.drop_drop]
    exact List.forall_mem_append.mpr ⟨at_some TWC_L7, h⟩
  have h : ∀ w ∈ TWC.drop 360, w ∈ lw_tbl := by
    rw [← List.take_append_drop 60 (TWC.drop 360), List.drop_drop]
    exact List.forall_mem_append.mpr ⟨at_some TWC_L6, h⟩
  have h : ∀ w ∈ TWC.drop 300, w ∈ lw_tbl := by
    rw [← List.take_append_drop 60 (TWC.drop 300), List.drop_drop]
    exact List.forall_mem_append.mpr ⟨at_some TWC_L5, h⟩
  have h : ∀ w ∈ TWC.drop 240, w ∈ lw_tbl := by
    rw [← List.take_append_drop 60 (TWC.drop 240), List.drop_drop]
    exact List.forall_mem_append.mpr ⟨at_some TWC_L4, h⟩
  have h : ∀ w ∈ TWC.drop 180, w ∈ lw_tbl := by
    rw [← List.take_append_drop 60 (TWC.drop 180), List.drop_drop]
    exact List.forall_mem_append.mpr ⟨at_some TWC_L3, h⟩
  have h : ∀ w ∈ TWC.drop 120, w ∈ lw_tbl := by
    rw [← List.take_append_drop 60 (TWC.drop 120), List.drop_drop]
    exact List.forall_mem_append.mpr ⟨at_some TWC_L2, h⟩
  have h : ∀ w ∈ TWC.drop 60, w ∈ lw_tbl := by
    rw [← List.take_append_drop 60 (TWC.drop 60), List.drop_drop]
    exact List.forall_mem_append.mpr ⟨at_some TWC_L1, h⟩
  have h : ∀ w ∈ TWC.drop 0, w ∈ lw_tbl := by
    rw [← List.take_append_drop 60 (TWC.drop 0), List.drop_drop]
    exact List.forall_mem_append.mpr ⟨at_some TWC_L0, h⟩
  exact h
set_option maxRecDepth 100000 in
theorem TW7_L0 : ((TW7.drop 0).take 60).map some = [1055, 1125, 1129, 1126, 1127, 1128, 1051, 1135, 1142, 1136, 1137, 1141, 1139, 1140, 1138, 1052, 1054, 51, 96, 1059, 1124, 1123, 1063, 1071, 1078, 1134, 1079, 1131, 1130, 1056, 1058, 52, 1076, 1077, 1068, 1070, 55, 1075, 1060, 1062, 53, 1072, 1074, 56, 1067, 1132, 1048, 1050, 50, 1083, 1098, 1101, 1095, 1096, 1097, 1099, 1100, 1092, 1094, 60].map (fun i => lw_tbl[i]?) := by decide +kernel
set_option maxRecDepth 100000 in
theorem TW7_L1 : ((TW7.drop 60).take 60).map some = [1091, 1133, 1105, 1088, 1090, 59, 1102, 1104, 61, 1087, 1064, 1066, 54, 1080, 1082, 57, 1084, 1086, 58, 1047, 1109, 1118, 1119, 1120, 1121, 1117, 1122, 1116, 1115, 1152, 1144, 1146, 1153, 1154, 1156, 1158, 1044, 1046, 49, 1106, 1108, 62, 1042, 1264, 1110, 1272, 1268, 1112, 1273, 1274, 1275, 1111, 1269, 1271, 63, 1279, 1283, 1113, 1114, 1287].map (fun i => lw_tbl[i]?) := by decide +kernel
set_option maxRecDepth 100000 in
theorem TW7_L2 : ((TW7.drop 120).take 60).map some = [1319, 1322, 1357, 1361, 1355, 1356, 1354, 1316, 1318, 70, 1358, 1360, 79, 1148, 1351, 1353, 78, 1320, 1321, 1350, 1326, 1143, 1145, 1311, 1147, 1370, 1338, 1149, 1323, 1325, 71, 1365, 1366, 1367, 1369, 81, 1335, 1337, 74, 1334, 1308, 1310, 68, 1307, 1151, 1150, 1315, 1342, 1330, 1304, 1306, 67, 1347, 1349, 77, 1346, 1312, 1314, 69, 1327].map (fun i => lw_tbl[i]?) := by decide +kernel
set_option maxRecDepth 100000 in
theorem TW7_L3 : ((TW7.drop 180).take 60).map some = [1329, 72, 1331, 1333, 73, 1339, 1341, 75, 1343, 1345, 76, 1303, 1300, 1302, 66, 1362, 1364, 80, 1299, 1296, 1298, 65, 1295, 1155, 1292, 1294, 64, 1291, 1378, 1374, 1375, 1377, 82, 1382, 1386, 1398, 1159, 1394, 1395, 1397, 84, 1402, 1391, 1393, 83, 1157, 1399, 1401, 85, 1390, 1406].map (fun i => lw_tbl[i]?) := by decide +kernel
theorem TW7_L : ∀ w ∈ TW7, w ∈ lw_tbl := by
  have h : ∀ w ∈ TW7.drop 240, w ∈ lw_tbl := by
    have e : TW7.drop 240 = [] := List.drop_eq_nil_of_le (by decide +kernel)
    rw [e]
    intro w hw
    exact absurd hw List.not_mem_nil
  have h : ∀ w ∈ TW7.drop 180, w ∈ lw_tbl := by
    rw [← List.take_append_drop 60 (TW7.drop 180), List.drop_drop]
    exact List.forall_mem_append.mpr ⟨at_some TW7_L3, h⟩
  have h : ∀ w ∈ TW7.drop 120, w ∈ lw_tbl := by
    rw [← List.take_append_drop 60 (TW7.drop 120), List.drop_drop]
    exact List.forall_mem_append.mpr ⟨at_some TW7_L2, h⟩
  have h : ∀ w ∈ TW7.drop 60, w ∈ lw_tbl := by
    rw [← List.take_append_drop 60 (TW7.drop 60), List.drop_drop]
    exact List.forall_mem_append.mpr ⟨at_some TW7_L1, h⟩
  have h : ∀ w ∈ TW7.drop 0, w ∈ lw_tbl := by
    rw [← List.take_append_drop 60 (TW7.drop 0), List.drop_drop]
    exact List.forall_mem_append.mpr ⟨at_some TW7_L0, h⟩
  exact h
set_option maxRecDepth 100000 in
theorem TW7i_L0 : ((TW7i.drop 0).take 60).map some = [1043, 116, 117, 134, 184].map (fun i => lw_tbl[i]?) := by decide +kernel
theorem TW7i_L : ∀ w ∈ TW7i, w ∈ lw_tbl := by
  have h : ∀ w ∈ TW7i.drop 60, w ∈ lw_tbl := by
    have e : TW7i.drop 60 = [] := List.drop_eq_nil_of_le (by decide +kernel)
    rw [e]
    intro w hw
    exact absurd hw List.not_mem_nil
  have h : ∀ w ∈ TW7i.drop 0, w ∈ lw_tbl := by
    rw [← List.take_append_drop 60 (TW7i.drop 0), List.drop_drop]
    exact List.forall_mem_append.mpr ⟨at_some TW7i_L0, h⟩
  exact h
