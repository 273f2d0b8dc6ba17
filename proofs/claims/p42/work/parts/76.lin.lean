theorem nv_places {big : List Cond} (ws : List Cond) (ps : List Nat) (hp : ws = ps.filterMap (fun i => big[i]?)) : ∀ w ∈ ws, w ∈ big := by
  intro w hw
  rw [hp] at hw
  obtain ⟨i, -, hi⟩ := List.mem_filterMap.mp hw
  first | exact List.mem_of_getElem? hi | exact List.getElem?_mem hi
/-- a class selects a private method of its superclass as it selects another of that class -/
theorem sel_sis {C : String} {y z : MethodName} {s : State} {args : Array Value} (hcls : y.cls = z.cls) (hy : y.cls ≠ "java/lang/invoke/MethodHandle" ∧ y.cls ≠ "java/lang/invoke/VarHandle") (hz : (Cond.selects C z z).before args s = true) (hpriv : (Cond.privateMethod y).before args s = true) (hinst : (Cond.instanceMethod y).before args s = true) : (Cond.selects C y y).before args s = true := by
  obtain ⟨mk, methM, hnamed, hmethM, -, -⟩ := Cond.instanceMethod_spec hinst
  have hfound : s.methodFound? y.cls y.name y.desc = some mk := State.methodFound?_of_named hnamed hy
  simp only [Cond.before, Cond.holds, Cond.value] at hz
  cases hc : s.vm.findClass C with
  | none => simp [hc] at hz
  | some c =>
    cases hf : s.methodFound? z.cls z.name z.desc with
    | none => simp [hc, hf] at hz
    | some r =>
      cases hn : s.methodNamed? z with
      | none => simp [hc, hf, hn] at hz
      | some m =>
        have hcc : mk.cls = m.cls := Option.some.inj ((findClass_of_methodNamed hnamed).symm.trans (by rw [hcls]; exact findClass_of_methodNamed hn))
        have hsel : selectMethod {} s.vm c mk = .method mk := selectMethod_private hmethM (Cond.privateMethod_at hpriv mk methM hnamed hmethM)
        have hany : (s.vm.classes[m.cls]?).any (fun k => !k.isInterface) = true := by
          simp only [hc, hf, hn] at hz
          cases hs : selectMethod {} s.vm c r with
          | method m2 => simp [hs] at hz; simpa using hz.2
          | _ => simp [hs] at hz
        simp only [Cond.before, Cond.holds, Cond.value, hc, hfound, hnamed, hsel, hcc]
        simpa using hany
def lw_s6 : List MethodName := [⟨"java/lang/AbstractStringBuilder", "appendNull", "()Ljava/lang/AbstractStringBuilder;"⟩, ⟨"java/lang/AbstractStringBuilder", "ensureCapacityInternal", "(I)V"⟩, ⟨"java/lang/AbstractStringBuilder", "newCapacity", "(I)I"⟩, ⟨"java/lang/AbstractStringBuilder", "putStringAt", "(ILjava/lang/String;)V"⟩, ⟨"java/lang/AbstractStringBuilder", "inflateIfNeededFor", "(Ljava/lang/String;)V"⟩, ⟨"java/lang/AbstractStringBuilder", "inflate", "()V"⟩]
def lw_t2 : List Cond := lw_s6.map (fun y => Cond.selects "java/lang/StringBuilder" y y) ++ lw_tbl
theorem lw_s6_t : ∀ y ∈ lw_s6, Cond.privateMethod y ∈ lw_tbl ∧ Cond.instanceMethod y ∈ lw_tbl := List.forall_mem_cons.mpr ⟨⟨List.mem_of_getElem? (i := 1197) (by decide +kernel), List.mem_of_getElem? (i := 1198) (by decide +kernel)⟩, List.forall_mem_cons.mpr ⟨⟨List.mem_of_getElem? (i := 1201) (by decide +kernel), List.mem_of_getElem? (i := 1202) (by decide +kernel)⟩, List.forall_mem_cons.mpr ⟨⟨List.mem_of_getElem? (i := 1205) (by decide +kernel), List.mem_of_getElem? (i := 1206) (by decide +kernel)⟩, List.forall_mem_cons.mpr ⟨⟨List.mem_of_getElem? (i := 1242) (by decide +kernel), List.mem_of_getElem? (i := 1243) (by decide +kernel)⟩, List.forall_mem_cons.mpr ⟨⟨List.mem_of_getElem? (i := 1246) (by decide +kernel), List.mem_of_getElem? (i := 1247) (by decide +kernel)⟩, List.forall_mem_cons.mpr ⟨⟨List.mem_of_getElem? (i := 1251) (by decide +kernel), List.mem_of_getElem? (i := 1252) (by decide +kernel)⟩, fun _ h => absurd h List.not_mem_nil⟩⟩⟩⟩⟩⟩
theorem lw_t2_ok {args : Array Value} {s : State} (hts : ∀ w ∈ lw_tbl, w.before args s = true) : ∀ w ∈ lw_t2, w.before args s = true := by
  intro w hw
  rcases List.mem_append.mp hw with hw | hw
  · obtain ⟨y, hy, rfl⟩ := List.mem_map.mp hw
    have hc : y.cls = "java/lang/AbstractStringBuilder" := by
      revert y
      decide +kernel
    exact sel_sis (z := ⟨"java/lang/AbstractStringBuilder", "isLatin1", "()Z"⟩) hc (by rw [hc]; decide +kernel) (hts _ (List.mem_of_getElem? (i := 1232) (by decide +kernel))) (hts _ (lw_s6_t y hy).1) (hts _ (lw_s6_t y hy).2)
  · exact hts w hw
set_option maxRecDepth 20000 in
theorem wl_in_1 : ∀ w ∈ wsL_law0_r1, w ∈ lw_t2 := nv_places _ [1165, 1166, 58, 67, 68, 37, 1414, 1420, 1421, 1110, 1111, 36, 1112, 1147, 952, 55, 953, 69, 70, 71, 72, 73, 74, 75] rfl
set_option maxRecDepth 20000 in
theorem wl_in_2 : ∀ w ∈ wsL_law0_r2, w ∈ lw_t2 := nv_places _ [76, 38, 314, 315, 236, 237, 44, 316, 256, 257, 45, 317, 269, 270, 46, 318, 285, 286, 47, 319, 320, 321, 322, 323] rfl
set_option maxRecDepth 20000 in
theorem wl_in_3 : ∀ w ∈ wsL_law0_r3, w ∈ lw_t2 := nv_places _ [324, 77, 78, 79, 80, 81, 188, 139, 190, 192, 193, 194, 83, 39, 85, 86, 87, 103, 140, 141, 142, 143, 195, 198] rfl
set_option maxRecDepth 20000 in
theorem wl_in_4 : ∀ w ∈ wsL_law0_r4, w ∈ lw_t2 := nv_places _ [200, 202, 204, 206, 208, 144, 145, 146, 148, 149, 150, 40, 151, 1373, 152, 153, 154, 155, 156, 1374, 158, 159, 41, 160] rfl
set_option maxRecDepth 20000 in
theorem wl_in_5 : ∀ w ∈ wsL_law0_r5, w ∈ lw_t2 := nv_places _ [161, 162, 163, 164, 166, 167, 42, 168, 169, 170, 43, 171, 172, 173, 174, 175, 176, 177, 178, 179, 180, 181, 182, 184] rfl
set_option maxRecDepth 20000 in
theorem wl_in_6 : ∀ w ∈ wsL_law0_r6, w ∈ lw_t2 := nv_places _ [186, 238, 239, 240, 241, 242, 245, 246, 247, 244, 259, 260, 261, 262, 263, 272, 273, 274, 284, 275, 288, 289, 290, 291] rfl
set_option maxRecDepth 20000 in
theorem wl_in_7 : ∀ w ∈ wsL_law0_r7, w ∈ lw_t2 := nv_places _ [299, 1102, 1103, 1104, 1113, 1114, 1115, 1116, 1139, 1140, 1141, 1142, 1023, 1025, 26, 1026, 196, 365, 366, 367, 368, 370, 7, 371] rfl
set_option maxRecDepth 20000 in
theorem wl_in_8 : ∀ w ∈ wsL_law0_r8, w ∈ lw_t2 := nv_places _ [372, 373, 374, 375, 53, 446, 51, 462, 54, 478, 479, 480, 481, 482, 483, 484, 485, 486, 487, 488, 489, 490, 491, 55] rfl
set_option maxRecDepth 20000 in
theorem wl_in_9 : ∀ w ∈ wsL_law0_r9, w ∈ lw_t2 := nv_places _ [492, 493, 494, 495, 496, 501, 503, 502, 56, 497, 498, 499, 500, 88, 91, 94, 97, 100, 106, 109, 112, 115, 504, 505] rfl
set_option maxRecDepth 20000 in
theorem wl_in_10 : ∀ w ∈ wsL_law0_r10, w ∈ lw_t2 := nv_places _ [506, 507, 537, 538, 539, 1027, 1028, 1029, 1030, 1031, 1032, 1033, 1034, 1143, 1144, 1145, 1146, 1039, 1041, 28, 1042, 199, 1043, 1044] rfl
set_option maxRecDepth 20000 in
theorem wl_in_11 : ∀ w ∈ wsL_law0_r11, w ∈ lw_t2 := nv_places _ [1045, 1046, 357, 358, 359, 360, 361, 363, 6, 364, 191, 508, 509, 510, 511, 512, 513, 514, 515, 516, 518, 9, 519, 189] rfl
set_option maxRecDepth 20000 in
theorem wl_in_12 : ∀ w ∈ wsL_law0_r12, w ∈ lw_t2 := nv_places _ [105, 520, 521, 522, 523, 525, 526, 527, 528, 104, 529, 530, 531, 532, 533, 534, 535, 536, 540, 542, 10, 543, 544, 545] rfl
set_option maxRecDepth 20000 in
theorem wl_in_13 : ∀ w ∈ wsL_law0_r13, w ∈ lw_t2 := nv_places _ [546, 547, 548, 549, 550, 551, 552, 553, 554, 555, 556, 557, 559, 11, 560, 201, 561, 562, 563, 564, 565, 566, 567, 568] rfl
set_option maxRecDepth 20000 in
theorem wl_in_14 : ∀ w ∈ wsL_law0_r14, w ∈ lw_t2 := nv_places _ [624, 625, 626, 627, 628, 630, 13, 631, 116, 113, 632, 633, 634, 635, 117, 636, 637, 638, 639, 114, 640, 641, 642, 643] rfl
set_option maxRecDepth 20000 in
theorem wl_in_15 : ∀ w ∈ wsL_law0_r15, w ∈ lw_t2 := nv_places _ [111, 108, 644, 645, 646, 647, 93, 96, 648, 649, 650, 651, 652, 654, 14, 655, 656, 657, 658, 659, 660, 661, 662, 663] rfl
set_option maxRecDepth 20000 in
theorem wl_in_16 : ∀ w ∈ wsL_law0_r16, w ∈ lw_t2 := nv_places _ [664, 665, 667, 15, 668, 107, 669, 670, 671, 672, 90, 673, 674, 675, 676, 677, 828, 829, 830, 831, 203, 205, 207, 209] rfl
set_option maxRecDepth 20000 in
theorem wl_in_17 : ∀ w ∈ wsL_law0_r17, w ∈ lw_t2 := nv_places _ [298, 248, 832, 833, 834, 835, 836, 837, 838, 839, 569, 570, 571, 572, 89, 92, 95, 98, 101, 110, 573, 575, 12, 576] rfl
set_option maxRecDepth 20000 in
theorem wl_in_18 : ∀ w ∈ wsL_law0_r18, w ∈ lw_t2 := nv_places _ [578, 1093, 1094, 1095, 1096, 1076, 1148, 1149, 1150, 1151, 1152, 1153, 1154, 1156, 1157, 1158, 1159, 684, 685, 686, 687, 580, 581, 582] rfl
set_option maxRecDepth 20000 in
theorem wl_in_19 : ∀ w ∈ wsL_law0_r19, w ∈ lw_t2 := nv_places _ [583, 585, 586, 587, 588, 1167, 1168, 1169, 1170, 1171, 57, 1172, 1173, 1174, 235, 1182, 1183, 1175, 1176, 1177, 1178, 1179, 1180, 1181] rfl
set_option maxRecDepth 20000 in
theorem wl_in_20 : ∀ w ∈ wsL_law0_r20, w ∈ lw_t2 := nv_places _ [1195, 1196, 1197, 1198, 1199, 1423, 1194, 1200, 1201, 1185, 1202, 1424, 0, 1204, 1205, 1206, 1425, 1, 1208, 1209, 1210, 1426, 2, 1212] rfl
set_option maxRecDepth 20000 in
theorem wl_in_21 : ∀ w ∈ wsL_law0_r21, w ∈ lw_t2 := nv_places _ [1213, 1222, 1214, 1215, 59, 1216, 1217, 1218, 1219, 1220, 1221, 1223, 1224, 60, 1225, 1226, 1227, 1228, 1229, 1230, 1232, 1233, 955, 956] rfl
set_option maxRecDepth 20000 in
theorem wl_in_22 : ∀ w ∈ wsL_law0_r22, w ∈ lw_t2 := nv_places _ [1234, 1235, 1237, 1238, 1236, 1239, 1240, 1241, 1242, 969, 970, 971, 972, 973, 974, 975, 976, 977, 1243, 1244, 1245, 1246, 913, 914] rfl
set_option maxRecDepth 20000 in
theorem wl_in_23 : ∀ w ∈ wsL_law0_r23, w ∈ lw_t2 := nv_places _ [915, 916, 917, 918, 919, 1247, 1427, 3, 1249, 1250, 1251, 1428, 4, 1253, 1254, 1255, 1256, 1429, 5, 1258, 1259, 1260, 1261, 1262] rfl
set_option maxRecDepth 20000 in
theorem wl_in_24 : ∀ w ∈ wsL_law0_r24, w ∈ lw_t2 := nv_places _ [1263, 1264, 1265, 1266, 1267, 1268, 1269, 1270, 1271, 1272, 1273, 1274, 1275, 1276, 1277, 1278, 1279, 1280, 1283, 1284, 1285, 1286, 1287, 1430] rfl
set_option maxRecDepth 20000 in
theorem wl_in_25 : ∀ w ∈ wsL_law0_r25, w ∈ lw_t2 := nv_places _ [1288, 1289, 1290, 1291, 1292, 1293, 1294, 1295, 1296, 1297, 1298, 1299, 1300, 1134, 1301, 1302, 1303, 1304, 1305, 1306, 1307, 1184, 1308, 1310] rfl
set_option maxRecDepth 20000 in
theorem wl_in_26 : ∀ w ∈ wsL_law0_r26, w ∈ lw_t2 := nv_places _ [1311, 1309, 1312, 1313, 1315, 1314, 1316, 1317, 1318, 1319, 1314, 1320, 1321, 1322, 1323, 1324, 1325, 1326, 1327, 1328, 1329, 1330, 1332, 1363] rfl
set_option maxRecDepth 20000 in
theorem wl_in_27 : ∀ w ∈ wsL_law0_r27, w ∈ lw_t2 := nv_places _ [1364, 1365, 1366, 1367, 1368, 1369, 1370, 1371, 1372, 1105, 1106, 1107, 1108, 1109, 870, 871, 872, 873, 812, 63, 876, 877, 878, 879] rfl
set_option maxRecDepth 20000 in
theorem wl_in_28 : ∀ w ∈ wsL_law0_r28, w ∈ lw_t2 := nv_places _ [297, 880, 881, 882, 883, 296, 884, 885, 886, 887, 295, 888, 889, 890, 891, 892, 893, 894, 895, 293, 997, 896, 897, 898] rfl
set_option maxRecDepth 20000 in
theorem wl_in_29 : ∀ w ∈ wsL_law0_r29, w ∈ lw_t2 := nv_places _ [908, 910, 20, 911, 300, 912, 920, 921, 923, 21, 924, 925, 926, 927, 928, 930, 22, 931, 933, 934, 935, 936, 937, 938] rfl
set_option maxRecDepth 20000 in
theorem wl_in_30 : ∀ w ∈ wsL_law0_r30, w ∈ lw_t2 := nv_places _ [939, 940, 941, 942, 943, 944, 945, 946, 947, 951, 954, 948, 949, 950, 957, 958, 959, 960, 961, 962, 963, 964, 965, 966] rfl
set_option maxRecDepth 20000 in
theorem wl_in_31 : ∀ w ∈ wsL_law0_r31, w ∈ lw_t2 := nv_places _ [967, 968, 978, 979, 980, 981, 982, 983, 984, 985, 64, 986, 987, 988, 989, 990, 991, 992, 993, 994, 998, 999, 1000, 1001] rfl
set_option maxRecDepth 20000 in
theorem wl_in_32 : ∀ w ∈ wsL_law0_r32, w ∈ lw_t2 := nv_places _ [1002, 1003, 1004, 1005, 1007, 1008, 1010, 23, 1011, 1012, 1013, 1014, 1015, 1017, 24, 1018, 292, 294, 1019, 1021, 25, 1022, 1035, 1037] rfl
set_option maxRecDepth 20000 in
theorem wl_in_33 : ∀ w ∈ wsL_law0_r33, w ∈ lw_t2 := nv_places _ [27, 1038, 1047, 1049, 29, 1050, 1051, 1053, 30, 1054, 1055, 1057, 31, 1058, 1059, 1061, 32, 1062, 1063, 1065, 33, 1066, 1067, 1069] rfl
set_option maxRecDepth 20000 in
theorem wl_in_34 : ∀ w ∈ wsL_law0_r34, w ∈ lw_t2 := nv_places _ [34, 1070, 1071, 1073, 35, 1074, 1075, 1078, 1084, 1085, 1086, 1087, 1089, 1090, 1091, 1092, 1388, 1389, 1390, 1117, 1079, 1080, 1081, 1082] rfl
set_option maxRecDepth 20000 in
theorem wl_in_35 : ∀ w ∈ wsL_law0_r35, w ∈ lw_t2 := nv_places _ [717, 65, 808, 809, 810, 811, 1391, 1392, 1393, 1394, 1395, 1396, 1397, 800, 801, 802, 803, 278, 804, 805, 806, 786, 787, 788] rfl
set_option maxRecDepth 20000 in
theorem wl_in_36 : ∀ w ∈ wsL_law0_r36, w ∈ lw_t2 := nv_places _ [789, 277, 791, 792, 793, 794, 1380, 1381, 1382, 1383, 1384, 1385, 1386, 276, 1161, 1162, 1163, 733, 734, 735, 736, 692, 693, 694] rfl
set_option maxRecDepth 20000 in
theorem wl_in_37 : ∀ w ∈ wsL_law0_r37, w ∈ lw_t2 := nv_places _ [737, 738, 739, 740, 700, 701, 702, 703, 99, 102, 688, 689, 690, 691, 696, 697, 698, 699, 704, 705, 706, 707, 708, 710] rfl
set_option maxRecDepth 20000 in
theorem wl_in_38 : ∀ w ∈ wsL_law0_r38, w ∈ lw_t2 := nv_places _ [16, 711, 197, 712, 713, 714, 715, 766, 767, 768, 769, 770, 772, 17, 773, 601, 602, 603, 604, 605, 606, 607, 608, 611] rfl
set_option maxRecDepth 20000 in
theorem wl_in_39 : ∀ w ∈ wsL_law0_r39, w ∈ lw_t2 := nv_places _ [593, 594, 595, 596, 597, 598, 599, 600, 774, 776, 18, 777, 778, 780, 19, 781, 616, 617, 618, 619, 782, 783, 784, 785] rfl
set_option maxRecDepth 20000 in
theorem wl_in_40 : ∀ w ∈ wsL_law0_r40, w ∈ lw_t2 := nv_places _ [790, 795, 796, 797, 798, 799, 589, 590, 591, 592, 612, 613, 614, 615, 620, 621, 622, 623, 678, 679, 680, 681, 683, 741] rfl
set_option maxRecDepth 20000 in
theorem wl_in_41 : ∀ w ∈ wsL_law0_r41, w ∈ lw_t2 := nv_places _ [742, 743, 744, 745, 746, 62, 747, 748, 749, 750, 865, 866, 867, 868, 845, 66, 841, 842, 843, 844, 861, 862, 863, 864] rfl
set_option maxRecDepth 20000 in
theorem wl_in_42 : ∀ w ∈ wsL_law0_r42, w ∈ lw_t2 := nv_places _ [752, 753, 754, 755, 757, 758, 759, 760, 761, 762, 763, 764, 348, 349, 350, 351, 352, 353, 354, 355, 356, 1097, 1098, 1099] rfl
set_option maxRecDepth 20000 in
theorem wl_in_43 : ∀ w ∈ wsL_law0_r43, w ∈ lw_t2 := nv_places _ [1100] rfl
set_option maxRecDepth 20000 in
theorem wl_in_wsJ40 : ∀ w ∈ wsJ40, w ∈ lw_t2 := nv_places _ [1186, 1188, 1190, 1192] (by decide +kernel)
set_option maxRecDepth 20000 in
theorem wl_in_wsX60 : ∀ w ∈ wsX60, w ∈ lw_t2 := nv_places _ [325, 327, 329, 331, 333, 335, 337, 339, 341, 343, 345] (by decide +kernel)
set_option maxRecDepth 20000 in
theorem wl_in_wsX10 : ∀ w ∈ wsX10, w ∈ lw_t2 := nv_places _ [210, 212, 214, 216, 218, 220, 222, 224, 226, 228, 230, 232] (by decide +kernel)
set_option maxRecDepth 20000 in
theorem wl_in_wsX30 : ∀ w ∈ wsX30, w ∈ lw_t2 := nv_places _ [249, 251, 253] (by decide +kernel)
set_option maxRecDepth 20000 in
theorem wl_in_wsX50 : ∀ w ∈ wsX50, w ∈ lw_t2 := nv_places _ [264, 266] (by decide +kernel)
set_option maxRecDepth 20000 in
theorem wl_in_wsX40 : ∀ w ∈ wsX40, w ∈ lw_t2 := nv_places _ [279, 281] (by decide +kernel)
set_option maxRecDepth 20000 in
theorem wl_in_wsX20 : ∀ w ∈ wsX20, w ∈ lw_t2 := nv_places _ [301, 303, 305, 307, 309, 311] (by decide +kernel)
set_option maxRecDepth 20000 in
theorem wl_in_wsX00 : ∀ w ∈ wsX00, w ∈ lw_t2 := nv_places _ [118, 120, 122, 124, 126, 128, 130, 132, 134, 136] (by decide +kernel)
set_option maxRecDepth 20000 in
theorem wl_in_wsJ00 : ∀ w ∈ wsJ00, w ∈ lw_t2 := nv_places _ [1135, 1137, 1375, 1377] (by decide +kernel)
theorem wsL_law_x0 : ∀ w ∈ (vx_atM "java/lang/ArithmeticException" ["java/lang/RuntimeException", "java/lang/Exception"]).filter goodWord, w ∈ lw_tbl := by decide +kernel
theorem wsL_law_x1 : ∀ w ∈ (vx_atM "java/lang/ArrayIndexOutOfBoundsException" ["java/lang/IndexOutOfBoundsException", "java/lang/RuntimeException", "java/lang/Exception"]).filter goodWord, w ∈ lw_tbl := by decide +kernel
theorem wsL_law_x2 : ∀ w ∈ (vx_atS RX6 172 "java/lang/IllegalArgumentException" ["java/lang/RuntimeException", "java/lang/Exception"]).filter goodWord, w ∈ lw_tbl := by decide +kernel
theorem wsL_law_x3 : ∀ w ∈ (vx_atS RX6 186 "java/lang/IndexOutOfBoundsException" ["java/lang/RuntimeException", "java/lang/Exception"]).filter goodWord, w ∈ lw_tbl := by decide +kernel
theorem wsL_law_x4 : ∀ w ∈ (vx_atS RX6 394 "java/lang/UnsupportedOperationException" ["java/lang/RuntimeException", "java/lang/Exception"]).filter goodWord, w ∈ lw_tbl := by decide +kernel
theorem wsL_law_x5 : ∀ w ∈ (vx_atS RX6 322 "java/lang/IllegalStateException" ["java/lang/RuntimeException", "java/lang/Exception"]).filter goodWord, w ∈ lw_tbl := by decide +kernel
theorem wsL_law_x6 : ∀ w ∈ (nxAt RX6 267 "java/util/NoSuchElementException" 13 rxNSE "java/lang/RuntimeException" ["java/lang/Exception"]).filter goodWord, w ∈ lw_tbl := by decide +kernel
theorem wsL_law_x7 : ∀ w ∈ (vx_atS RX6 353 "java/lang/ArithmeticException" ["java/lang/RuntimeException", "java/lang/Exception"]).filter goodWord, w ∈ lw_tbl := by decide +kernel
theorem goodIn_c {big : List Cond} (CH : List (List Cond)) (hC : ∀ l ∈ CH, ∀ w ∈ l, w ∈ big) (ws : List Cond) (ps : List (Nat × Nat)) (hp : ws = ps.filterMap (fun q => (CH[q.1]?).bind (fun l => l[q.2]?))) (h : ws.all goodWord = true) : GoodIn big ws := by
  intro w hw
  have h1 := List.all_eq_true.mp h w hw
  rw [hp] at hw
  obtain ⟨q, -, hq⟩ := List.mem_filterMap.mp hw
  obtain ⟨l, h2, h3⟩ := Option.bind_eq_some_iff.mp hq
  have hm : l ∈ CH := by first | exact List.mem_of_getElem? h2 | exact List.getElem?_mem h2
  have hn : w ∈ l := by first | exact List.mem_of_getElem? h3 | exact List.getElem?_mem h3
  exact ⟨hC l hm w hn, good_of_word h1⟩
def lCH : List (List Cond) := [wsL_law0_r1, wsL_law0_r2, wsL_law0_r3, wsL_law0_r4, wsL_law0_r5, wsL_law0_r6, wsL_law0_r7, wsL_law0_r8, wsL_law0_r9, wsL_law0_r10, wsL_law0_r11, wsL_law0_r12, wsL_law0_r13, wsL_law0_r14, wsL_law0_r15, wsL_law0_r16, wsL_law0_r17, wsL_law0_r18, wsL_law0_r19, wsL_law0_r20, wsL_law0_r21, wsL_law0_r22, wsL_law0_r23, wsL_law0_r24, wsL_law0_r25, wsL_law0_r26, wsL_law0_r27, wsL_law0_r28, wsL_law0_r29, wsL_law0_r30, wsL_law0_r31, wsL_law0_r32, wsL_law0_r33, wsL_law0_r34, wsL_law0_r35, wsL_law0_r36, wsL_law0_r37, wsL_law0_r38, wsL_law0_r39, wsL_law0_r40, wsL_law0_r41, wsL_law0_r42, wsL_law0_r43, wsJ40, wsX60, wsX10, wsX30, wsX50, wsX40, wsX20, wsX00, wsJ00]
theorem lCH_in : ∀ l ∈ lCH, ∀ w ∈ l, w ∈ lw_t2 := List.forall_mem_cons.mpr ⟨wl_in_1, List.forall_mem_cons.mpr ⟨wl_in_2, List.forall_mem_cons.mpr ⟨wl_in_3, List.forall_mem_cons.mpr ⟨wl_in_4, List.forall_mem_cons.mpr ⟨wl_in_5, List.forall_mem_cons.mpr ⟨wl_in_6, List.forall_mem_cons.mpr ⟨wl_in_7, List.forall_mem_cons.mpr ⟨wl_in_8, List.forall_mem_cons.mpr ⟨wl_in_9, List.forall_mem_cons.mpr ⟨wl_in_10, List.forall_mem_cons.mpr ⟨wl_in_11, List.forall_mem_cons.mpr ⟨wl_in_12, List.forall_mem_cons.mpr ⟨wl_in_13, List.forall_mem_cons.mpr ⟨wl_in_14, List.forall_mem_cons.mpr ⟨wl_in_15, List.forall_mem_cons.mpr ⟨wl_in_16, List.forall_mem_cons.mpr ⟨wl_in_17, List.forall_mem_cons.mpr ⟨wl_in_18, List.forall_mem_cons.mpr ⟨wl_in_19, List.forall_mem_cons.mpr ⟨wl_in_20, List.forall_mem_cons.mpr ⟨wl_in_21, List.forall_mem_cons.mpr ⟨wl_in_22, List.forall_mem_cons.mpr ⟨wl_in_23, List.forall_mem_cons.mpr ⟨wl_in_24, List.forall_mem_cons.mpr ⟨wl_in_25, List.forall_mem_cons.mpr ⟨wl_in_26, List.forall_mem_cons.mpr ⟨wl_in_27, List.forall_mem_cons.mpr ⟨wl_in_28, List.forall_mem_cons.mpr ⟨wl_in_29, List.forall_mem_cons.mpr ⟨wl_in_30, List.forall_mem_cons.mpr ⟨wl_in_31, List.forall_mem_cons.mpr ⟨wl_in_32, List.forall_mem_cons.mpr ⟨wl_in_33, List.forall_mem_cons.mpr ⟨wl_in_34, List.forall_mem_cons.mpr ⟨wl_in_35, List.forall_mem_cons.mpr ⟨wl_in_36, List.forall_mem_cons.mpr ⟨wl_in_37, List.forall_mem_cons.mpr ⟨wl_in_38, List.forall_mem_cons.mpr ⟨wl_in_39, List.forall_mem_cons.mpr ⟨wl_in_40, List.forall_mem_cons.mpr ⟨wl_in_41, List.forall_mem_cons.mpr ⟨wl_in_42, List.forall_mem_cons.mpr ⟨wl_in_43, List.forall_mem_cons.mpr ⟨wl_in_wsJ40, List.forall_mem_cons.mpr ⟨wl_in_wsX60, List.forall_mem_cons.mpr ⟨wl_in_wsX10, List.forall_mem_cons.mpr ⟨wl_in_wsX30, List.forall_mem_cons.mpr ⟨wl_in_wsX50, List.forall_mem_cons.mpr ⟨wl_in_wsX40, List.forall_mem_cons.mpr ⟨wl_in_wsX20, List.forall_mem_cons.mpr ⟨wl_in_wsX00, List.forall_mem_cons.mpr ⟨wl_in_wsJ00, fun _ h => nomatch h⟩⟩⟩⟩⟩⟩⟩⟩⟩⟩⟩⟩⟩⟩⟩⟩⟩⟩⟩⟩⟩⟩⟩⟩⟩⟩⟩⟩⟩⟩⟩⟩⟩⟩⟩⟩⟩⟩⟩⟩⟩⟩⟩⟩⟩⟩⟩⟩⟩⟩⟩⟩
