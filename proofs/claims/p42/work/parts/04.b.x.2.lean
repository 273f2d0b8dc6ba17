set_option maxRecDepth 20000 in
theorem gX2_takeOrder_X2_endOfMatch : GoodIn wsX2_takeOrder (wsV RX2 41 RX2 yX2_endOfMatch wsX2_endOfMatch) := goodIn_app (goodIn_of _ (by decide +kernel)) ggX2_takeOrder_X2_endOfMatch
set_option maxRecDepth 20000 in
theorem ggX2_takeOrder_J0_length_8abf5 : GoodIn wsX2_takeOrder wsJ0_length_8abf5 := goodIn_r _ [22, 23, 24, 25, 26, 21, 27, 28, 29, 146, 147, 148, 149] (by decide +kernel) (by decide +kernel)
set_option maxRecDepth 20000 in
theorem gX2_takeOrder_J0_length_8abf5 : GoodIn wsX2_takeOrder (wsV RX2 45 RJ0 yJ0_length_8abf5 wsJ0_length_8abf5) := goodIn_app (goodIn_of _ (by decide +kernel)) ggX2_takeOrder_J0_length_8abf5
theorem dX2_takeOrder_0 : decode cX2_takeOrder 0 = .ok (.aload_n 0, 1) := by decide +kernel
theorem dX2_takeOrder_1 : decode cX2_takeOrder 1 = .ok (.getfield 23, 3) := by decide +kernel
theorem dX2_takeOrder_4 : decode cX2_takeOrder 4 = .ok (.istore_n 1, 1) := by decide +kernel
theorem dX2_takeOrder_5 : decode cX2_takeOrder 5 = .ok (.iconst 0, 1) := by decide +kernel
theorem dX2_takeOrder_6 : decode cX2_takeOrder 6 = .ok (.istore_n 2, 1) := by decide +kernel
theorem dX2_takeOrder_7 : decode cX2_takeOrder 7 = .ok (.iload_n 2, 1) := by decide +kernel
theorem dX2_takeOrder_8 : decode cX2_takeOrder 8 = .ok (.bipush 9, 2) := by decide +kernel
theorem dX2_takeOrder_10 : decode cX2_takeOrder 10 = .ok (.if_icmp .ge 55, 3) := by decide +kernel
theorem dX2_takeOrder_13 : decode cX2_takeOrder 13 = .ok (.iload_n 2, 1) := by decide +kernel
theorem dX2_takeOrder_14 : decode cX2_takeOrder 14 = .ok (.invokestatic 37, 3) := by decide +kernel
theorem dX2_takeOrder_17 : decode cX2_takeOrder 17 = .ok (.astore_n 3, 1) := by decide +kernel
theorem dX2_takeOrder_18 : decode cX2_takeOrder 18 = .ok (.aload_n 0, 1) := by decide +kernel
theorem dX2_takeOrder_19 : decode cX2_takeOrder 19 = .ok (.aload_n 3, 1) := by decide +kernel
theorem dX2_takeOrder_20 : decode cX2_takeOrder 20 = .ok (.invokevirtual 41, 3) := by decide +kernel
theorem dX2_takeOrder_23 : decode cX2_takeOrder 23 = .ok (.istore 4, 2) := by decide +kernel
theorem dX2_takeOrder_25 : decode cX2_takeOrder 25 = .ok (.iload 4, 2) := by decide +kernel
theorem dX2_takeOrder_27 : decode cX2_takeOrder 27 = .ok (.aload_n 0, 1) := by decide +kernel
theorem dX2_takeOrder_28 : decode cX2_takeOrder 28 = .ok (.getfield 23, 3) := by decide +kernel
theorem dX2_takeOrder_31 : decode cX2_takeOrder 31 = .ok (.aload_n 3, 1) := by decide +kernel
theorem dX2_takeOrder_32 : decode cX2_takeOrder 32 = .ok (.invokevirtual 45, 3) := by decide +kernel
theorem dX2_takeOrder_35 : decode cX2_takeOrder 35 = .ok (.iadd, 1) := by decide +kernel
theorem dX2_takeOrder_36 : decode cX2_takeOrder 36 = .ok (.if_icmp .ne 16, 3) := by decide +kernel
theorem dX2_takeOrder_39 : decode cX2_takeOrder 39 = .ok (.aload_n 0, 1) := by decide +kernel
theorem dX2_takeOrder_40 : decode cX2_takeOrder 40 = .ok (.iload_n 2, 1) := by decide +kernel
theorem dX2_takeOrder_41 : decode cX2_takeOrder 41 = .ok (.putfield 50, 3) := by decide +kernel
theorem dX2_takeOrder_44 : decode cX2_takeOrder 44 = .ok (.aload_n 0, 1) := by decide +kernel
theorem dX2_takeOrder_45 : decode cX2_takeOrder 45 = .ok (.iload 4, 2) := by decide +kernel
theorem dX2_takeOrder_47 : decode cX2_takeOrder 47 = .ok (.putfield 23, 3) := by decide +kernel
theorem dX2_takeOrder_50 : decode cX2_takeOrder 50 = .ok (.iconst 1, 1) := by decide +kernel
theorem dX2_takeOrder_51 : decode cX2_takeOrder 51 = .ok (.ireturn, 1) := by decide +kernel
theorem dX2_takeOrder_52 : decode cX2_takeOrder 52 = .ok (.iload_n 1, 1) := by decide +kernel
theorem dX2_takeOrder_53 : decode cX2_takeOrder 53 = .ok (.iload 4, 2) := by decide +kernel
theorem dX2_takeOrder_55 : decode cX2_takeOrder 55 = .ok (.invokestatic 53, 3) := by decide +kernel
theorem dX2_takeOrder_58 : decode cX2_takeOrder 58 = .ok (.istore_n 1, 1) := by decide +kernel
theorem dX2_takeOrder_59 : decode cX2_takeOrder 59 = .ok (.iinc 2 1, 3) := by decide +kernel
theorem dX2_takeOrder_62 : decode cX2_takeOrder 62 = .ok (.goto (-55), 3) := by decide +kernel
theorem dX2_takeOrder_65 : decode cX2_takeOrder 65 = .ok (.aload_n 0, 1) := by decide +kernel
theorem dX2_takeOrder_66 : decode cX2_takeOrder 66 = .ok (.iload_n 1, 1) := by decide +kernel
theorem dX2_takeOrder_67 : decode cX2_takeOrder 67 = .ok (.putfield 23, 3) := by decide +kernel
theorem dX2_takeOrder_70 : decode cX2_takeOrder 70 = .ok (.iconst 0, 1) := by decide +kernel
theorem dX2_takeOrder_71 : decode cX2_takeOrder 71 = .ok (.ireturn, 1) := by decide +kernel
set_option maxRecDepth 20000 in
theorem ggX2_endOfMatch_J0_length_8abf5 : GoodIn wsX2_endOfMatch wsJ0_length_8abf5 := goodIn_r _ [9, 10, 11, 12, 13, 8, 14, 15, 16, 137, 138, 139, 140] (by decide +kernel) (by decide +kernel)
set_option maxRecDepth 20000 in
theorem gX2_endOfMatch_J0_length_8abf5 : GoodIn wsX2_endOfMatch (wsV RX2 45 RJ0 yJ0_length_8abf5 wsJ0_length_8abf5) := goodIn_app (goodIn_of _ (by decide +kernel)) ggX2_endOfMatch_J0_length_8abf5
set_option maxRecDepth 20000 in
theorem ggX2_endOfMatch_J0_charAt_5068e : GoodIn wsX2_endOfMatch wsJ0_charAt_5068e := goodIn_r _ [20, 10, 21, 22, 23, 8, 24, 15, 16, 25, 26, 27, 28, 29, 30, 31, 32, 33, 34, 35, 36, 37, 38, 39, 40, 41, 42, 43, 44, 45, 46, 47, 48, 49, 50, 51, 52, 53, 137, 138, 139, 140] (by decide +kernel) (by decide +kernel)
set_option maxRecDepth 20000 in
theorem gX2_endOfMatch_J0_charAt_5068e : GoodIn wsX2_endOfMatch (wsV RX2 62 RJ0 yJ0_charAt_5068e wsJ0_charAt_5068e) := goodIn_app (goodIn_of _ (by decide +kernel)) ggX2_endOfMatch_J0_charAt_5068e
set_option maxRecDepth 20000 in
theorem ggX2_endOfMatch_X2_takes : GoodIn wsX2_endOfMatch wsX2_takes := goodIn_ca (goodIn_r _ [58, 59, 60, 57, 61, 62, 63, 64, 65, 1, 66, 67, 68, 69, 70, 71, 72, 8, 73, 74, 75, 76, 77, 10, 21, 22, 23, 24, 15, 16, 78, 6, 7, 9, 11, 12, 13, 14, 79, 80, 27, 81, 82, 83, 84, 85, 86, 87, 88, 89, 90, 91, 92, 93, 94, 95, 96, 39, 97, 98, 99, 100, 101, 102, 103, 104, 105, 106, 44, 45, 46, 107, 108, 109, 32, 110, 111, 35, 112, 113, 114, 115, 48, 49, 50, 51, 52, 53, 116, 117, 118, 119, 120, 121, 122, 123, 124, 125, 126, 127, 128, 129, 130, 131, 132, 133, 134, 135, 136, 137, 138, 139, 140] (by decide +kernel) (by decide +kernel)) (goodIn_sub (fun _ h => List.mem_cons_of_mem _ (List.mem_append_right _ h)) (by decide +kernel))
set_option maxRecDepth 20000 in
theorem gX2_endOfMatch_X2_takes : GoodIn wsX2_endOfMatch (wsV RX2 66 RX2 yX2_takes wsX2_takes) := goodIn_app (goodIn_of _ (by decide +kernel)) ggX2_endOfMatch_X2_takes
theorem dX2_endOfMatch_0 : decode cX2_endOfMatch 0 = .ok (.aload_n 0, 1) := by decide +kernel
theorem dX2_endOfMatch_1 : decode cX2_endOfMatch 1 = .ok (.iconst 0, 1) := by decide +kernel
theorem dX2_endOfMatch_2 : decode cX2_endOfMatch 2 = .ok (.putfield 59, 3) := by decide +kernel
theorem dX2_endOfMatch_5 : decode cX2_endOfMatch 5 = .ok (.iconst 0, 1) := by decide +kernel
theorem dX2_endOfMatch_6 : decode cX2_endOfMatch 6 = .ok (.istore_n 2, 1) := by decide +kernel
theorem dX2_endOfMatch_7 : decode cX2_endOfMatch 7 = .ok (.iload_n 2, 1) := by decide +kernel
theorem dX2_endOfMatch_8 : decode cX2_endOfMatch 8 = .ok (.aload_n 1, 1) := by decide +kernel
theorem dX2_endOfMatch_9 : decode cX2_endOfMatch 9 = .ok (.invokevirtual 45, 3) := by decide +kernel
theorem dX2_endOfMatch_12 : decode cX2_endOfMatch 12 = .ok (.if_icmp .ge 44, 3) := by decide +kernel
theorem dX2_endOfMatch_15 : decode cX2_endOfMatch 15 = .ok (.aload_n 0, 1) := by decide +kernel
theorem dX2_endOfMatch_16 : decode cX2_endOfMatch 16 = .ok (.getfield 23, 3) := by decide +kernel
theorem dX2_endOfMatch_19 : decode cX2_endOfMatch 19 = .ok (.iload_n 2, 1) := by decide +kernel
theorem dX2_endOfMatch_20 : decode cX2_endOfMatch 20 = .ok (.iadd, 1) := by decide +kernel
theorem dX2_endOfMatch_21 : decode cX2_endOfMatch 21 = .ok (.istore_n 3, 1) := by decide +kernel
theorem dX2_endOfMatch_22 : decode cX2_endOfMatch 22 = .ok (.iload_n 3, 1) := by decide +kernel
theorem dX2_endOfMatch_23 : decode cX2_endOfMatch 23 = .ok (.aload_n 0, 1) := by decide +kernel
theorem dX2_endOfMatch_24 : decode cX2_endOfMatch 24 = .ok (.getfield 19, 3) := by decide +kernel
theorem dX2_endOfMatch_27 : decode cX2_endOfMatch 27 = .ok (.if_icmp .ge 21, 3) := by decide +kernel
theorem dX2_endOfMatch_30 : decode cX2_endOfMatch 30 = .ok (.aload_n 0, 1) := by decide +kernel
theorem dX2_endOfMatch_31 : decode cX2_endOfMatch 31 = .ok (.aload_n 1, 1) := by decide +kernel
theorem dX2_endOfMatch_32 : decode cX2_endOfMatch 32 = .ok (.iload_n 2, 1) := by decide +kernel
theorem dX2_endOfMatch_33 : decode cX2_endOfMatch 33 = .ok (.invokevirtual 62, 3) := by decide +kernel
theorem dX2_endOfMatch_36 : decode cX2_endOfMatch 36 = .ok (.aload_n 0, 1) := by decide +kernel
theorem dX2_endOfMatch_37 : decode cX2_endOfMatch 37 = .ok (.getfield 15, 3) := by decide +kernel
theorem dX2_endOfMatch_40 : decode cX2_endOfMatch 40 = .ok (.iload_n 3, 1) := by decide +kernel
theorem dX2_endOfMatch_41 : decode cX2_endOfMatch 41 = .ok (.caload, 1) := by decide +kernel
theorem dX2_endOfMatch_42 : decode cX2_endOfMatch 42 = .ok (.invokevirtual 66, 3) := by decide +kernel
theorem dX2_endOfMatch_45 : decode cX2_endOfMatch 45 = .ok (.ifCond .ne 5, 3) := by decide +kernel
theorem dX2_endOfMatch_48 : decode cX2_endOfMatch 48 = .ok (.iload_n 3, 1) := by decide +kernel
theorem dX2_endOfMatch_49 : decode cX2_endOfMatch 49 = .ok (.ireturn, 1) := by decide +kernel
theorem dX2_endOfMatch_50 : decode cX2_endOfMatch 50 = .ok (.iinc 2 1, 3) := by decide +kernel
theorem dX2_endOfMatch_53 : decode cX2_endOfMatch 53 = .ok (.goto (-46), 3) := by decide +kernel
theorem dX2_endOfMatch_56 : decode cX2_endOfMatch 56 = .ok (.aload_n 0, 1) := by decide +kernel
theorem dX2_endOfMatch_57 : decode cX2_endOfMatch 57 = .ok (.getfield 23, 3) := by decide +kernel
theorem dX2_endOfMatch_60 : decode cX2_endOfMatch 60 = .ok (.aload_n 1, 1) := by decide +kernel
theorem dX2_endOfMatch_61 : decode cX2_endOfMatch 61 = .ok (.invokevirtual 45, 3) := by decide +kernel
theorem dX2_endOfMatch_64 : decode cX2_endOfMatch 64 = .ok (.iadd, 1) := by decide +kernel
theorem dX2_endOfMatch_65 : decode cX2_endOfMatch 65 = .ok (.ireturn, 1) := by decide +kernel
theorem dX2_patternOf_0 : decode cX2_patternOf 0 = .ok (.iload_n 0, 1) := by decide +kernel
theorem dX2_patternOf_1 : decode cX2_patternOf 1 = .ok (.tableswitch 71 0 7 #[47, 50, 53, 56, 59, 62, 65, 68], 47) := by decide +kernel
theorem dX2_patternOf_48 : decode cX2_patternOf 48 = .ok (.ldc 70, 2) := by decide +kernel
theorem dX2_patternOf_50 : decode cX2_patternOf 50 = .ok (.areturn, 1) := by decide +kernel
theorem dX2_patternOf_51 : decode cX2_patternOf 51 = .ok (.ldc 72, 2) := by decide +kernel
theorem dX2_patternOf_53 : decode cX2_patternOf 53 = .ok (.areturn, 1) := by decide +kernel
theorem dX2_patternOf_54 : decode cX2_patternOf 54 = .ok (.ldc 74, 2) := by decide +kernel
theorem dX2_patternOf_56 : decode cX2_patternOf 56 = .ok (.areturn, 1) := by decide +kernel
theorem dX2_patternOf_57 : decode cX2_patternOf 57 = .ok (.ldc 76, 2) := by decide +kernel
theorem dX2_patternOf_59 : decode cX2_patternOf 59 = .ok (.areturn, 1) := by decide +kernel
theorem dX2_patternOf_60 : decode cX2_patternOf 60 = .ok (.ldc 78, 2) := by decide +kernel
theorem dX2_patternOf_62 : decode cX2_patternOf 62 = .ok (.areturn, 1) := by decide +kernel
theorem dX2_patternOf_63 : decode cX2_patternOf 63 = .ok (.ldc 80, 2) := by decide +kernel
theorem dX2_patternOf_65 : decode cX2_patternOf 65 = .ok (.areturn, 1) := by decide +kernel
theorem dX2_patternOf_66 : decode cX2_patternOf 66 = .ok (.ldc 82, 2) := by decide +kernel
theorem dX2_patternOf_68 : decode cX2_patternOf 68 = .ok (.areturn, 1) := by decide +kernel
theorem dX2_patternOf_69 : decode cX2_patternOf 69 = .ok (.ldc 84, 2) := by decide +kernel
theorem dX2_patternOf_71 : decode cX2_patternOf 71 = .ok (.areturn, 1) := by decide +kernel
theorem dX2_patternOf_72 : decode cX2_patternOf 72 = .ok (.ldc 86, 2) := by decide +kernel
theorem dX2_patternOf_74 : decode cX2_patternOf 74 = .ok (.areturn, 1) := by decide +kernel
set_option maxRecDepth 20000 in
theorem ggX2_takes_X2_numberIn : GoodIn wsX2_takes wsX2_numberIn := goodIn_r _ [4] (by decide +kernel) (by decide +kernel)
set_option maxRecDepth 20000 in
theorem gX2_takes_X2_numberIn : GoodIn wsX2_takes (va_wsS RX2 88 yX2_numberIn wsX2_numberIn) := goodIn_app (goodIn_of _ (by decide +kernel)) ggX2_takes_X2_numberIn
set_option maxRecDepth 20000 in
theorem ggX2_takes_X2_keepValue : GoodIn wsX2_takes wsX2_keepValue := goodIn_ca (goodIn_r _ [8, 9, 10, 103, 104, 105, 106, 107, 108] (by decide +kernel) (by decide +kernel)) (goodIn_sub (fun _ h => List.mem_cons_of_mem _ (List.mem_append_right _ h)) (by decide +kernel))
set_option maxRecDepth 20000 in
theorem gX2_takes_X2_keepValue : GoodIn wsX2_takes (wsV RX2 92 RX2 yX2_keepValue wsX2_keepValue) := goodIn_app (goodIn_of _ (by decide +kernel)) ggX2_takes_X2_keepValue
set_option maxRecDepth 20000 in
theorem ggX2_takes_X2_letterIn : GoodIn wsX2_takes wsX2_letterIn := goodIn_r _ [13, 14, 15, 16, 17, 18, 19, 20, 21, 22, 23, 24, 25, 26, 27, 28, 29, 30, 31, 32, 33, 34, 35, 36, 37, 38, 39, 40, 41, 42, 43, 44, 45, 46, 47, 48, 49, 50, 51, 52, 53, 54, 55, 56, 57, 58, 59, 60, 61, 62, 63, 64, 65, 66, 67, 68, 69, 70, 71, 72, 73, 74, 75, 76, 77, 78, 79, 80, 81, 82, 83, 84, 85, 86, 87, 88, 89, 90, 91, 92, 93, 94, 95, 96, 97, 98, 99, 100, 101, 102, 109, 110, 111, 112] (by decide +kernel) (by decide +kernel)
set_option maxRecDepth 20000 in
theorem gX2_takes_X2_letterIn : GoodIn wsX2_takes (va_wsS RX2 98 yX2_letterIn wsX2_letterIn) := goodIn_app (goodIn_of _ (by decide +kernel)) ggX2_takes_X2_letterIn
theorem dX2_takes_0 : decode cX2_takes 0 = .ok (.iload_n 1, 1) := by decide +kernel
theorem dX2_takes_1 : decode cX2_takes 1 = .ok (.lookupswitch 141 #[(35, 59), (67, 117), (69, 128), (71, 95), (78, 106), (84, 72)], 59) := by decide +kernel
theorem dX2_takes_60 : decode cX2_takes 60 = .ok (.aload_n 0, 1) := by decide +kernel
theorem dX2_takes_61 : decode cX2_takes 61 = .ok (.bipush 48, 2) := by decide +kernel
theorem dX2_takes_63 : decode cX2_takes 63 = .ok (.bipush 57, 2) := by decide +kernel
theorem dX2_takes_65 : decode cX2_takes 65 = .ok (.iload_n 2, 1) := by decide +kernel
theorem dX2_takes_66 : decode cX2_takes 66 = .ok (.invokestatic 88, 3) := by decide +kernel
theorem dX2_takes_69 : decode cX2_takes 69 = .ok (.invokevirtual 92, 3) := by decide +kernel
theorem dX2_takes_72 : decode cX2_takes 72 = .ok (.ireturn, 1) := by decide +kernel
theorem dX2_takes_73 : decode cX2_takes 73 = .ok (.aload_n 0, 1) := by decide +kernel
theorem dX2_takes_74 : decode cX2_takes 74 = .ok (.iload_n 2, 1) := by decide +kernel
theorem dX2_takes_75 : decode cX2_takes 75 = .ok (.bipush 45, 2) := by decide +kernel
theorem dX2_takes_77 : decode cX2_takes 77 = .ok (.if_icmp .ne 7, 3) := by decide +kernel
theorem dX2_takes_80 : decode cX2_takes 80 = .ok (.iconst (-1), 1) := by decide +kernel
theorem dX2_takes_81 : decode cX2_takes 81 = .ok (.goto 11, 3) := by decide +kernel
theorem dX2_takes_84 : decode cX2_takes 84 = .ok (.bipush 48, 2) := by decide +kernel
theorem dX2_takes_86 : decode cX2_takes 86 = .ok (.bipush 57, 2) := by decide +kernel
theorem dX2_takes_88 : decode cX2_takes 88 = .ok (.iload_n 2, 1) := by decide +kernel
theorem dX2_takes_89 : decode cX2_takes 89 = .ok (.invokestatic 88, 3) := by decide +kernel
theorem dX2_takes_92 : decode cX2_takes 92 = .ok (.invokevirtual 92, 3) := by decide +kernel
theorem dX2_takes_95 : decode cX2_takes 95 = .ok (.ireturn, 1) := by decide +kernel
theorem dX2_takes_96 : decode cX2_takes 96 = .ok (.aload_n 0, 1) := by decide +kernel
theorem dX2_takes_97 : decode cX2_takes 97 = .ok (.ldc 96, 2) := by decide +kernel
theorem dX2_takes_99 : decode cX2_takes 99 = .ok (.iload_n 2, 1) := by decide +kernel
theorem dX2_takes_100 : decode cX2_takes 100 = .ok (.invokestatic 98, 3) := by decide +kernel
theorem dX2_takes_103 : decode cX2_takes 103 = .ok (.invokevirtual 92, 3) := by decide +kernel
theorem dX2_takes_106 : decode cX2_takes 106 = .ok (.ireturn, 1) := by decide +kernel
theorem dX2_takes_107 : decode cX2_takes 107 = .ok (.aload_n 0, 1) := by decide +kernel
theorem dX2_takes_108 : decode cX2_takes 108 = .ok (.ldc 102, 2) := by decide +kernel
theorem dX2_takes_110 : decode cX2_takes 110 = .ok (.iload_n 2, 1) := by decide +kernel
theorem dX2_takes_111 : decode cX2_takes 111 = .ok (.invokestatic 98, 3) := by decide +kernel
theorem dX2_takes_114 : decode cX2_takes 114 = .ok (.invokevirtual 92, 3) := by decide +kernel
theorem dX2_takes_117 : decode cX2_takes 117 = .ok (.ireturn, 1) := by decide +kernel
theorem dX2_takes_118 : decode cX2_takes 118 = .ok (.aload_n 0, 1) := by decide +kernel
theorem dX2_takes_119 : decode cX2_takes 119 = .ok (.ldc 104, 2) := by decide +kernel
theorem dX2_takes_121 : decode cX2_takes 121 = .ok (.iload_n 2, 1) := by decide +kernel
theorem dX2_takes_122 : decode cX2_takes 122 = .ok (.invokestatic 98, 3) := by decide +kernel
theorem dX2_takes_125 : decode cX2_takes 125 = .ok (.invokevirtual 92, 3) := by decide +kernel
theorem dX2_takes_128 : decode cX2_takes 128 = .ok (.ireturn, 1) := by decide +kernel
theorem dX2_takes_129 : decode cX2_takes 129 = .ok (.aload_n 0, 1) := by decide +kernel
theorem dX2_takes_130 : decode cX2_takes 130 = .ok (.bipush 97, 2) := by decide +kernel
theorem dX2_takes_132 : decode cX2_takes 132 = .ok (.bipush 122, 2) := by decide +kernel
theorem dX2_takes_134 : decode cX2_takes 134 = .ok (.iload_n 2, 1) := by decide +kernel
theorem dX2_takes_135 : decode cX2_takes 135 = .ok (.invokestatic 88, 3) := by decide +kernel
theorem dX2_takes_138 : decode cX2_takes 138 = .ok (.invokevirtual 92, 3) := by decide +kernel
theorem dX2_takes_141 : decode cX2_takes 141 = .ok (.ireturn, 1) := by decide +kernel
theorem dX2_takes_142 : decode cX2_takes 142 = .ok (.iload_n 1, 1) := by decide +kernel
theorem dX2_takes_143 : decode cX2_takes 143 = .ok (.iload_n 2, 1) := by decide +kernel
theorem dX2_takes_144 : decode cX2_takes 144 = .ok (.if_icmp .ne 7, 3) := by decide +kernel
theorem dX2_takes_147 : decode cX2_takes 147 = .ok (.iconst 1, 1) := by decide +kernel
theorem dX2_takes_148 : decode cX2_takes 148 = .ok (.goto 4, 3) := by decide +kernel
theorem dX2_takes_151 : decode cX2_takes 151 = .ok (.iconst 0, 1) := by decide +kernel
theorem dX2_takes_152 : decode cX2_takes 152 = .ok (.ireturn, 1) := by decide +kernel
theorem dX2_numberIn_0 : decode cX2_numberIn 0 = .ok (.iload_n 2, 1) := by decide +kernel
theorem dX2_numberIn_1 : decode cX2_numberIn 1 = .ok (.iload_n 0, 1) := by decide +kernel
theorem dX2_numberIn_2 : decode cX2_numberIn 2 = .ok (.if_icmp .lt 14, 3) := by decide +kernel
theorem dX2_numberIn_5 : decode cX2_numberIn 5 = .ok (.iload_n 2, 1) := by decide +kernel
theorem dX2_numberIn_6 : decode cX2_numberIn 6 = .ok (.iload_n 1, 1) := by decide +kernel
theorem dX2_numberIn_7 : decode cX2_numberIn 7 = .ok (.if_icmp .gt 9, 3) := by decide +kernel
theorem dX2_numberIn_10 : decode cX2_numberIn 10 = .ok (.iload_n 2, 1) := by decide +kernel
theorem dX2_numberIn_11 : decode cX2_numberIn 11 = .ok (.iload_n 0, 1) := by decide +kernel
theorem dX2_numberIn_12 : decode cX2_numberIn 12 = .ok (.isub, 1) := by decide +kernel
theorem dX2_numberIn_13 : decode cX2_numberIn 13 = .ok (.goto 5, 3) := by decide +kernel
theorem dX2_numberIn_16 : decode cX2_numberIn 16 = .ok (.bipush (-2), 2) := by decide +kernel
theorem dX2_numberIn_18 : decode cX2_numberIn 18 = .ok (.ireturn, 1) := by decide +kernel
set_option maxRecDepth 20000 in
theorem ggX2_letterIn_J0_indexOf_0f7a4 : GoodIn wsX2_letterIn wsJ0_indexOf_0f7a4 := goodIn_r _ [5, 6, 7, 8, 4, 9, 10, 11, 12, 13, 14, 15, 16, 17, 18, 19, 20, 21, 22, 23, 24, 25, 26, 27, 28, 29, 30, 31, 32, 33, 34, 35, 36, 37, 38, 39, 40, 41, 42, 43, 44, 45, 46, 47, 48, 49, 50, 51, 52, 53, 54, 55, 56, 57, 58, 59, 60, 61, 62, 63, 64, 65, 66, 67, 68, 69, 70, 71, 72, 73, 74, 75, 76, 77, 78, 79, 80, 81, 82, 83, 84, 85, 86, 87, 88, 89, 90, 91, 92, 93] (by decide +kernel) (by decide +kernel)
set_option maxRecDepth 20000 in
theorem gX2_letterIn_J0_indexOf_0f7a4 : GoodIn wsX2_letterIn (wsV RX2 106 RJ0 yJ0_indexOf_0f7a4 wsJ0_indexOf_0f7a4) := goodIn_app (goodIn_of _ (by decide +kernel)) ggX2_letterIn_J0_indexOf_0f7a4
theorem dX2_letterIn_0 : decode cX2_letterIn 0 = .ok (.aload_n 0, 1) := by decide +kernel
theorem dX2_letterIn_1 : decode cX2_letterIn 1 = .ok (.iload_n 1, 1) := by decide +kernel
theorem dX2_letterIn_2 : decode cX2_letterIn 2 = .ok (.invokevirtual 106, 3) := by decide +kernel
theorem dX2_letterIn_5 : decode cX2_letterIn 5 = .ok (.istore_n 2, 1) := by decide +kernel
theorem dX2_letterIn_6 : decode cX2_letterIn 6 = .ok (.iload_n 2, 1) := by decide +kernel
theorem dX2_letterIn_7 : decode cX2_letterIn 7 = .ok (.ifCond .ge 8, 3) := by decide +kernel
theorem dX2_letterIn_10 : decode cX2_letterIn 10 = .ok (.bipush (-2), 2) := by decide +kernel
theorem dX2_letterIn_12 : decode cX2_letterIn 12 = .ok (.goto 4, 3) := by decide +kernel
theorem dX2_letterIn_15 : decode cX2_letterIn 15 = .ok (.iload_n 2, 1) := by decide +kernel
theorem dX2_letterIn_16 : decode cX2_letterIn 16 = .ok (.ireturn, 1) := by decide +kernel
theorem dX2_keepValue_0 : decode cX2_keepValue 0 = .ok (.iload_n 1, 1) := by decide +kernel
theorem dX2_keepValue_1 : decode cX2_keepValue 1 = .ok (.bipush (-2), 2) := by decide +kernel
theorem dX2_keepValue_3 : decode cX2_keepValue 3 = .ok (.if_icmp .eq 15, 3) := by decide +kernel
theorem dX2_keepValue_6 : decode cX2_keepValue 6 = .ok (.aload_n 0, 1) := by decide +kernel
theorem dX2_keepValue_7 : decode cX2_keepValue 7 = .ok (.getfield 59, 3) := by decide +kernel
theorem dX2_keepValue_10 : decode cX2_keepValue 10 = .ok (.aload_n 0, 1) := by decide +kernel
theorem dX2_keepValue_11 : decode cX2_keepValue 11 = .ok (.getfield 9, 3) := by decide +kernel
theorem dX2_keepValue_14 : decode cX2_keepValue 14 = .ok (.arraylength, 1) := by decide +kernel
theorem dX2_keepValue_15 : decode cX2_keepValue 15 = .ok (.if_icmp .lt 5, 3) := by decide +kernel
theorem dX2_keepValue_18 : decode cX2_keepValue 18 = .ok (.iconst 0, 1) := by decide +kernel
theorem dX2_keepValue_19 : decode cX2_keepValue 19 = .ok (.ireturn, 1) := by decide +kernel
theorem dX2_keepValue_20 : decode cX2_keepValue 20 = .ok (.aload_n 0, 1) := by decide +kernel
theorem dX2_keepValue_21 : decode cX2_keepValue 21 = .ok (.getfield 9, 3) := by decide +kernel
theorem dX2_keepValue_24 : decode cX2_keepValue 24 = .ok (.aload_n 0, 1) := by decide +kernel
theorem dX2_keepValue_25 : decode cX2_keepValue 25 = .ok (.getfield 59, 3) := by decide +kernel
theorem dX2_keepValue_28 : decode cX2_keepValue 28 = .ok (.iload_n 1, 1) := by decide +kernel
theorem dX2_keepValue_29 : decode cX2_keepValue 29 = .ok (.iastore, 1) := by decide +kernel
theorem dX2_keepValue_30 : decode cX2_keepValue 30 = .ok (.aload_n 0, 1) := by decide +kernel
theorem dX2_keepValue_31 : decode cX2_keepValue 31 = .ok (.dup, 1) := by decide +kernel
theorem dX2_keepValue_32 : decode cX2_keepValue 32 = .ok (.getfield 59, 3) := by decide +kernel
theorem dX2_keepValue_35 : decode cX2_keepValue 35 = .ok (.iconst 1, 1) := by decide +kernel
theorem dX2_keepValue_36 : decode cX2_keepValue 36 = .ok (.iadd, 1) := by decide +kernel
theorem dX2_keepValue_37 : decode cX2_keepValue 37 = .ok (.putfield 59, 3) := by decide +kernel
theorem dX2_keepValue_40 : decode cX2_keepValue 40 = .ok (.iconst 1, 1) := by decide +kernel
theorem dX2_keepValue_41 : decode cX2_keepValue 41 = .ok (.ireturn, 1) := by decide +kernel
set_option maxRecDepth 20000 in
theorem ggX3_init_X1_init : GoodIn wsX3_init wsX1_init := goodIn_ca (goodIn_r _ [12, 13, 2, 3, 14, 15, 16, 17, 18, 19, 20, 21, 22, 23, 24, 25, 26, 27, 28, 29, 7, 30, 31, 32, 33, 34, 35, 36, 37, 38, 39, 40, 41, 42, 43, 44, 45, 46, 47, 48, 49, 50, 51, 52, 53, 54, 55, 56, 57, 58, 59, 60, 61, 62, 63, 64, 65, 66, 67, 68, 69, 70, 71, 72, 73, 74, 75, 76, 77, 78, 79, 80, 81, 85, 86, 87, 88, 89, 90, 91, 92, 93, 94, 95, 96, 97, 98, 99, 100, 101, 102, 103, 104, 105, 106, 107, 108, 109, 110] (by decide +kernel) (by decide +kernel)) (goodIn_sub (fun _ h => List.mem_cons_of_mem _ (List.mem_append_right _ h)) (by decide +kernel))
set_option maxRecDepth 20000 in
theorem gX3_init_X1_init : GoodIn wsX3_init (wsX1_init) := ggX3_init_X1_init
theorem dX3_init_0 : decode cX3_init 0 = .ok (.aload_n 0, 1) := by decide +kernel
theorem dX3_init_1 : decode cX3_init 1 = .ok (.invokespecial 3, 3) := by decide +kernel
theorem dX3_init_4 : decode cX3_init 4 = .ok (.aload_n 0, 1) := by decide +kernel
theorem dX3_init_5 : decode cX3_init 5 = .ok (.bipush 9, 2) := by decide +kernel
theorem dX3_init_7 : decode cX3_init 7 = .ok (.anewarray 9, 3) := by decide +kernel
theorem dX3_init_10 : decode cX3_init 10 = .ok (.putfield 11, 3) := by decide +kernel
theorem dX3_init_13 : decode cX3_init 13 = .ok (.iconst 0, 1) := by decide +kernel
theorem dX3_init_14 : decode cX3_init 14 = .ok (.istore_n 1, 1) := by decide +kernel
theorem dX3_init_15 : decode cX3_init 15 = .ok (.iload_n 1, 1) := by decide +kernel
theorem dX3_init_16 : decode cX3_init 16 = .ok (.aload_n 0, 1) := by decide +kernel
theorem dX3_init_17 : decode cX3_init 17 = .ok (.getfield 11, 3) := by decide +kernel
theorem dX3_init_20 : decode cX3_init 20 = .ok (.arraylength, 1) := by decide +kernel
theorem dX3_init_21 : decode cX3_init 21 = .ok (.if_icmp .ge 22, 3) := by decide +kernel
theorem dX3_init_24 : decode cX3_init 24 = .ok (.aload_n 0, 1) := by decide +kernel
theorem dX3_init_25 : decode cX3_init 25 = .ok (.getfield 11, 3) := by decide +kernel
theorem dX3_init_28 : decode cX3_init 28 = .ok (.iload_n 1, 1) := by decide +kernel
theorem dX3_init_29 : decode cX3_init 29 = .ok (.new 9, 3) := by decide +kernel
theorem dX3_init_32 : decode cX3_init 32 = .ok (.dup, 1) := by decide +kernel
theorem dX3_init_33 : decode cX3_init 33 = .ok (.invokespecial 17, 3) := by decide +kernel
theorem dX3_init_36 : decode cX3_init 36 = .ok (.aastore, 1) := by decide +kernel
theorem dX3_init_37 : decode cX3_init 37 = .ok (.iinc 1 1, 3) := by decide +kernel
theorem dX3_init_40 : decode cX3_init 40 = .ok (.goto (-25), 3) := by decide +kernel
theorem dX3_init_43 : decode cX3_init 43 = .ok (.aload_n 0, 1) := by decide +kernel
theorem dX3_init_44 : decode cX3_init 44 = .ok (.iconst 0, 1) := by decide +kernel
theorem dX3_init_45 : decode cX3_init 45 = .ok (.putfield 18, 3) := by decide +kernel
theorem dX3_init_48 : decode cX3_init 48 = .ok (.aload_n 0, 1) := by decide +kernel
theorem dX3_init_49 : decode cX3_init 49 = .ok (.iconst 0, 1) := by decide +kernel
theorem dX3_init_50 : decode cX3_init 50 = .ok (.putfield 22, 3) := by decide +kernel
theorem dX3_init_53 : decode cX3_init 53 = .ok (.return_, 1) := by decide +kernel
theorem dX3_forgetAll_0 : decode cX3_forgetAll 0 = .ok (.aload_n 0, 1) := by decide +kernel
theorem dX3_forgetAll_1 : decode cX3_forgetAll 1 = .ok (.iconst 0, 1) := by decide +kernel
theorem dX3_forgetAll_2 : decode cX3_forgetAll 2 = .ok (.putfield 22, 3) := by decide +kernel
theorem dX3_forgetAll_5 : decode cX3_forgetAll 5 = .ok (.return_, 1) := by decide +kernel
set_option maxRecDepth 20000 in
theorem ggX3_stage_X3_staged : GoodIn wsX3_stage wsX3_staged := goodIn_r _ [5, 6, 7, 8, 9, 10, 11, 12, 49, 50, 51] (by decide +kernel) (by decide +kernel)
set_option maxRecDepth 20000 in
theorem gX3_stage_X3_staged : GoodIn wsX3_stage (wsV RX3 25 RX3 yX3_staged wsX3_staged) := goodIn_app (goodIn_of _ (by decide +kernel)) ggX3_stage_X3_staged
set_option maxRecDepth 20000 in
theorem ggX3_stage_X1_copyFrom : GoodIn wsX3_stage wsX1_copyFrom := goodIn_r _ [17, 18, 19, 20, 21, 22, 23, 24, 25, 26, 27, 28, 29, 30, 31, 32, 33, 34, 35, 36, 37, 38, 39, 40, 41, 42, 43, 44, 45, 46, 47, 48, 52, 53, 54, 55, 56, 57, 58, 59, 60, 61, 62, 63, 64, 65, 66, 67, 68, 69, 70, 71, 72, 73] (by decide +kernel) (by decide +kernel)
set_option maxRecDepth 20000 in
theorem gX3_stage_X1_copyFrom : GoodIn wsX3_stage (wsV RX3 29 RX1 yX1_copyFrom wsX1_copyFrom) := goodIn_app (goodIn_of _ (by decide +kernel)) ggX3_stage_X1_copyFrom
theorem dX3_stage_0 : decode cX3_stage 0 = .ok (.aload_n 0, 1) := by decide +kernel
theorem dX3_stage_1 : decode cX3_stage 1 = .ok (.invokevirtual 25, 3) := by decide +kernel
theorem dX3_stage_4 : decode cX3_stage 4 = .ok (.aload_n 1, 1) := by decide +kernel
theorem dX3_stage_5 : decode cX3_stage 5 = .ok (.invokevirtual 29, 3) := by decide +kernel
theorem dX3_stage_8 : decode cX3_stage 8 = .ok (.return_, 1) := by decide +kernel
set_option maxRecDepth 20000 in
theorem ggX3_staged_J9_floorMod_7cf53 : GoodIn wsX3_staged wsJ9_floorMod_7cf53 := goodIn_r _ [7] (by decide +kernel) (by decide +kernel)
set_option maxRecDepth 20000 in
theorem gX3_staged_J9_floorMod_7cf53 : GoodIn wsX3_staged (va_wsS RX3 33 yJ9_floorMod_7cf53 wsJ9_floorMod_7cf53) := goodIn_app (goodIn_of _ (by decide +kernel)) ggX3_staged_J9_floorMod_7cf53
theorem dX3_staged_0 : decode cX3_staged 0 = .ok (.aload_n 0, 1) := by decide +kernel
theorem dX3_staged_1 : decode cX3_staged 1 = .ok (.getfield 11, 3) := by decide +kernel
theorem dX3_staged_4 : decode cX3_staged 4 = .ok (.aload_n 0, 1) := by decide +kernel
theorem dX3_staged_5 : decode cX3_staged 5 = .ok (.getfield 18, 3) := by decide +kernel
theorem dX3_staged_8 : decode cX3_staged 8 = .ok (.aload_n 0, 1) := by decide +kernel
theorem dX3_staged_9 : decode cX3_staged 9 = .ok (.getfield 22, 3) := by decide +kernel
theorem dX3_staged_12 : decode cX3_staged 12 = .ok (.iadd, 1) := by decide +kernel
theorem dX3_staged_13 : decode cX3_staged 13 = .ok (.bipush 9, 2) := by decide +kernel
theorem dX3_staged_15 : decode cX3_staged 15 = .ok (.invokestatic 33, 3) := by decide +kernel
theorem dX3_staged_18 : decode cX3_staged 18 = .ok (.aaload, 1) := by decide +kernel
theorem dX3_staged_19 : decode cX3_staged 19 = .ok (.areturn, 1) := by decide +kernel
set_option maxRecDepth 20000 in
theorem ggX3_keepStaged_J9_floorMod_7cf53 : GoodIn wsX3_keepStaged wsJ9_floorMod_7cf53 := goodIn_r _ [6] (by decide +kernel) (by decide +kernel)
set_option maxRecDepth 20000 in
theorem gX3_keepStaged_J9_floorMod_7cf53 : GoodIn wsX3_keepStaged (va_wsS RX3 33 yJ9_floorMod_7cf53 wsJ9_floorMod_7cf53) := goodIn_app (goodIn_of _ (by decide +kernel)) ggX3_keepStaged_J9_floorMod_7cf53
theorem dX3_keepStaged_0 : decode cX3_keepStaged 0 = .ok (.aload_n 0, 1) := by decide +kernel
theorem dX3_keepStaged_1 : decode cX3_keepStaged 1 = .ok (.getfield 22, 3) := by decide +kernel
theorem dX3_keepStaged_4 : decode cX3_keepStaged 4 = .ok (.bipush 8, 2) := by decide +kernel
theorem dX3_keepStaged_6 : decode cX3_keepStaged 6 = .ok (.if_icmp .ge 16, 3) := by decide +kernel
theorem dX3_keepStaged_9 : decode cX3_keepStaged 9 = .ok (.aload_n 0, 1) := by decide +kernel
theorem dX3_keepStaged_10 : decode cX3_keepStaged 10 = .ok (.dup, 1) := by decide +kernel
theorem dX3_keepStaged_11 : decode cX3_keepStaged 11 = .ok (.getfield 22, 3) := by decide +kernel
theorem dX3_keepStaged_14 : decode cX3_keepStaged 14 = .ok (.iconst 1, 1) := by decide +kernel
theorem dX3_keepStaged_15 : decode cX3_keepStaged 15 = .ok (.iadd, 1) := by decide +kernel
theorem dX3_keepStaged_16 : decode cX3_keepStaged 16 = .ok (.putfield 22, 3) := by decide +kernel
theorem dX3_keepStaged_19 : decode cX3_keepStaged 19 = .ok (.goto 18, 3) := by decide +kernel
theorem dX3_keepStaged_22 : decode cX3_keepStaged 22 = .ok (.aload_n 0, 1) := by decide +kernel
theorem dX3_keepStaged_23 : decode cX3_keepStaged 23 = .ok (.aload_n 0, 1) := by decide +kernel
theorem dX3_keepStaged_24 : decode cX3_keepStaged 24 = .ok (.getfield 18, 3) := by decide +kernel
theorem dX3_keepStaged_27 : decode cX3_keepStaged 27 = .ok (.iconst 1, 1) := by decide +kernel
theorem dX3_keepStaged_28 : decode cX3_keepStaged 28 = .ok (.iadd, 1) := by decide +kernel
theorem dX3_keepStaged_29 : decode cX3_keepStaged 29 = .ok (.bipush 9, 2) := by decide +kernel
theorem dX3_keepStaged_31 : decode cX3_keepStaged 31 = .ok (.invokestatic 33, 3) := by decide +kernel
theorem dX3_keepStaged_34 : decode cX3_keepStaged 34 = .ok (.putfield 18, 3) := by decide +kernel
theorem dX3_keepStaged_37 : decode cX3_keepStaged 37 = .ok (.return_, 1) := by decide +kernel
set_option maxRecDepth 20000 in
theorem ggX3_add_X3_stage : GoodIn wsX3_add wsX3_stage := goodIn_r _ [5, 6, 7, 8, 4, 9, 10, 11, 12, 13, 14, 15, 16, 17, 18, 19, 20, 21, 22, 23, 24, 25, 26, 27, 28, 29, 30, 31, 32, 33, 34, 35, 36, 37, 38, 39, 40, 41, 42, 43, 44, 45, 46, 47, 48, 49, 50, 51, 52, 57, 58, 59, 60, 61, 62, 63, 64, 65, 66, 67, 68, 69, 70, 71, 72, 73, 74, 75, 76, 77, 78, 79, 80, 81] (by decide +kernel) (by decide +kernel)
set_option maxRecDepth 20000 in
theorem gX3_add_X3_stage : GoodIn wsX3_add (wsV RX3 39 RX3 yX3_stage wsX3_stage) := goodIn_app (goodIn_of _ (by decide +kernel)) ggX3_add_X3_stage
set_option maxRecDepth 20000 in
theorem ggX3_add_X3_keepStaged : GoodIn wsX3_add wsX3_keepStaged := goodIn_r _ [56, 12, 11, 13, 14, 15, 16, 57, 58, 59] (by decide +kernel) (by decide +kernel)
set_option maxRecDepth 20000 in
theorem gX3_add_X3_keepStaged : GoodIn wsX3_add (wsV RX3 42 RX3 yX3_keepStaged wsX3_keepStaged) := goodIn_app (goodIn_of _ (by decide +kernel)) ggX3_add_X3_keepStaged
theorem dX3_add_0 : decode cX3_add 0 = .ok (.aload_n 0, 1) := by decide +kernel
theorem dX3_add_1 : decode cX3_add 1 = .ok (.aload_n 1, 1) := by decide +kernel
theorem dX3_add_2 : decode cX3_add 2 = .ok (.invokevirtual 39, 3) := by decide +kernel
theorem dX3_add_5 : decode cX3_add 5 = .ok (.aload_n 0, 1) := by decide +kernel
theorem dX3_add_6 : decode cX3_add 6 = .ok (.invokevirtual 42, 3) := by decide +kernel
theorem dX3_add_9 : decode cX3_add 9 = .ok (.return_, 1) := by decide +kernel
set_option maxRecDepth 20000 in
theorem ggX3_takeLatest_X3_staged : GoodIn wsX3_takeLatest wsX3_staged := goodIn_r _ [6, 7, 8, 1, 9, 10, 11, 12, 13, 14, 15] (by decide +kernel) (by decide +kernel)
set_option maxRecDepth 20000 in
theorem gX3_takeLatest_X3_staged : GoodIn wsX3_takeLatest (wsV RX3 25 RX3 yX3_staged wsX3_staged) := goodIn_app (goodIn_of _ (by decide +kernel)) ggX3_takeLatest_X3_staged
theorem dX3_takeLatest_0 : decode cX3_takeLatest 0 = .ok (.aload_n 0, 1) := by decide +kernel
theorem dX3_takeLatest_1 : decode cX3_takeLatest 1 = .ok (.dup, 1) := by decide +kernel
theorem dX3_takeLatest_2 : decode cX3_takeLatest 2 = .ok (.getfield 22, 3) := by decide +kernel
theorem dX3_takeLatest_5 : decode cX3_takeLatest 5 = .ok (.iconst 1, 1) := by decide +kernel
theorem dX3_takeLatest_6 : decode cX3_takeLatest 6 = .ok (.isub, 1) := by decide +kernel
theorem dX3_takeLatest_7 : decode cX3_takeLatest 7 = .ok (.putfield 22, 3) := by decide +kernel
theorem dX3_takeLatest_10 : decode cX3_takeLatest 10 = .ok (.aload_n 0, 1) := by decide +kernel
theorem dX3_takeLatest_11 : decode cX3_takeLatest 11 = .ok (.invokevirtual 25, 3) := by decide +kernel
theorem dX3_takeLatest_14 : decode cX3_takeLatest 14 = .ok (.areturn, 1) := by decide +kernel
theorem dX4_init_0 : decode cX4_init 0 = .ok (.aload_n 0, 1) := by decide +kernel
theorem dX4_init_1 : decode cX4_init 1 = .ok (.invokespecial 1, 3) := by decide +kernel
theorem dX4_init_4 : decode cX4_init 4 = .ok (.aload_n 0, 1) := by decide +kernel
theorem dX4_init_5 : decode cX4_init 5 = .ok (.bipush 16, 2) := by decide +kernel
theorem dX4_init_7 : decode cX4_init 7 = .ok (.newarray .char, 2) := by decide +kernel
theorem dX4_init_9 : decode cX4_init 9 = .ok (.putfield 7, 3) := by decide +kernel
theorem dX4_init_12 : decode cX4_init 12 = .ok (.return_, 1) := by decide +kernel
theorem dX4_begin_0 : decode cX4_begin 0 = .ok (.aload_n 0, 1) := by decide +kernel
theorem dX4_begin_1 : decode cX4_begin 1 = .ok (.iconst 0, 1) := by decide +kernel
theorem dX4_begin_2 : decode cX4_begin 2 = .ok (.putfield 13, 3) := by decide +kernel
theorem dX4_begin_5 : decode cX4_begin 5 = .ok (.return_, 1) := by decide +kernel
theorem dX4_put_0 : decode cX4_put 0 = .ok (.aload_n 0, 1) := by decide +kernel
theorem dX4_put_1 : decode cX4_put 1 = .ok (.getfield 13, 3) := by decide +kernel
theorem dX4_put_4 : decode cX4_put 4 = .ok (.aload_n 0, 1) := by decide +kernel
theorem dX4_put_5 : decode cX4_put 5 = .ok (.getfield 7, 3) := by decide +kernel
theorem dX4_put_8 : decode cX4_put 8 = .ok (.arraylength, 1) := by decide +kernel
theorem dX4_put_9 : decode cX4_put 9 = .ok (.if_icmp .ge 23, 3) := by decide +kernel
theorem dX4_put_12 : decode cX4_put 12 = .ok (.aload_n 0, 1) := by decide +kernel
theorem dX4_put_13 : decode cX4_put 13 = .ok (.getfield 7, 3) := by decide +kernel
theorem dX4_put_16 : decode cX4_put 16 = .ok (.aload_n 0, 1) := by decide +kernel
theorem dX4_put_17 : decode cX4_put 17 = .ok (.getfield 13, 3) := by decide +kernel
theorem dX4_put_20 : decode cX4_put 20 = .ok (.iload_n 1, 1) := by decide +kernel
theorem dX4_put_21 : decode cX4_put 21 = .ok (.castore, 1) := by decide +kernel
theorem dX4_put_22 : decode cX4_put 22 = .ok (.aload_n 0, 1) := by decide +kernel
theorem dX4_put_23 : decode cX4_put 23 = .ok (.dup, 1) := by decide +kernel
theorem dX4_put_24 : decode cX4_put 24 = .ok (.getfield 13, 3) := by decide +kernel
theorem dX4_put_27 : decode cX4_put 27 = .ok (.iconst 1, 1) := by decide +kernel
theorem dX4_put_28 : decode cX4_put 28 = .ok (.iadd, 1) := by decide +kernel
theorem dX4_put_29 : decode cX4_put 29 = .ok (.putfield 13, 3) := by decide +kernel
theorem dX4_put_32 : decode cX4_put 32 = .ok (.return_, 1) := by decide +kernel
set_option maxRecDepth 20000 in
theorem ggX4_putDigit_X4_put : GoodIn wsX4_putDigit wsX4_put := goodIn_ca (goodIn_r _ [5, 6, 7, 8, 9] (by decide +kernel) (by decide +kernel)) (goodIn_sub (fun _ h => List.mem_cons_of_mem _ (List.mem_append_right _ h)) (by decide +kernel))
set_option maxRecDepth 20000 in
theorem gX4_putDigit_X4_put : GoodIn wsX4_putDigit (wsV RX4 17 RX4 yX4_put wsX4_put) := goodIn_app (goodIn_of _ (by decide +kernel)) ggX4_putDigit_X4_put
theorem dX4_putDigit_0 : decode cX4_putDigit 0 = .ok (.aload_n 0, 1) := by decide +kernel
theorem dX4_putDigit_1 : decode cX4_putDigit 1 = .ok (.bipush 48, 2) := by decide +kernel
theorem dX4_putDigit_3 : decode cX4_putDigit 3 = .ok (.iload_n 1, 1) := by decide +kernel
theorem dX4_putDigit_4 : decode cX4_putDigit 4 = .ok (.iadd, 1) := by decide +kernel
theorem dX4_putDigit_5 : decode cX4_putDigit 5 = .ok (.i2c, 1) := by decide +kernel
theorem dX4_putDigit_6 : decode cX4_putDigit 6 = .ok (.invokevirtual 17, 3) := by decide +kernel
theorem dX4_putDigit_9 : decode cX4_putDigit 9 = .ok (.return_, 1) := by decide +kernel
theorem dX5_init_0 : decode cX5_init 0 = .ok (.aload_n 0, 1) := by decide +kernel
theorem dX5_init_1 : decode cX5_init 1 = .ok (.invokespecial 3, 3) := by decide +kernel
theorem dX5_init_4 : decode cX5_init 4 = .ok (.aload_n 0, 1) := by decide +kernel
theorem dX5_init_5 : decode cX5_init 5 = .ok (.bipush 6, 2) := by decide +kernel
theorem dX5_init_7 : decode cX5_init 7 = .ok (.newarray .int, 2) := by decide +kernel
theorem dX5_init_9 : decode cX5_init 9 = .ok (.putfield 9, 3) := by decide +kernel
theorem dX5_init_12 : decode cX5_init 12 = .ok (.aload_n 0, 1) := by decide +kernel
theorem dX5_init_13 : decode cX5_init 13 = .ok (.bipush 6, 2) := by decide +kernel
theorem dX5_init_15 : decode cX5_init 15 = .ok (.newarray .int, 2) := by decide +kernel
theorem dX5_init_17 : decode cX5_init 17 = .ok (.putfield 15, 3) := by decide +kernel
theorem dX5_init_20 : decode cX5_init 20 = .ok (.return_, 1) := by decide +kernel
set_option maxRecDepth 20000 in
theorem ggX5_passedByRooms_X5_queueBehind : GoodIn wsX5_passedByRooms wsX5_queueBehind := goodIn_ca (goodIn_r _ [7, 8, 1, 2, 9, 10, 11, 12, 13, 14, 15, 16, 17, 18, 19, 20, 23, 24, 25, 26, 27, 28, 29, 30, 31, 32, 33, 34, 21, 22, 35, 36, 37, 38, 39, 40, 41, 42, 43, 44] (by decide +kernel) (by decide +kernel)) (goodIn_sub (fun _ h => List.mem_cons_of_mem _ (List.mem_append_right _ h)) (by decide +kernel))
set_option maxRecDepth 20000 in
theorem gX5_passedByRooms_X5_queueBehind : GoodIn wsX5_passedByRooms (wsV RX5 18 RX5 yX5_queueBehind wsX5_queueBehind) := goodIn_app (goodIn_of _ (by decide +kernel)) ggX5_passedByRooms_X5_queueBehind
theorem dX5_passedByRooms_0 : decode cX5_passedByRooms 0 = .ok (.iconst 0, 1) := by decide +kernel
theorem dX5_passedByRooms_1 : decode cX5_passedByRooms 1 = .ok (.istore 4, 2) := by decide +kernel
theorem dX5_passedByRooms_3 : decode cX5_passedByRooms 3 = .ok (.iload 4, 2) := by decide +kernel
theorem dX5_passedByRooms_5 : decode cX5_passedByRooms 5 = .ok (.bipush 6, 2) := by decide +kernel
theorem dX5_passedByRooms_7 : decode cX5_passedByRooms 7 = .ok (.if_icmp .ge 17, 3) := by decide +kernel
theorem dX5_passedByRooms_10 : decode cX5_passedByRooms 10 = .ok (.aload_n 0, 1) := by decide +kernel
theorem dX5_passedByRooms_11 : decode cX5_passedByRooms 11 = .ok (.getfield 9, 3) := by decide +kernel
theorem dX5_passedByRooms_14 : decode cX5_passedByRooms 14 = .ok (.iload 4, 2) := by decide +kernel
theorem dX5_passedByRooms_16 : decode cX5_passedByRooms 16 = .ok (.iconst (-1), 1) := by decide +kernel
theorem dX5_passedByRooms_17 : decode cX5_passedByRooms 17 = .ok (.iastore, 1) := by decide +kernel
theorem dX5_passedByRooms_18 : decode cX5_passedByRooms 18 = .ok (.iinc 4 1, 3) := by decide +kernel
theorem dX5_passedByRooms_21 : decode cX5_passedByRooms 21 = .ok (.goto (-18), 3) := by decide +kernel
theorem dX5_passedByRooms_24 : decode cX5_passedByRooms 24 = .ok (.aload_n 0, 1) := by decide +kernel
theorem dX5_passedByRooms_25 : decode cX5_passedByRooms 25 = .ok (.getfield 9, 3) := by decide +kernel
theorem dX5_passedByRooms_28 : decode cX5_passedByRooms 28 = .ok (.iload_n 2, 1) := by decide +kernel
theorem dX5_passedByRooms_29 : decode cX5_passedByRooms 29 = .ok (.iconst 0, 1) := by decide +kernel
theorem dX5_passedByRooms_30 : decode cX5_passedByRooms 30 = .ok (.iastore, 1) := by decide +kernel
theorem dX5_passedByRooms_31 : decode cX5_passedByRooms 31 = .ok (.aload_n 0, 1) := by decide +kernel
theorem dX5_passedByRooms_32 : decode cX5_passedByRooms 32 = .ok (.getfield 15, 3) := by decide +kernel
theorem dX5_passedByRooms_35 : decode cX5_passedByRooms 35 = .ok (.iconst 0, 1) := by decide +kernel
theorem dX5_passedByRooms_36 : decode cX5_passedByRooms 36 = .ok (.iload_n 2, 1) := by decide +kernel
theorem dX5_passedByRooms_37 : decode cX5_passedByRooms 37 = .ok (.iastore, 1) := by decide +kernel
theorem dX5_passedByRooms_38 : decode cX5_passedByRooms 38 = .ok (.iconst 1, 1) := by decide +kernel
theorem dX5_passedByRooms_39 : decode cX5_passedByRooms 39 = .ok (.istore 4, 2) := by decide +kernel
theorem dX5_passedByRooms_41 : decode cX5_passedByRooms 41 = .ok (.iconst 0, 1) := by decide +kernel
theorem dX5_passedByRooms_42 : decode cX5_passedByRooms 42 = .ok (.istore 5, 2) := by decide +kernel
theorem dX5_passedByRooms_44 : decode cX5_passedByRooms 44 = .ok (.iload 5, 2) := by decide +kernel
theorem dX5_passedByRooms_46 : decode cX5_passedByRooms 46 = .ok (.iload 4, 2) := by decide +kernel
theorem dX5_passedByRooms_48 : decode cX5_passedByRooms 48 = .ok (.if_icmp .ge 32, 3) := by decide +kernel
theorem dX5_passedByRooms_51 : decode cX5_passedByRooms 51 = .ok (.iload 5, 2) := by decide +kernel
theorem dX5_passedByRooms_53 : decode cX5_passedByRooms 53 = .ok (.bipush 6, 2) := by decide +kernel
theorem dX5_passedByRooms_55 : decode cX5_passedByRooms 55 = .ok (.if_icmp .ge 25, 3) := by decide +kernel
theorem dX5_passedByRooms_58 : decode cX5_passedByRooms 58 = .ok (.aload_n 0, 1) := by decide +kernel
theorem dX5_passedByRooms_59 : decode cX5_passedByRooms 59 = .ok (.aload_n 1, 1) := by decide +kernel
theorem dX5_passedByRooms_60 : decode cX5_passedByRooms 60 = .ok (.aload_n 0, 1) := by decide +kernel
theorem dX5_passedByRooms_61 : decode cX5_passedByRooms 61 = .ok (.getfield 15, 3) := by decide +kernel
theorem dX5_passedByRooms_64 : decode cX5_passedByRooms 64 = .ok (.iload 5, 2) := by decide +kernel
theorem dX5_passedByRooms_66 : decode cX5_passedByRooms 66 = .ok (.iaload, 1) := by decide +kernel
theorem dX5_passedByRooms_67 : decode cX5_passedByRooms 67 = .ok (.iload 4, 2) := by decide +kernel
theorem dX5_passedByRooms_69 : decode cX5_passedByRooms 69 = .ok (.invokevirtual 18, 3) := by decide +kernel
theorem dX5_passedByRooms_72 : decode cX5_passedByRooms 72 = .ok (.istore 4, 2) := by decide +kernel
theorem dX5_passedByRooms_74 : decode cX5_passedByRooms 74 = .ok (.iinc 5 1, 3) := by decide +kernel
theorem dX5_passedByRooms_77 : decode cX5_passedByRooms 77 = .ok (.goto (-33), 3) := by decide +kernel
theorem dX5_passedByRooms_80 : decode cX5_passedByRooms 80 = .ok (.aload_n 0, 1) := by decide +kernel
theorem dX5_passedByRooms_81 : decode cX5_passedByRooms 81 = .ok (.getfield 9, 3) := by decide +kernel
theorem dX5_passedByRooms_84 : decode cX5_passedByRooms 84 = .ok (.iload_n 3, 1) := by decide +kernel
theorem dX5_passedByRooms_85 : decode cX5_passedByRooms 85 = .ok (.iaload, 1) := by decide +kernel
theorem dX5_passedByRooms_86 : decode cX5_passedByRooms 86 = .ok (.ireturn, 1) := by decide +kernel
set_option maxRecDepth 20000 in
theorem ggX5_queueBehind_X1_roomBehind : GoodIn wsX5_queueBehind wsX1_roomBehind := goodIn_r _ [8, 9, 10, 11, 12, 16, 17, 18, 19, 20, 21, 22, 23, 24, 25, 26, 27, 30, 31, 32, 33, 34, 35, 36, 37, 38, 39] (by decide +kernel) (by decide +kernel)
set_option maxRecDepth 20000 in
theorem gX5_queueBehind_X1_roomBehind : GoodIn wsX5_queueBehind (wsV RX5 28 RX1 yX1_roomBehind wsX1_roomBehind) := goodIn_app (goodIn_of _ (by decide +kernel)) ggX5_queueBehind_X1_roomBehind
set_option maxRecDepth 20000 in
theorem ggX5_queueBehind_X6_isBelow : GoodIn wsX5_queueBehind wsX6_isBelow := goodIn_r _ [15] (by decide +kernel) (by decide +kernel)
set_option maxRecDepth 20000 in
theorem gX5_queueBehind_X6_isBelow_n32 : GoodIn wsX5_queueBehind (wsX6_isBelow) := ggX5_queueBehind_X6_isBelow
theorem dX5_queueBehind_0 : decode cX5_queueBehind 0 = .ok (.iload_n 3, 1) := by decide +kernel
theorem dX5_queueBehind_1 : decode cX5_queueBehind 1 = .ok (.istore 4, 2) := by decide +kernel
theorem dX5_queueBehind_3 : decode cX5_queueBehind 3 = .ok (.iconst 0, 1) := by decide +kernel
theorem dX5_queueBehind_4 : decode cX5_queueBehind 4 = .ok (.istore 5, 2) := by decide +kernel
theorem dX5_queueBehind_6 : decode cX5_queueBehind 6 = .ok (.iload 5, 2) := by decide +kernel
theorem dX5_queueBehind_8 : decode cX5_queueBehind 8 = .ok (.aload_n 1, 1) := by decide +kernel
theorem dX5_queueBehind_9 : decode cX5_queueBehind 9 = .ok (.getfield 22, 3) := by decide +kernel
theorem dX5_queueBehind_12 : decode cX5_queueBehind 12 = .ok (.if_icmp .ge 73, 3) := by decide +kernel
theorem dX5_queueBehind_15 : decode cX5_queueBehind 15 = .ok (.aload_n 1, 1) := by decide +kernel
theorem dX5_queueBehind_16 : decode cX5_queueBehind 16 = .ok (.iload 5, 2) := by decide +kernel
theorem dX5_queueBehind_18 : decode cX5_queueBehind 18 = .ok (.iload_n 2, 1) := by decide +kernel
theorem dX5_queueBehind_19 : decode cX5_queueBehind 19 = .ok (.invokevirtual 28, 3) := by decide +kernel
theorem dX5_queueBehind_22 : decode cX5_queueBehind 22 = .ok (.istore 6, 2) := by decide +kernel
theorem dX5_queueBehind_24 : decode cX5_queueBehind 24 = .ok (.iload 6, 2) := by decide +kernel
theorem dX5_queueBehind_26 : decode cX5_queueBehind 26 = .ok (.bipush 6, 2) := by decide +kernel
theorem dX5_queueBehind_28 : decode cX5_queueBehind 28 = .ok (.invokestatic 32, 3) := by decide +kernel
theorem dX5_queueBehind_31 : decode cX5_queueBehind 31 = .ok (.ifCond .eq 48, 3) := by decide +kernel
theorem dX5_queueBehind_34 : decode cX5_queueBehind 34 = .ok (.aload_n 0, 1) := by decide +kernel
theorem dX5_queueBehind_35 : decode cX5_queueBehind 35 = .ok (.getfield 9, 3) := by decide +kernel
theorem dX5_queueBehind_38 : decode cX5_queueBehind 38 = .ok (.iload 6, 2) := by decide +kernel
theorem dX5_queueBehind_40 : decode cX5_queueBehind 40 = .ok (.iaload, 1) := by decide +kernel
theorem dX5_queueBehind_41 : decode cX5_queueBehind 41 = .ok (.iconst (-1), 1) := by decide +kernel
theorem dX5_queueBehind_42 : decode cX5_queueBehind 42 = .ok (.if_icmp .ne 37, 3) := by decide +kernel
theorem dX5_queueBehind_45 : decode cX5_queueBehind 45 = .ok (.iload 4, 2) := by decide +kernel
theorem dX5_queueBehind_47 : decode cX5_queueBehind 47 = .ok (.bipush 6, 2) := by decide +kernel
theorem dX5_queueBehind_49 : decode cX5_queueBehind 49 = .ok (.if_icmp .ge 30, 3) := by decide +kernel
theorem dX5_queueBehind_52 : decode cX5_queueBehind 52 = .ok (.aload_n 0, 1) := by decide +kernel
theorem dX5_queueBehind_53 : decode cX5_queueBehind 53 = .ok (.getfield 9, 3) := by decide +kernel
theorem dX5_queueBehind_56 : decode cX5_queueBehind 56 = .ok (.iload 6, 2) := by decide +kernel
theorem dX5_queueBehind_58 : decode cX5_queueBehind 58 = .ok (.aload_n 0, 1) := by decide +kernel
theorem dX5_queueBehind_59 : decode cX5_queueBehind 59 = .ok (.getfield 9, 3) := by decide +kernel
theorem dX5_queueBehind_62 : decode cX5_queueBehind 62 = .ok (.iload_n 2, 1) := by decide +kernel
theorem dX5_queueBehind_63 : decode cX5_queueBehind 63 = .ok (.iaload, 1) := by decide +kernel
theorem dX5_queueBehind_64 : decode cX5_queueBehind 64 = .ok (.iconst 1, 1) := by decide +kernel
theorem dX5_queueBehind_65 : decode cX5_queueBehind 65 = .ok (.iadd, 1) := by decide +kernel
theorem dX5_queueBehind_66 : decode cX5_queueBehind 66 = .ok (.iastore, 1) := by decide +kernel
theorem dX5_queueBehind_67 : decode cX5_queueBehind 67 = .ok (.aload_n 0, 1) := by decide +kernel
theorem dX5_queueBehind_68 : decode cX5_queueBehind 68 = .ok (.getfield 15, 3) := by decide +kernel
theorem dX5_queueBehind_71 : decode cX5_queueBehind 71 = .ok (.iload 4, 2) := by decide +kernel
theorem dX5_queueBehind_73 : decode cX5_queueBehind 73 = .ok (.iload 6, 2) := by decide +kernel
theorem dX5_queueBehind_75 : decode cX5_queueBehind 75 = .ok (.iastore, 1) := by decide +kernel
theorem dX5_queueBehind_76 : decode cX5_queueBehind 76 = .ok (.iinc 4 1, 3) := by decide +kernel
theorem dX5_queueBehind_79 : decode cX5_queueBehind 79 = .ok (.iinc 5 1, 3) := by decide +kernel
theorem dX5_queueBehind_82 : decode cX5_queueBehind 82 = .ok (.goto (-76), 3) := by decide +kernel
theorem dX5_queueBehind_85 : decode cX5_queueBehind 85 = .ok (.iload 4, 2) := by decide +kernel
theorem dX5_queueBehind_87 : decode cX5_queueBehind 87 = .ok (.ireturn, 1) := by decide +kernel
set_option maxRecDepth 20000 in
theorem ggX5_passedBySets_X1_roomsBeside : GoodIn wsX5_passedBySets wsX1_roomsBeside := goodIn_r _ [5, 6, 7, 8, 9, 10, 11, 12, 13, 14, 15, 16, 17, 18, 19, 20, 21, 22, 23, 24, 25, 26, 27, 28, 29, 30, 31, 32] (by decide +kernel) (by decide +kernel)
set_option maxRecDepth 20000 in
theorem gX5_passedBySets_X1_roomsBeside : GoodIn wsX5_passedBySets (wsV RX5 36 RX1 yX1_roomsBeside wsX1_roomsBeside) := goodIn_app (goodIn_of _ (by decide +kernel)) ggX5_passedBySets_X1_roomsBeside
theorem dX5_passedBySets_0 : decode cX5_passedBySets 0 = .ok (.iconst 1, 1) := by decide +kernel
theorem dX5_passedBySets_1 : decode cX5_passedBySets 1 = .ok (.iload_n 2, 1) := by decide +kernel
theorem dX5_passedBySets_2 : decode cX5_passedBySets 2 = .ok (.ishl, 1) := by decide +kernel
theorem dX5_passedBySets_3 : decode cX5_passedBySets 3 = .ok (.istore 4, 2) := by decide +kernel
theorem dX5_passedBySets_5 : decode cX5_passedBySets 5 = .ok (.iconst 0, 1) := by decide +kernel
theorem dX5_passedBySets_6 : decode cX5_passedBySets 6 = .ok (.istore 5, 2) := by decide +kernel
theorem dX5_passedBySets_8 : decode cX5_passedBySets 8 = .ok (.iload 5, 2) := by decide +kernel
theorem dX5_passedBySets_10 : decode cX5_passedBySets 10 = .ok (.bipush 6, 2) := by decide +kernel
theorem dX5_passedBySets_12 : decode cX5_passedBySets 12 = .ok (.if_icmp .ge 33, 3) := by decide +kernel
theorem dX5_passedBySets_15 : decode cX5_passedBySets 15 = .ok (.iload 4, 2) := by decide +kernel
theorem dX5_passedBySets_17 : decode cX5_passedBySets 17 = .ok (.iconst 1, 1) := by decide +kernel
theorem dX5_passedBySets_18 : decode cX5_passedBySets 18 = .ok (.iload_n 3, 1) := by decide +kernel
theorem dX5_passedBySets_19 : decode cX5_passedBySets 19 = .ok (.ishl, 1) := by decide +kernel
theorem dX5_passedBySets_20 : decode cX5_passedBySets 20 = .ok (.iand, 1) := by decide +kernel
theorem dX5_passedBySets_21 : decode cX5_passedBySets 21 = .ok (.ifCond .eq 6, 3) := by decide +kernel
theorem dX5_passedBySets_24 : decode cX5_passedBySets 24 = .ok (.iload 5, 2) := by decide +kernel
theorem dX5_passedBySets_26 : decode cX5_passedBySets 26 = .ok (.ireturn, 1) := by decide +kernel
theorem dX5_passedBySets_27 : decode cX5_passedBySets 27 = .ok (.iload 4, 2) := by decide +kernel
theorem dX5_passedBySets_29 : decode cX5_passedBySets 29 = .ok (.aload_n 1, 1) := by decide +kernel
theorem dX5_passedBySets_30 : decode cX5_passedBySets 30 = .ok (.iload 4, 2) := by decide +kernel
theorem dX5_passedBySets_32 : decode cX5_passedBySets 32 = .ok (.iconst (-1), 1) := by decide +kernel
theorem dX5_passedBySets_33 : decode cX5_passedBySets 33 = .ok (.invokevirtual 36, 3) := by decide +kernel
theorem dX5_passedBySets_36 : decode cX5_passedBySets 36 = .ok (.ior, 1) := by decide +kernel
theorem dX5_passedBySets_37 : decode cX5_passedBySets 37 = .ok (.istore 4, 2) := by decide +kernel
theorem dX5_passedBySets_39 : decode cX5_passedBySets 39 = .ok (.iinc 5 1, 3) := by decide +kernel
theorem dX5_passedBySets_42 : decode cX5_passedBySets 42 = .ok (.goto (-34), 3) := by decide +kernel
theorem dX5_passedBySets_45 : decode cX5_passedBySets 45 = .ok (.iconst (-1), 1) := by decide +kernel
theorem dX5_passedBySets_46 : decode cX5_passedBySets 46 = .ok (.ireturn, 1) := by decide +kernel
set_option maxRecDepth 20000 in
theorem ggX5_roomsFrom_X1_roomsBeside : GoodIn wsX5_roomsFrom wsX1_roomsBeside := goodIn_r _ [5, 6, 7, 8, 9, 10, 11, 12, 13, 14, 15, 16, 17, 18, 19, 20, 21, 22, 23, 24, 25, 26, 27, 28, 29, 30, 31, 32] (by decide +kernel) (by decide +kernel)
set_option maxRecDepth 20000 in
theorem gX5_roomsFrom_X1_roomsBeside : GoodIn wsX5_roomsFrom (wsV RX5 36 RX1 yX1_roomsBeside wsX1_roomsBeside) := goodIn_app (goodIn_of _ (by decide +kernel)) ggX5_roomsFrom_X1_roomsBeside
theorem dX5_roomsFrom_0 : decode cX5_roomsFrom 0 = .ok (.iconst 1, 1) := by decide +kernel
theorem dX5_roomsFrom_1 : decode cX5_roomsFrom 1 = .ok (.iload_n 2, 1) := by decide +kernel
theorem dX5_roomsFrom_2 : decode cX5_roomsFrom 2 = .ok (.ishl, 1) := by decide +kernel
theorem dX5_roomsFrom_3 : decode cX5_roomsFrom 3 = .ok (.istore 4, 2) := by decide +kernel
theorem dX5_roomsFrom_5 : decode cX5_roomsFrom 5 = .ok (.iconst 0, 1) := by decide +kernel
theorem dX5_roomsFrom_6 : decode cX5_roomsFrom 6 = .ok (.istore 5, 2) := by decide +kernel
theorem dX5_roomsFrom_8 : decode cX5_roomsFrom 8 = .ok (.iload 5, 2) := by decide +kernel
theorem dX5_roomsFrom_10 : decode cX5_roomsFrom 10 = .ok (.bipush 6, 2) := by decide +kernel
theorem dX5_roomsFrom_12 : decode cX5_roomsFrom 12 = .ok (.if_icmp .ge 21, 3) := by decide +kernel
theorem dX5_roomsFrom_15 : decode cX5_roomsFrom 15 = .ok (.iload 4, 2) := by decide +kernel
theorem dX5_roomsFrom_17 : decode cX5_roomsFrom 17 = .ok (.aload_n 1, 1) := by decide +kernel
theorem dX5_roomsFrom_18 : decode cX5_roomsFrom 18 = .ok (.iload 4, 2) := by decide +kernel
theorem dX5_roomsFrom_20 : decode cX5_roomsFrom 20 = .ok (.iload_n 3, 1) := by decide +kernel
theorem dX5_roomsFrom_21 : decode cX5_roomsFrom 21 = .ok (.invokevirtual 36, 3) := by decide +kernel
theorem dX5_roomsFrom_24 : decode cX5_roomsFrom 24 = .ok (.ior, 1) := by decide +kernel
theorem dX5_roomsFrom_25 : decode cX5_roomsFrom 25 = .ok (.istore 4, 2) := by decide +kernel
theorem dX5_roomsFrom_27 : decode cX5_roomsFrom 27 = .ok (.iinc 5 1, 3) := by decide +kernel
theorem dX5_roomsFrom_30 : decode cX5_roomsFrom 30 = .ok (.goto (-22), 3) := by decide +kernel
theorem dX5_roomsFrom_33 : decode cX5_roomsFrom 33 = .ok (.iload 4, 2) := by decide +kernel
theorem dX5_roomsFrom_35 : decode cX5_roomsFrom 35 = .ok (.ireturn, 1) := by decide +kernel
