set_option maxRecDepth 20000 in
theorem ggX7_init_X7_begins : GoodIn wsX7_init wsX7_begins := goodIn_ca (goodIn_r _ [19, 5, 20, 21, 18, 22, 23, 24, 25, 26, 27, 28, 29, 30, 31, 32, 33, 34, 35, 36, 37, 38, 39, 40, 41, 42, 43] (by decide +kernel) (by decide +kernel)) (goodIn_sub (fun _ h => List.mem_cons_of_mem _ (List.mem_append_right _ h)) (by decide +kernel))
set_option maxRecDepth 20000 in
theorem gX7_init_X7_begins : GoodIn wsX7_init (wsV RX7 39 RX7 yX7_begins wsX7_begins) := goodIn_app (goodIn_of _ (by decide +kernel)) ggX7_init_X7_begins
theorem dX7_init_0 : decode cX7_init 0 = .ok (.aload_n 0, 1) := by decide +kernel
theorem dX7_init_1 : decode cX7_init 1 = .ok (.invokespecial 1, 3) := by decide +kernel
theorem dX7_init_4 : decode cX7_init 4 = .ok (.aload_n 0, 1) := by decide +kernel
theorem dX7_init_5 : decode cX7_init 5 = .ok (.sipush 128, 3) := by decide +kernel
theorem dX7_init_8 : decode cX7_init 8 = .ok (.newarray .int, 2) := by decide +kernel
theorem dX7_init_10 : decode cX7_init 10 = .ok (.putfield 7, 3) := by decide +kernel
theorem dX7_init_13 : decode cX7_init 13 = .ok (.aload_n 0, 1) := by decide +kernel
theorem dX7_init_14 : decode cX7_init 14 = .ok (.sipush 128, 3) := by decide +kernel
theorem dX7_init_17 : decode cX7_init 17 = .ok (.newarray .int, 2) := by decide +kernel
theorem dX7_init_19 : decode cX7_init 19 = .ok (.putfield 13, 3) := by decide +kernel
theorem dX7_init_22 : decode cX7_init 22 = .ok (.aload_n 0, 1) := by decide +kernel
theorem dX7_init_23 : decode cX7_init 23 = .ok (.sipush 1024, 3) := by decide +kernel
theorem dX7_init_26 : decode cX7_init 26 = .ok (.newarray .int, 2) := by decide +kernel
theorem dX7_init_28 : decode cX7_init 28 = .ok (.putfield 16, 3) := by decide +kernel
theorem dX7_init_31 : decode cX7_init 31 = .ok (.aload_n 0, 1) := by decide +kernel
theorem dX7_init_32 : decode cX7_init 32 = .ok (.sipush 128, 3) := by decide +kernel
theorem dX7_init_35 : decode cX7_init 35 = .ok (.newarray .int, 2) := by decide +kernel
theorem dX7_init_37 : decode cX7_init 37 = .ok (.putfield 19, 3) := by decide +kernel
theorem dX7_init_40 : decode cX7_init 40 = .ok (.aload_n 0, 1) := by decide +kernel
theorem dX7_init_41 : decode cX7_init 41 = .ok (.bipush 60, 2) := by decide +kernel
theorem dX7_init_43 : decode cX7_init 43 = .ok (.newarray .int, 2) := by decide +kernel
theorem dX7_init_45 : decode cX7_init 45 = .ok (.putfield 22, 3) := by decide +kernel
theorem dX7_init_48 : decode cX7_init 48 = .ok (.aload_n 0, 1) := by decide +kernel
theorem dX7_init_49 : decode cX7_init 49 = .ok (.iconst (-1), 1) := by decide +kernel
theorem dX7_init_50 : decode cX7_init 50 = .ok (.putfield 25, 3) := by decide +kernel
theorem dX7_init_53 : decode cX7_init 53 = .ok (.aload_n 0, 1) := by decide +kernel
theorem dX7_init_54 : decode cX7_init 54 = .ok (.iconst (-1), 1) := by decide +kernel
theorem dX7_init_55 : decode cX7_init 55 = .ok (.putfield 29, 3) := by decide +kernel
theorem dX7_init_58 : decode cX7_init 58 = .ok (.aload_n 0, 1) := by decide +kernel
theorem dX7_init_59 : decode cX7_init 59 = .ok (.bipush 40, 2) := by decide +kernel
theorem dX7_init_61 : decode cX7_init 61 = .ok (.newarray .char, 2) := by decide +kernel
theorem dX7_init_63 : decode cX7_init 63 = .ok (.putfield 32, 3) := by decide +kernel
theorem dX7_init_66 : decode cX7_init 66 = .ok (.aload_n 0, 1) := by decide +kernel
theorem dX7_init_67 : decode cX7_init 67 = .ok (.sipush 360, 3) := by decide +kernel
theorem dX7_init_70 : decode cX7_init 70 = .ok (.newarray .int, 2) := by decide +kernel
theorem dX7_init_72 : decode cX7_init 72 = .ok (.putfield 36, 3) := by decide +kernel
theorem dX7_init_75 : decode cX7_init 75 = .ok (.aload_n 0, 1) := by decide +kernel
theorem dX7_init_76 : decode cX7_init 76 = .ok (.invokevirtual 39, 3) := by decide +kernel
theorem dX7_init_79 : decode cX7_init 79 = .ok (.return_, 1) := by decide +kernel
theorem dX7_thrown_0 : decode cX7_thrown 0 = .ok (.aload_n 0, 1) := by decide +kernel
theorem dX7_thrown_1 : decode cX7_thrown 1 = .ok (.getfield 42, 3) := by decide +kernel
theorem dX7_thrown_4 : decode cX7_thrown 4 = .ok (.ireturn, 1) := by decide +kernel
theorem dX7_in_0 : decode cX7_in 0 = .ok (.iload_n 0, 1) := by decide +kernel
theorem dX7_in_1 : decode cX7_in 1 = .ok (.iload_n 1, 1) := by decide +kernel
theorem dX7_in_2 : decode cX7_in 2 = .ok (.if_icmp .lt 12, 3) := by decide +kernel
theorem dX7_in_5 : decode cX7_in 5 = .ok (.iload_n 0, 1) := by decide +kernel
theorem dX7_in_6 : decode cX7_in 6 = .ok (.iload_n 2, 1) := by decide +kernel
theorem dX7_in_7 : decode cX7_in 7 = .ok (.if_icmp .gt 7, 3) := by decide +kernel
theorem dX7_in_10 : decode cX7_in 10 = .ok (.iconst 1, 1) := by decide +kernel
theorem dX7_in_11 : decode cX7_in 11 = .ok (.goto 4, 3) := by decide +kernel
theorem dX7_in_14 : decode cX7_in 14 = .ok (.iconst 0, 1) := by decide +kernel
theorem dX7_in_15 : decode cX7_in 15 = .ok (.ireturn, 1) := by decide +kernel
theorem dX7_done_0 : decode cX7_done 0 = .ok (.aload_n 0, 1) := by decide +kernel
theorem dX7_done_1 : decode cX7_done 1 = .ok (.iconst 0, 1) := by decide +kernel
theorem dX7_done_2 : decode cX7_done 2 = .ok (.putfield 42, 3) := by decide +kernel
theorem dX7_done_5 : decode cX7_done 5 = .ok (.iload_n 1, 1) := by decide +kernel
theorem dX7_done_6 : decode cX7_done 6 = .ok (.ireturn, 1) := by decide +kernel
theorem dX7_fails_0 : decode cX7_fails 0 = .ok (.aload_n 0, 1) := by decide +kernel
theorem dX7_fails_1 : decode cX7_fails 1 = .ok (.iload_n 1, 1) := by decide +kernel
theorem dX7_fails_2 : decode cX7_fails 2 = .ok (.putfield 42, 3) := by decide +kernel
theorem dX7_fails_5 : decode cX7_fails 5 = .ok (.iconst 0, 1) := by decide +kernel
theorem dX7_fails_6 : decode cX7_fails 6 = .ok (.ireturn, 1) := by decide +kernel
set_option maxRecDepth 20000 in
theorem ggX7_refused_X7_fails : GoodIn wsX7_refused wsX7_fails := goodIn_r _ [7, 8, 9, 10, 11, 12, 13, 14, 15, 16, 17, 18, 19, 20, 21, 22, 23, 24, 25, 26] (by decide +kernel) (by decide +kernel)
set_option maxRecDepth 20000 in
theorem gX7_refused_X7_fails : GoodIn wsX7_refused (wsV RX7 51 RX7 yX7_fails wsX7_fails) := goodIn_app (goodIn_of _ (by decide +kernel)) ggX7_refused_X7_fails
theorem dX7_refused_0 : decode cX7_refused 0 = .ok (.aload_n 0, 1) := by decide +kernel
theorem dX7_refused_1 : decode cX7_refused 1 = .ok (.iload_n 1, 1) := by decide +kernel
theorem dX7_refused_2 : decode cX7_refused 2 = .ok (.putfield 45, 3) := by decide +kernel
theorem dX7_refused_5 : decode cX7_refused 5 = .ok (.aload_n 0, 1) := by decide +kernel
theorem dX7_refused_6 : decode cX7_refused 6 = .ok (.iload_n 2, 1) := by decide +kernel
theorem dX7_refused_7 : decode cX7_refused 7 = .ok (.putfield 48, 3) := by decide +kernel
theorem dX7_refused_10 : decode cX7_refused 10 = .ok (.aload_n 0, 1) := by decide +kernel
theorem dX7_refused_11 : decode cX7_refused 11 = .ok (.iload_n 3, 1) := by decide +kernel
theorem dX7_refused_12 : decode cX7_refused 12 = .ok (.invokevirtual 51, 3) := by decide +kernel
theorem dX7_refused_15 : decode cX7_refused 15 = .ok (.ireturn, 1) := by decide +kernel
theorem dX7_copy_0 : decode cX7_copy 0 = .ok (.iconst 0, 1) := by decide +kernel
theorem dX7_copy_1 : decode cX7_copy 1 = .ok (.istore 4, 2) := by decide +kernel
theorem dX7_copy_3 : decode cX7_copy 3 = .ok (.iload 4, 2) := by decide +kernel
theorem dX7_copy_5 : decode cX7_copy 5 = .ok (.sipush 128, 3) := by decide +kernel
theorem dX7_copy_8 : decode cX7_copy 8 = .ok (.if_icmp .ge 21, 3) := by decide +kernel
theorem dX7_copy_11 : decode cX7_copy 11 = .ok (.aload_n 2, 1) := by decide +kernel
theorem dX7_copy_12 : decode cX7_copy 12 = .ok (.iload_n 3, 1) := by decide +kernel
theorem dX7_copy_13 : decode cX7_copy 13 = .ok (.iload 4, 2) := by decide +kernel
theorem dX7_copy_15 : decode cX7_copy 15 = .ok (.iadd, 1) := by decide +kernel
theorem dX7_copy_16 : decode cX7_copy 16 = .ok (.aload_n 0, 1) := by decide +kernel
theorem dX7_copy_17 : decode cX7_copy 17 = .ok (.iload_n 1, 1) := by decide +kernel
theorem dX7_copy_18 : decode cX7_copy 18 = .ok (.iload 4, 2) := by decide +kernel
theorem dX7_copy_20 : decode cX7_copy 20 = .ok (.iadd, 1) := by decide +kernel
theorem dX7_copy_21 : decode cX7_copy 21 = .ok (.iaload, 1) := by decide +kernel
theorem dX7_copy_22 : decode cX7_copy 22 = .ok (.iastore, 1) := by decide +kernel
theorem dX7_copy_23 : decode cX7_copy 23 = .ok (.iinc 4 1, 3) := by decide +kernel
theorem dX7_copy_26 : decode cX7_copy 26 = .ok (.goto (-23), 3) := by decide +kernel
theorem dX7_copy_29 : decode cX7_copy 29 = .ok (.return_, 1) := by decide +kernel
set_option maxRecDepth 20000 in
theorem ggX7_looksBack_X7_copy : GoodIn wsX7_looksBack wsX7_copy := goodIn_ca (goodIn_r _ [6] (by decide +kernel) (by decide +kernel)) (goodIn_sub (fun _ h => List.mem_cons_of_mem _ (List.mem_append_right _ h)) (by decide +kernel))
set_option maxRecDepth 20000 in
theorem gX7_looksBack_X7_copy : GoodIn wsX7_looksBack (va_wsS RX7 55 yX7_copy wsX7_copy) := goodIn_app (goodIn_of _ (by decide +kernel)) ggX7_looksBack_X7_copy
theorem dX7_looksBack_0 : decode cX7_looksBack 0 = .ok (.aload_n 0, 1) := by decide +kernel
theorem dX7_looksBack_1 : decode cX7_looksBack 1 = .ok (.getfield 7, 3) := by decide +kernel
theorem dX7_looksBack_4 : decode cX7_looksBack 4 = .ok (.iconst 0, 1) := by decide +kernel
theorem dX7_looksBack_5 : decode cX7_looksBack 5 = .ok (.aload_n 0, 1) := by decide +kernel
theorem dX7_looksBack_6 : decode cX7_looksBack 6 = .ok (.getfield 13, 3) := by decide +kernel
theorem dX7_looksBack_9 : decode cX7_looksBack 9 = .ok (.iconst 0, 1) := by decide +kernel
theorem dX7_looksBack_10 : decode cX7_looksBack 10 = .ok (.invokestatic 55, 3) := by decide +kernel
theorem dX7_looksBack_13 : decode cX7_looksBack 13 = .ok (.return_, 1) := by decide +kernel
set_option maxRecDepth 20000 in
theorem ggX7_kept_X7_copy : GoodIn wsX7_kept wsX7_copy := goodIn_ca (goodIn_r _ [9] (by decide +kernel) (by decide +kernel)) (goodIn_sub (fun _ h => List.mem_cons_of_mem _ (List.mem_append_right _ h)) (by decide +kernel))
set_option maxRecDepth 20000 in
theorem gX7_kept_X7_copy : GoodIn wsX7_kept (va_wsS RX7 55 yX7_copy wsX7_copy) := goodIn_app (goodIn_of _ (by decide +kernel)) ggX7_kept_X7_copy
theorem dX7_kept_0 : decode cX7_kept 0 = .ok (.aload_n 0, 1) := by decide +kernel
theorem dX7_kept_1 : decode cX7_kept 1 = .ok (.getfield 42, 3) := by decide +kernel
theorem dX7_kept_4 : decode cX7_kept 4 = .ok (.ifCond .eq 18, 3) := by decide +kernel
theorem dX7_kept_7 : decode cX7_kept 7 = .ok (.aload_n 0, 1) := by decide +kernel
theorem dX7_kept_8 : decode cX7_kept 8 = .ok (.getfield 13, 3) := by decide +kernel
theorem dX7_kept_11 : decode cX7_kept 11 = .ok (.iconst 0, 1) := by decide +kernel
theorem dX7_kept_12 : decode cX7_kept 12 = .ok (.aload_n 0, 1) := by decide +kernel
theorem dX7_kept_13 : decode cX7_kept 13 = .ok (.getfield 7, 3) := by decide +kernel
theorem dX7_kept_16 : decode cX7_kept 16 = .ok (.iconst 0, 1) := by decide +kernel
theorem dX7_kept_17 : decode cX7_kept 17 = .ok (.invokestatic 55, 3) := by decide +kernel
theorem dX7_kept_20 : decode cX7_kept 20 = .ok (.iconst 0, 1) := by decide +kernel
theorem dX7_kept_21 : decode cX7_kept 21 = .ok (.ireturn, 1) := by decide +kernel
theorem dX7_kept_22 : decode cX7_kept 22 = .ok (.aload_n 0, 1) := by decide +kernel
theorem dX7_kept_23 : decode cX7_kept 23 = .ok (.getfield 59, 3) := by decide +kernel
theorem dX7_kept_26 : decode cX7_kept 26 = .ok (.bipush 8, 2) := by decide +kernel
theorem dX7_kept_28 : decode cX7_kept 28 = .ok (.if_icmp .ne 44, 3) := by decide +kernel
theorem dX7_kept_31 : decode cX7_kept 31 = .ok (.iconst 0, 1) := by decide +kernel
theorem dX7_kept_32 : decode cX7_kept 32 = .ok (.istore_n 2, 1) := by decide +kernel
theorem dX7_kept_33 : decode cX7_kept 33 = .ok (.iload_n 2, 1) := by decide +kernel
theorem dX7_kept_34 : decode cX7_kept 34 = .ok (.sipush 896, 3) := by decide +kernel
theorem dX7_kept_37 : decode cX7_kept 37 = .ok (.if_icmp .ge 25, 3) := by decide +kernel
theorem dX7_kept_40 : decode cX7_kept 40 = .ok (.aload_n 0, 1) := by decide +kernel
theorem dX7_kept_41 : decode cX7_kept 41 = .ok (.getfield 16, 3) := by decide +kernel
theorem dX7_kept_44 : decode cX7_kept 44 = .ok (.iload_n 2, 1) := by decide +kernel
theorem dX7_kept_45 : decode cX7_kept 45 = .ok (.aload_n 0, 1) := by decide +kernel
theorem dX7_kept_46 : decode cX7_kept 46 = .ok (.getfield 16, 3) := by decide +kernel
theorem dX7_kept_49 : decode cX7_kept 49 = .ok (.iload_n 2, 1) := by decide +kernel
theorem dX7_kept_50 : decode cX7_kept 50 = .ok (.sipush 128, 3) := by decide +kernel
theorem dX7_kept_53 : decode cX7_kept 53 = .ok (.iadd, 1) := by decide +kernel
theorem dX7_kept_54 : decode cX7_kept 54 = .ok (.iaload, 1) := by decide +kernel
theorem dX7_kept_55 : decode cX7_kept 55 = .ok (.iastore, 1) := by decide +kernel
theorem dX7_kept_56 : decode cX7_kept 56 = .ok (.iinc 2 1, 3) := by decide +kernel
theorem dX7_kept_59 : decode cX7_kept 59 = .ok (.goto (-26), 3) := by decide +kernel
theorem dX7_kept_62 : decode cX7_kept 62 = .ok (.aload_n 0, 1) := by decide +kernel
theorem dX7_kept_63 : decode cX7_kept 63 = .ok (.dup, 1) := by decide +kernel
theorem dX7_kept_64 : decode cX7_kept 64 = .ok (.getfield 59, 3) := by decide +kernel
theorem dX7_kept_67 : decode cX7_kept 67 = .ok (.iconst 1, 1) := by decide +kernel
theorem dX7_kept_68 : decode cX7_kept 68 = .ok (.isub, 1) := by decide +kernel
theorem dX7_kept_69 : decode cX7_kept 69 = .ok (.putfield 59, 3) := by decide +kernel
theorem dX7_kept_72 : decode cX7_kept 72 = .ok (.aload_n 0, 1) := by decide +kernel
theorem dX7_kept_73 : decode cX7_kept 73 = .ok (.getfield 13, 3) := by decide +kernel
theorem dX7_kept_76 : decode cX7_kept 76 = .ok (.iconst 0, 1) := by decide +kernel
theorem dX7_kept_77 : decode cX7_kept 77 = .ok (.aload_n 0, 1) := by decide +kernel
theorem dX7_kept_78 : decode cX7_kept 78 = .ok (.getfield 16, 3) := by decide +kernel
theorem dX7_kept_81 : decode cX7_kept 81 = .ok (.aload_n 0, 1) := by decide +kernel
theorem dX7_kept_82 : decode cX7_kept 82 = .ok (.getfield 59, 3) := by decide +kernel
theorem dX7_kept_85 : decode cX7_kept 85 = .ok (.sipush 128, 3) := by decide +kernel
theorem dX7_kept_88 : decode cX7_kept 88 = .ok (.imul, 1) := by decide +kernel
theorem dX7_kept_89 : decode cX7_kept 89 = .ok (.invokestatic 55, 3) := by decide +kernel
theorem dX7_kept_92 : decode cX7_kept 92 = .ok (.aload_n 0, 1) := by decide +kernel
theorem dX7_kept_93 : decode cX7_kept 93 = .ok (.dup, 1) := by decide +kernel
theorem dX7_kept_94 : decode cX7_kept 94 = .ok (.getfield 59, 3) := by decide +kernel
theorem dX7_kept_97 : decode cX7_kept 97 = .ok (.iconst 1, 1) := by decide +kernel
theorem dX7_kept_98 : decode cX7_kept 98 = .ok (.iadd, 1) := by decide +kernel
theorem dX7_kept_99 : decode cX7_kept 99 = .ok (.putfield 59, 3) := by decide +kernel
theorem dX7_kept_102 : decode cX7_kept 102 = .ok (.iload_n 1, 1) := by decide +kernel
theorem dX7_kept_103 : decode cX7_kept 103 = .ok (.ireturn, 1) := by decide +kernel
theorem dX7_vowel_0 : decode cX7_vowel 0 = .ok (.iload_n 0, 1) := by decide +kernel
theorem dX7_vowel_1 : decode cX7_vowel 1 = .ok (.ifCond .ne 7, 3) := by decide +kernel
theorem dX7_vowel_4 : decode cX7_vowel 4 = .ok (.iconst 0, 1) := by decide +kernel
theorem dX7_vowel_5 : decode cX7_vowel 5 = .ok (.goto 34, 3) := by decide +kernel
theorem dX7_vowel_8 : decode cX7_vowel 8 = .ok (.iload_n 0, 1) := by decide +kernel
theorem dX7_vowel_9 : decode cX7_vowel 9 = .ok (.iconst 1, 1) := by decide +kernel
theorem dX7_vowel_10 : decode cX7_vowel 10 = .ok (.if_icmp .ne 7, 3) := by decide +kernel
theorem dX7_vowel_13 : decode cX7_vowel 13 = .ok (.iconst 4, 1) := by decide +kernel
theorem dX7_vowel_14 : decode cX7_vowel 14 = .ok (.goto 25, 3) := by decide +kernel
theorem dX7_vowel_17 : decode cX7_vowel 17 = .ok (.iload_n 0, 1) := by decide +kernel
theorem dX7_vowel_18 : decode cX7_vowel 18 = .ok (.iconst 2, 1) := by decide +kernel
theorem dX7_vowel_19 : decode cX7_vowel 19 = .ok (.if_icmp .ne 8, 3) := by decide +kernel
theorem dX7_vowel_22 : decode cX7_vowel 22 = .ok (.bipush 8, 2) := by decide +kernel
theorem dX7_vowel_24 : decode cX7_vowel 24 = .ok (.goto 15, 3) := by decide +kernel
theorem dX7_vowel_27 : decode cX7_vowel 27 = .ok (.iload_n 0, 1) := by decide +kernel
theorem dX7_vowel_28 : decode cX7_vowel 28 = .ok (.iconst 3, 1) := by decide +kernel
theorem dX7_vowel_29 : decode cX7_vowel 29 = .ok (.if_icmp .ne 8, 3) := by decide +kernel
theorem dX7_vowel_32 : decode cX7_vowel 32 = .ok (.bipush 14, 2) := by decide +kernel
theorem dX7_vowel_34 : decode cX7_vowel 34 = .ok (.goto 5, 3) := by decide +kernel
theorem dX7_vowel_37 : decode cX7_vowel 37 = .ok (.bipush 20, 2) := by decide +kernel
theorem dX7_vowel_39 : decode cX7_vowel 39 = .ok (.ireturn, 1) := by decide +kernel
theorem dX7_endingAt_0 : decode cX7_endingAt 0 = .ok (.bipush 8, 2) := by decide +kernel
theorem dX7_endingAt_2 : decode cX7_endingAt 2 = .ok (.iconst 2, 1) := by decide +kernel
theorem dX7_endingAt_3 : decode cX7_endingAt 3 = .ok (.iconst 4, 1) := by decide +kernel
theorem dX7_endingAt_4 : decode cX7_endingAt 4 = .ok (.iload_n 0, 1) := by decide +kernel
theorem dX7_endingAt_5 : decode cX7_endingAt 5 = .ok (.imul, 1) := by decide +kernel
theorem dX7_endingAt_6 : decode cX7_endingAt 6 = .ok (.iload_n 1, 1) := by decide +kernel
theorem dX7_endingAt_7 : decode cX7_endingAt 7 = .ok (.iadd, 1) := by decide +kernel
theorem dX7_endingAt_8 : decode cX7_endingAt 8 = .ok (.imul, 1) := by decide +kernel
theorem dX7_endingAt_9 : decode cX7_endingAt 9 = .ok (.iadd, 1) := by decide +kernel
theorem dX7_endingAt_10 : decode cX7_endingAt 10 = .ok (.iload_n 2, 1) := by decide +kernel
theorem dX7_endingAt_11 : decode cX7_endingAt 11 = .ok (.iadd, 1) := by decide +kernel
theorem dX7_endingAt_12 : decode cX7_endingAt 12 = .ok (.ireturn, 1) := by decide +kernel
set_option maxRecDepth 20000 in
theorem ggX7_begins_X7_endingAt : GoodIn wsX7_begins wsX7_endingAt := goodIn_r _ [5] (by decide +kernel) (by decide +kernel)
set_option maxRecDepth 20000 in
theorem gX7_begins_X7_endingAt : GoodIn wsX7_begins (va_wsS RX7 62 yX7_endingAt wsX7_endingAt) := goodIn_app (goodIn_of _ (by decide +kernel)) ggX7_begins_X7_endingAt
set_option maxRecDepth 20000 in
theorem ggX7_begins_X7_vowel : GoodIn wsX7_begins wsX7_vowel := goodIn_r _ [8] (by decide +kernel) (by decide +kernel)
set_option maxRecDepth 20000 in
theorem gX7_begins_X7_vowel : GoodIn wsX7_begins (va_wsS RX7 66 yX7_vowel wsX7_vowel) := goodIn_app (goodIn_of _ (by decide +kernel)) ggX7_begins_X7_vowel
theorem dX7_begins_0 : decode cX7_begins 0 = .ok (.iconst 0, 1) := by decide +kernel
theorem dX7_begins_1 : decode cX7_begins 1 = .ok (.istore_n 1, 1) := by decide +kernel
theorem dX7_begins_2 : decode cX7_begins 2 = .ok (.iload_n 1, 1) := by decide +kernel
theorem dX7_begins_3 : decode cX7_begins 3 = .ok (.sipush 128, 3) := by decide +kernel
theorem dX7_begins_6 : decode cX7_begins 6 = .ok (.if_icmp .ge 16, 3) := by decide +kernel
theorem dX7_begins_9 : decode cX7_begins 9 = .ok (.aload_n 0, 1) := by decide +kernel
theorem dX7_begins_10 : decode cX7_begins 10 = .ok (.getfield 7, 3) := by decide +kernel
theorem dX7_begins_13 : decode cX7_begins 13 = .ok (.iload_n 1, 1) := by decide +kernel
theorem dX7_begins_14 : decode cX7_begins 14 = .ok (.iconst 0, 1) := by decide +kernel
theorem dX7_begins_15 : decode cX7_begins 15 = .ok (.iastore, 1) := by decide +kernel
theorem dX7_begins_16 : decode cX7_begins 16 = .ok (.iinc 1 1, 3) := by decide +kernel
theorem dX7_begins_19 : decode cX7_begins 19 = .ok (.goto (-17), 3) := by decide +kernel
theorem dX7_begins_22 : decode cX7_begins 22 = .ok (.iconst 0, 1) := by decide +kernel
theorem dX7_begins_23 : decode cX7_begins 23 = .ok (.istore_n 1, 1) := by decide +kernel
theorem dX7_begins_24 : decode cX7_begins 24 = .ok (.iload_n 1, 1) := by decide +kernel
theorem dX7_begins_25 : decode cX7_begins 25 = .ok (.iconst 3, 1) := by decide +kernel
theorem dX7_begins_26 : decode cX7_begins 26 = .ok (.if_icmp .ge 66, 3) := by decide +kernel
theorem dX7_begins_29 : decode cX7_begins 29 = .ok (.iconst 0, 1) := by decide +kernel
theorem dX7_begins_30 : decode cX7_begins 30 = .ok (.istore_n 2, 1) := by decide +kernel
theorem dX7_begins_31 : decode cX7_begins 31 = .ok (.iload_n 2, 1) := by decide +kernel
theorem dX7_begins_32 : decode cX7_begins 32 = .ok (.iconst 4, 1) := by decide +kernel
theorem dX7_begins_33 : decode cX7_begins 33 = .ok (.if_icmp .ge 53, 3) := by decide +kernel
theorem dX7_begins_36 : decode cX7_begins 36 = .ok (.aload_n 0, 1) := by decide +kernel
theorem dX7_begins_37 : decode cX7_begins 37 = .ok (.getfield 7, 3) := by decide +kernel
theorem dX7_begins_40 : decode cX7_begins 40 = .ok (.iload_n 1, 1) := by decide +kernel
theorem dX7_begins_41 : decode cX7_begins 41 = .ok (.iload_n 2, 1) := by decide +kernel
theorem dX7_begins_42 : decode cX7_begins 42 = .ok (.iconst 0, 1) := by decide +kernel
theorem dX7_begins_43 : decode cX7_begins 43 = .ok (.invokestatic 62, 3) := by decide +kernel
theorem dX7_begins_46 : decode cX7_begins 46 = .ok (.iload_n 1, 1) := by decide +kernel
theorem dX7_begins_47 : decode cX7_begins 47 = .ok (.iconst 2, 1) := by decide +kernel
theorem dX7_begins_48 : decode cX7_begins 48 = .ok (.iload_n 2, 1) := by decide +kernel
theorem dX7_begins_49 : decode cX7_begins 49 = .ok (.imul, 1) := by decide +kernel
theorem dX7_begins_50 : decode cX7_begins 50 = .ok (.iadd, 1) := by decide +kernel
theorem dX7_begins_51 : decode cX7_begins 51 = .ok (.iconst 5, 1) := by decide +kernel
theorem dX7_begins_52 : decode cX7_begins 52 = .ok (.irem, 1) := by decide +kernel
theorem dX7_begins_53 : decode cX7_begins 53 = .ok (.invokestatic 66, 3) := by decide +kernel
theorem dX7_begins_56 : decode cX7_begins 56 = .ok (.iastore, 1) := by decide +kernel
theorem dX7_begins_57 : decode cX7_begins 57 = .ok (.aload_n 0, 1) := by decide +kernel
theorem dX7_begins_58 : decode cX7_begins 58 = .ok (.getfield 7, 3) := by decide +kernel
theorem dX7_begins_61 : decode cX7_begins 61 = .ok (.iload_n 1, 1) := by decide +kernel
theorem dX7_begins_62 : decode cX7_begins 62 = .ok (.iload_n 2, 1) := by decide +kernel
theorem dX7_begins_63 : decode cX7_begins 63 = .ok (.iconst 1, 1) := by decide +kernel
theorem dX7_begins_64 : decode cX7_begins 64 = .ok (.invokestatic 62, 3) := by decide +kernel
theorem dX7_begins_67 : decode cX7_begins 67 = .ok (.iload_n 1, 1) := by decide +kernel
theorem dX7_begins_68 : decode cX7_begins 68 = .ok (.iconst 2, 1) := by decide +kernel
theorem dX7_begins_69 : decode cX7_begins 69 = .ok (.iload_n 2, 1) := by decide +kernel
theorem dX7_begins_70 : decode cX7_begins 70 = .ok (.imul, 1) := by decide +kernel
theorem dX7_begins_71 : decode cX7_begins 71 = .ok (.iadd, 1) := by decide +kernel
theorem dX7_begins_72 : decode cX7_begins 72 = .ok (.iconst 1, 1) := by decide +kernel
theorem dX7_begins_73 : decode cX7_begins 73 = .ok (.iadd, 1) := by decide +kernel
theorem dX7_begins_74 : decode cX7_begins 74 = .ok (.iconst 5, 1) := by decide +kernel
theorem dX7_begins_75 : decode cX7_begins 75 = .ok (.irem, 1) := by decide +kernel
theorem dX7_begins_76 : decode cX7_begins 76 = .ok (.invokestatic 66, 3) := by decide +kernel
theorem dX7_begins_79 : decode cX7_begins 79 = .ok (.iastore, 1) := by decide +kernel
theorem dX7_begins_80 : decode cX7_begins 80 = .ok (.iinc 2 1, 3) := by decide +kernel
theorem dX7_begins_83 : decode cX7_begins 83 = .ok (.goto (-52), 3) := by decide +kernel
theorem dX7_begins_86 : decode cX7_begins 86 = .ok (.iinc 1 1, 3) := by decide +kernel
theorem dX7_begins_89 : decode cX7_begins 89 = .ok (.goto (-65), 3) := by decide +kernel
theorem dX7_begins_92 : decode cX7_begins 92 = .ok (.return_, 1) := by decide +kernel
set_option maxRecDepth 20000 in
theorem ggX7_clear_X7_begins : GoodIn wsX7_clear wsX7_begins := goodIn_ca (goodIn_r _ [7, 1, 8, 9, 6, 10, 11, 12, 13, 19, 20, 21, 22, 23, 24, 25, 26, 27, 28, 29, 30, 31, 32, 33, 34, 35, 36] (by decide +kernel) (by decide +kernel)) (goodIn_sub (fun _ h => List.mem_cons_of_mem _ (List.mem_append_right _ h)) (by decide +kernel))
set_option maxRecDepth 20000 in
theorem gX7_clear_X7_begins : GoodIn wsX7_clear (wsV RX7 39 RX7 yX7_begins wsX7_begins) := goodIn_app (goodIn_of _ (by decide +kernel)) ggX7_clear_X7_begins
set_option maxRecDepth 20000 in
theorem ggX7_clear_X7_done : GoodIn wsX7_clear wsX7_done := goodIn_r _ [17, 18, 19, 20, 21, 22, 23, 24, 25, 26, 27, 28, 29, 30, 31, 32, 33, 34, 35, 36] (by decide +kernel) (by decide +kernel)
set_option maxRecDepth 20000 in
theorem gX7_clear_X7_done : GoodIn wsX7_clear (wsV RX7 69 RX7 yX7_done wsX7_done) := goodIn_app (goodIn_of _ (by decide +kernel)) ggX7_clear_X7_done
theorem dX7_clear_0 : decode cX7_clear 0 = .ok (.aload_n 0, 1) := by decide +kernel
theorem dX7_clear_1 : decode cX7_clear 1 = .ok (.getfield 7, 3) := by decide +kernel
theorem dX7_clear_4 : decode cX7_clear 4 = .ok (.iconst 0, 1) := by decide +kernel
theorem dX7_clear_5 : decode cX7_clear 5 = .ok (.iaload, 1) := by decide +kernel
theorem dX7_clear_6 : decode cX7_clear 6 = .ok (.istore_n 1, 1) := by decide +kernel
theorem dX7_clear_7 : decode cX7_clear 7 = .ok (.aload_n 0, 1) := by decide +kernel
theorem dX7_clear_8 : decode cX7_clear 8 = .ok (.invokevirtual 39, 3) := by decide +kernel
theorem dX7_clear_11 : decode cX7_clear 11 = .ok (.aload_n 0, 1) := by decide +kernel
theorem dX7_clear_12 : decode cX7_clear 12 = .ok (.iconst 0, 1) := by decide +kernel
theorem dX7_clear_13 : decode cX7_clear 13 = .ok (.putfield 59, 3) := by decide +kernel
theorem dX7_clear_16 : decode cX7_clear 16 = .ok (.aload_n 0, 1) := by decide +kernel
theorem dX7_clear_17 : decode cX7_clear 17 = .ok (.iload_n 1, 1) := by decide +kernel
theorem dX7_clear_18 : decode cX7_clear 18 = .ok (.invokevirtual 69, 3) := by decide +kernel
theorem dX7_clear_21 : decode cX7_clear 21 = .ok (.ireturn, 1) := by decide +kernel
set_option maxRecDepth 20000 in
theorem ggX7_isThird_X7_in : GoodIn wsX7_isThird wsX7_in := goodIn_r _ [4] (by decide +kernel) (by decide +kernel)
set_option maxRecDepth 20000 in
theorem gX7_isThird_X7_in : GoodIn wsX7_isThird (va_wsS RX7 72 yX7_in wsX7_in) := goodIn_app (goodIn_of _ (by decide +kernel)) ggX7_isThird_X7_in
theorem dX7_isThird_0 : decode cX7_isThird 0 = .ok (.iload_n 0, 1) := by decide +kernel
theorem dX7_isThird_1 : decode cX7_isThird 1 = .ok (.iconst 0, 1) := by decide +kernel
theorem dX7_isThird_2 : decode cX7_isThird 2 = .ok (.iconst 2, 1) := by decide +kernel
theorem dX7_isThird_3 : decode cX7_isThird 3 = .ok (.invokestatic 72, 3) := by decide +kernel
theorem dX7_isThird_6 : decode cX7_isThird 6 = .ok (.ireturn, 1) := by decide +kernel
set_option maxRecDepth 20000 in
theorem ggX7_isCase_X7_in : GoodIn wsX7_isCase wsX7_in := goodIn_r _ [4] (by decide +kernel) (by decide +kernel)
set_option maxRecDepth 20000 in
theorem gX7_isCase_X7_in : GoodIn wsX7_isCase (va_wsS RX7 72 yX7_in wsX7_in) := goodIn_app (goodIn_of _ (by decide +kernel)) ggX7_isCase_X7_in
theorem dX7_isCase_0 : decode cX7_isCase 0 = .ok (.iload_n 0, 1) := by decide +kernel
theorem dX7_isCase_1 : decode cX7_isCase 1 = .ok (.iconst 0, 1) := by decide +kernel
theorem dX7_isCase_2 : decode cX7_isCase 2 = .ok (.iconst 3, 1) := by decide +kernel
theorem dX7_isCase_3 : decode cX7_isCase 3 = .ok (.invokestatic 72, 3) := by decide +kernel
theorem dX7_isCase_6 : decode cX7_isCase 6 = .ok (.ireturn, 1) := by decide +kernel
set_option maxRecDepth 20000 in
theorem ggX7_isRoom_X7_in : GoodIn wsX7_isRoom wsX7_in := goodIn_r _ [4] (by decide +kernel) (by decide +kernel)
set_option maxRecDepth 20000 in
theorem gX7_isRoom_X7_in : GoodIn wsX7_isRoom (va_wsS RX7 72 yX7_in wsX7_in) := goodIn_app (goodIn_of _ (by decide +kernel)) ggX7_isRoom_X7_in
theorem dX7_isRoom_0 : decode cX7_isRoom 0 = .ok (.iload_n 0, 1) := by decide +kernel
theorem dX7_isRoom_1 : decode cX7_isRoom 1 = .ok (.iconst 0, 1) := by decide +kernel
theorem dX7_isRoom_2 : decode cX7_isRoom 2 = .ok (.iconst 5, 1) := by decide +kernel
theorem dX7_isRoom_3 : decode cX7_isRoom 3 = .ok (.invokestatic 72, 3) := by decide +kernel
theorem dX7_isRoom_6 : decode cX7_isRoom 6 = .ok (.ireturn, 1) := by decide +kernel
set_option maxRecDepth 20000 in
theorem ggX7_isDoor_X7_in : GoodIn wsX7_isDoor wsX7_in := goodIn_r _ [5] (by decide +kernel) (by decide +kernel)
set_option maxRecDepth 20000 in
theorem gX7_isDoor_X7_in : GoodIn wsX7_isDoor (va_wsS RX7 72 yX7_in wsX7_in) := goodIn_app (goodIn_of _ (by decide +kernel)) ggX7_isDoor_X7_in
theorem dX7_isDoor_0 : decode cX7_isDoor 0 = .ok (.iload_n 1, 1) := by decide +kernel
theorem dX7_isDoor_1 : decode cX7_isDoor 1 = .ok (.iconst 0, 1) := by decide +kernel
theorem dX7_isDoor_2 : decode cX7_isDoor 2 = .ok (.aload_n 0, 1) := by decide +kernel
theorem dX7_isDoor_3 : decode cX7_isDoor 3 = .ok (.getfield 7, 3) := by decide +kernel
theorem dX7_isDoor_6 : decode cX7_isDoor 6 = .ok (.iconst 0, 1) := by decide +kernel
theorem dX7_isDoor_7 : decode cX7_isDoor 7 = .ok (.iaload, 1) := by decide +kernel
theorem dX7_isDoor_8 : decode cX7_isDoor 8 = .ok (.iconst 1, 1) := by decide +kernel
theorem dX7_isDoor_9 : decode cX7_isDoor 9 = .ok (.isub, 1) := by decide +kernel
theorem dX7_isDoor_10 : decode cX7_isDoor 10 = .ok (.invokestatic 72, 3) := by decide +kernel
theorem dX7_isDoor_13 : decode cX7_isDoor 13 = .ok (.ireturn, 1) := by decide +kernel
set_option maxRecDepth 20000 in
theorem ggX7_isSill_X7_in : GoodIn wsX7_isSill wsX7_in := goodIn_r _ [5] (by decide +kernel) (by decide +kernel)
set_option maxRecDepth 20000 in
theorem gX7_isSill_X7_in : GoodIn wsX7_isSill (va_wsS RX7 72 yX7_in wsX7_in) := goodIn_app (goodIn_of _ (by decide +kernel)) ggX7_isSill_X7_in
theorem dX7_isSill_0 : decode cX7_isSill 0 = .ok (.iload_n 1, 1) := by decide +kernel
theorem dX7_isSill_1 : decode cX7_isSill 1 = .ok (.iconst 0, 1) := by decide +kernel
theorem dX7_isSill_2 : decode cX7_isSill 2 = .ok (.aload_n 0, 1) := by decide +kernel
theorem dX7_isSill_3 : decode cX7_isSill 3 = .ok (.getfield 7, 3) := by decide +kernel
theorem dX7_isSill_6 : decode cX7_isSill 6 = .ok (.iconst 1, 1) := by decide +kernel
theorem dX7_isSill_7 : decode cX7_isSill 7 = .ok (.iaload, 1) := by decide +kernel
theorem dX7_isSill_8 : decode cX7_isSill 8 = .ok (.iconst 1, 1) := by decide +kernel
theorem dX7_isSill_9 : decode cX7_isSill 9 = .ok (.isub, 1) := by decide +kernel
theorem dX7_isSill_10 : decode cX7_isSill 10 = .ok (.invokestatic 72, 3) := by decide +kernel
theorem dX7_isSill_13 : decode cX7_isSill 13 = .ok (.ireturn, 1) := by decide +kernel
set_option maxRecDepth 20000 in
theorem ggX7_isKey_X7_in : GoodIn wsX7_isKey wsX7_in := goodIn_r _ [5] (by decide +kernel) (by decide +kernel)
set_option maxRecDepth 20000 in
theorem gX7_isKey_X7_in : GoodIn wsX7_isKey (va_wsS RX7 72 yX7_in wsX7_in) := goodIn_app (goodIn_of _ (by decide +kernel)) ggX7_isKey_X7_in
theorem dX7_isKey_0 : decode cX7_isKey 0 = .ok (.iload_n 1, 1) := by decide +kernel
theorem dX7_isKey_1 : decode cX7_isKey 1 = .ok (.iconst 0, 1) := by decide +kernel
theorem dX7_isKey_2 : decode cX7_isKey 2 = .ok (.aload_n 0, 1) := by decide +kernel
theorem dX7_isKey_3 : decode cX7_isKey 3 = .ok (.getfield 7, 3) := by decide +kernel
theorem dX7_isKey_6 : decode cX7_isKey 6 = .ok (.iconst 2, 1) := by decide +kernel
theorem dX7_isKey_7 : decode cX7_isKey 7 = .ok (.iaload, 1) := by decide +kernel
theorem dX7_isKey_8 : decode cX7_isKey 8 = .ok (.iconst 1, 1) := by decide +kernel
theorem dX7_isKey_9 : decode cX7_isKey 9 = .ok (.isub, 1) := by decide +kernel
theorem dX7_isKey_10 : decode cX7_isKey 10 = .ok (.invokestatic 72, 3) := by decide +kernel
theorem dX7_isKey_13 : decode cX7_isKey 13 = .ok (.ireturn, 1) := by decide +kernel
theorem dX7_caseOf_0 : decode cX7_caseOf 0 = .ok (.aload_n 0, 1) := by decide +kernel
theorem dX7_caseOf_1 : decode cX7_caseOf 1 = .ok (.getfield 7, 3) := by decide +kernel
theorem dX7_caseOf_4 : decode cX7_caseOf 4 = .ok (.bipush 56, 2) := by decide +kernel
theorem dX7_caseOf_6 : decode cX7_caseOf 6 = .ok (.iload_n 1, 1) := by decide +kernel
theorem dX7_caseOf_7 : decode cX7_caseOf 7 = .ok (.iadd, 1) := by decide +kernel
theorem dX7_caseOf_8 : decode cX7_caseOf 8 = .ok (.iaload, 1) := by decide +kernel
theorem dX7_caseOf_9 : decode cX7_caseOf 9 = .ok (.ifCond .ne 7, 3) := by decide +kernel
theorem dX7_caseOf_12 : decode cX7_caseOf 12 = .ok (.iconst 0, 1) := by decide +kernel
theorem dX7_caseOf_13 : decode cX7_caseOf 13 = .ok (.goto 22, 3) := by decide +kernel
theorem dX7_caseOf_16 : decode cX7_caseOf 16 = .ok (.aload_n 0, 1) := by decide +kernel
theorem dX7_caseOf_17 : decode cX7_caseOf 17 = .ok (.getfield 7, 3) := by decide +kernel
theorem dX7_caseOf_20 : decode cX7_caseOf 20 = .ok (.bipush 112, 2) := by decide +kernel
theorem dX7_caseOf_22 : decode cX7_caseOf 22 = .ok (.aload_n 0, 1) := by decide +kernel
theorem dX7_caseOf_23 : decode cX7_caseOf 23 = .ok (.getfield 7, 3) := by decide +kernel
theorem dX7_caseOf_26 : decode cX7_caseOf 26 = .ok (.bipush 56, 2) := by decide +kernel
theorem dX7_caseOf_28 : decode cX7_caseOf 28 = .ok (.iload_n 1, 1) := by decide +kernel
theorem dX7_caseOf_29 : decode cX7_caseOf 29 = .ok (.iadd, 1) := by decide +kernel
theorem dX7_caseOf_30 : decode cX7_caseOf 30 = .ok (.iaload, 1) := by decide +kernel
theorem dX7_caseOf_31 : decode cX7_caseOf 31 = .ok (.iadd, 1) := by decide +kernel
theorem dX7_caseOf_32 : decode cX7_caseOf 32 = .ok (.iconst 1, 1) := by decide +kernel
theorem dX7_caseOf_33 : decode cX7_caseOf 33 = .ok (.isub, 1) := by decide +kernel
theorem dX7_caseOf_34 : decode cX7_caseOf 34 = .ok (.iaload, 1) := by decide +kernel
theorem dX7_caseOf_35 : decode cX7_caseOf 35 = .ok (.ireturn, 1) := by decide +kernel
set_option maxRecDepth 20000 in
theorem ggX7_endingOf_X7_caseOf : GoodIn wsX7_endingOf wsX7_caseOf := goodIn_ca (goodIn_r _ [6, 1, 10, 11, 12, 13, 14, 15, 16, 17, 18, 19, 20, 21, 22, 23, 24, 25, 26, 27] (by decide +kernel) (by decide +kernel)) (goodIn_sub (fun _ h => List.mem_cons_of_mem _ (List.mem_append_right _ h)) (by decide +kernel))
set_option maxRecDepth 20000 in
theorem gX7_endingOf_X7_caseOf : GoodIn wsX7_endingOf (wsV RX7 76 RX7 yX7_caseOf wsX7_caseOf) := goodIn_app (goodIn_of _ (by decide +kernel)) ggX7_endingOf_X7_caseOf
set_option maxRecDepth 20000 in
theorem ggX7_endingOf_X7_endingAt : GoodIn wsX7_endingOf wsX7_endingAt := goodIn_r _ [9] (by decide +kernel) (by decide +kernel)
set_option maxRecDepth 20000 in
theorem gX7_endingOf_X7_endingAt : GoodIn wsX7_endingOf (va_wsS RX7 62 yX7_endingAt wsX7_endingAt) := goodIn_app (goodIn_of _ (by decide +kernel)) ggX7_endingOf_X7_endingAt
theorem dX7_endingOf_0 : decode cX7_endingOf 0 = .ok (.aload_n 0, 1) := by decide +kernel
theorem dX7_endingOf_1 : decode cX7_endingOf 1 = .ok (.getfield 7, 3) := by decide +kernel
theorem dX7_endingOf_4 : decode cX7_endingOf 4 = .ok (.aload_n 0, 1) := by decide +kernel
theorem dX7_endingOf_5 : decode cX7_endingOf 5 = .ok (.getfield 7, 3) := by decide +kernel
theorem dX7_endingOf_8 : decode cX7_endingOf 8 = .ok (.bipush 32, 2) := by decide +kernel
theorem dX7_endingOf_10 : decode cX7_endingOf 10 = .ok (.iload_n 1, 1) := by decide +kernel
theorem dX7_endingOf_11 : decode cX7_endingOf 11 = .ok (.iadd, 1) := by decide +kernel
theorem dX7_endingOf_12 : decode cX7_endingOf 12 = .ok (.iaload, 1) := by decide +kernel
theorem dX7_endingOf_13 : decode cX7_endingOf 13 = .ok (.aload_n 0, 1) := by decide +kernel
theorem dX7_endingOf_14 : decode cX7_endingOf 14 = .ok (.iload_n 1, 1) := by decide +kernel
theorem dX7_endingOf_15 : decode cX7_endingOf 15 = .ok (.invokevirtual 76, 3) := by decide +kernel
theorem dX7_endingOf_18 : decode cX7_endingOf 18 = .ok (.aload_n 0, 1) := by decide +kernel
theorem dX7_endingOf_19 : decode cX7_endingOf 19 = .ok (.getfield 7, 3) := by decide +kernel
theorem dX7_endingOf_22 : decode cX7_endingOf 22 = .ok (.bipush 48, 2) := by decide +kernel
theorem dX7_endingOf_24 : decode cX7_endingOf 24 = .ok (.iload_n 1, 1) := by decide +kernel
theorem dX7_endingOf_25 : decode cX7_endingOf 25 = .ok (.iadd, 1) := by decide +kernel
theorem dX7_endingOf_26 : decode cX7_endingOf 26 = .ok (.iaload, 1) := by decide +kernel
theorem dX7_endingOf_27 : decode cX7_endingOf 27 = .ok (.invokestatic 62, 3) := by decide +kernel
theorem dX7_endingOf_30 : decode cX7_endingOf 30 = .ok (.iaload, 1) := by decide +kernel
theorem dX7_endingOf_31 : decode cX7_endingOf 31 = .ok (.ireturn, 1) := by decide +kernel
theorem dX7_many_0 : decode cX7_many 0 = .ok (.iconst 0, 1) := by decide +kernel
theorem dX7_many_1 : decode cX7_many 1 = .ok (.istore_n 2, 1) := by decide +kernel
theorem dX7_many_2 : decode cX7_many 2 = .ok (.iconst 0, 1) := by decide +kernel
theorem dX7_many_3 : decode cX7_many 3 = .ok (.istore_n 3, 1) := by decide +kernel
theorem dX7_many_4 : decode cX7_many 4 = .ok (.iload_n 3, 1) := by decide +kernel
theorem dX7_many_5 : decode cX7_many 5 = .ok (.aload_n 0, 1) := by decide +kernel
theorem dX7_many_6 : decode cX7_many 6 = .ok (.getfield 7, 3) := by decide +kernel
theorem dX7_many_9 : decode cX7_many 9 = .ok (.iconst 0, 1) := by decide +kernel
theorem dX7_many_10 : decode cX7_many 10 = .ok (.iaload, 1) := by decide +kernel
theorem dX7_many_11 : decode cX7_many 11 = .ok (.if_icmp .ge 20, 3) := by decide +kernel
theorem dX7_many_14 : decode cX7_many 14 = .ok (.iload_n 2, 1) := by decide +kernel
theorem dX7_many_15 : decode cX7_many 15 = .ok (.aload_n 0, 1) := by decide +kernel
theorem dX7_many_16 : decode cX7_many 16 = .ok (.getfield 7, 3) := by decide +kernel
theorem dX7_many_19 : decode cX7_many 19 = .ok (.iload_n 1, 1) := by decide +kernel
theorem dX7_many_20 : decode cX7_many 20 = .ok (.iload_n 3, 1) := by decide +kernel
theorem dX7_many_21 : decode cX7_many 21 = .ok (.iadd, 1) := by decide +kernel
theorem dX7_many_22 : decode cX7_many 22 = .ok (.iaload, 1) := by decide +kernel
theorem dX7_many_23 : decode cX7_many 23 = .ok (.iadd, 1) := by decide +kernel
theorem dX7_many_24 : decode cX7_many 24 = .ok (.istore_n 2, 1) := by decide +kernel
theorem dX7_many_25 : decode cX7_many 25 = .ok (.iinc 3 1, 3) := by decide +kernel
theorem dX7_many_28 : decode cX7_many 28 = .ok (.goto (-24), 3) := by decide +kernel
theorem dX7_many_31 : decode cX7_many 31 = .ok (.iload_n 2, 1) := by decide +kernel
theorem dX7_many_32 : decode cX7_many 32 = .ok (.ireturn, 1) := by decide +kernel
set_option maxRecDepth 20000 in
theorem ggX7_doorComes_X7_isThird : GoodIn wsX7_doorComes wsX7_isThird := goodIn_r _ [5, 6, 7, 4, 8] (by decide +kernel) (by decide +kernel)
set_option maxRecDepth 20000 in
theorem gX7_doorComes_X7_isThird : GoodIn wsX7_doorComes (va_wsS RX7 79 yX7_isThird wsX7_isThird) := goodIn_app (goodIn_of _ (by decide +kernel)) ggX7_doorComes_X7_isThird
set_option maxRecDepth 20000 in
theorem ggX7_doorComes_X7_fails : GoodIn wsX7_doorComes wsX7_fails := goodIn_r _ [12, 13, 27, 28, 29, 30, 31, 32, 33, 34, 35, 36, 37, 38, 39, 40, 41, 42, 43, 44] (by decide +kernel) (by decide +kernel)
set_option maxRecDepth 20000 in
theorem gX7_doorComes_X7_fails : GoodIn wsX7_doorComes (wsV RX7 51 RX7 yX7_fails wsX7_fails) := goodIn_app (goodIn_of _ (by decide +kernel)) ggX7_doorComes_X7_fails
set_option maxRecDepth 20000 in
theorem ggX7_doorComes_X7_isRoom : GoodIn wsX7_doorComes wsX7_isRoom := goodIn_r _ [16, 6, 7, 4, 8] (by decide +kernel) (by decide +kernel)
set_option maxRecDepth 20000 in
theorem gX7_doorComes_X7_isRoom : GoodIn wsX7_doorComes (va_wsS RX7 83 yX7_isRoom wsX7_isRoom) := goodIn_app (goodIn_of _ (by decide +kernel)) ggX7_doorComes_X7_isRoom
set_option maxRecDepth 20000 in
theorem ggX7_doorComes_X7_refused : GoodIn wsX7_doorComes wsX7_refused := goodIn_r _ [20, 21, 22, 9, 10, 11, 4, 12, 13, 27, 28, 29, 30, 31, 32, 33, 34, 35, 36, 37, 38, 39, 40, 41, 42, 43, 44] (by decide +kernel) (by decide +kernel)
set_option maxRecDepth 20000 in
theorem gX7_doorComes_X7_refused : GoodIn wsX7_doorComes (wsV RX7 86 RX7 yX7_refused wsX7_refused) := goodIn_app (goodIn_of _ (by decide +kernel)) ggX7_doorComes_X7_refused
set_option maxRecDepth 20000 in
theorem ggX7_doorComes_X7_done : GoodIn wsX7_doorComes wsX7_done := goodIn_r _ [26, 13, 27, 28, 29, 30, 31, 32, 33, 34, 35, 36, 37, 38, 39, 40, 41, 42, 43, 44] (by decide +kernel) (by decide +kernel)
set_option maxRecDepth 20000 in
theorem gX7_doorComes_X7_done : GoodIn wsX7_doorComes (wsV RX7 69 RX7 yX7_done wsX7_done) := goodIn_app (goodIn_of _ (by decide +kernel)) ggX7_doorComes_X7_done
theorem dX7_doorComes_0 : decode cX7_doorComes 0 = .ok (.iload_n 1, 1) := by decide +kernel
theorem dX7_doorComes_1 : decode cX7_doorComes 1 = .ok (.invokestatic 79, 3) := by decide +kernel
theorem dX7_doorComes_4 : decode cX7_doorComes 4 = .ok (.ifCond .eq 17, 3) := by decide +kernel
theorem dX7_doorComes_7 : decode cX7_doorComes 7 = .ok (.iload_n 2, 1) := by decide +kernel
theorem dX7_doorComes_8 : decode cX7_doorComes 8 = .ok (.invokestatic 79, 3) := by decide +kernel
theorem dX7_doorComes_11 : decode cX7_doorComes 11 = .ok (.ifCond .eq 10, 3) := by decide +kernel
theorem dX7_doorComes_14 : decode cX7_doorComes 14 = .ok (.iload 4, 2) := by decide +kernel
theorem dX7_doorComes_16 : decode cX7_doorComes 16 = .ok (.iload 5, 2) := by decide +kernel
theorem dX7_doorComes_18 : decode cX7_doorComes 18 = .ok (.if_icmp .ne 9, 3) := by decide +kernel
theorem dX7_doorComes_21 : decode cX7_doorComes 21 = .ok (.aload_n 0, 1) := by decide +kernel
theorem dX7_doorComes_22 : decode cX7_doorComes 22 = .ok (.iconst 1, 1) := by decide +kernel
theorem dX7_doorComes_23 : decode cX7_doorComes 23 = .ok (.invokevirtual 51, 3) := by decide +kernel
theorem dX7_doorComes_26 : decode cX7_doorComes 26 = .ok (.ireturn, 1) := by decide +kernel
theorem dX7_doorComes_27 : decode cX7_doorComes 27 = .ok (.iload 4, 2) := by decide +kernel
theorem dX7_doorComes_29 : decode cX7_doorComes 29 = .ok (.invokestatic 83, 3) := by decide +kernel
theorem dX7_doorComes_32 : decode cX7_doorComes 32 = .ok (.ifCond .eq 11, 3) := by decide +kernel
theorem dX7_doorComes_35 : decode cX7_doorComes 35 = .ok (.iload 5, 2) := by decide +kernel
theorem dX7_doorComes_37 : decode cX7_doorComes 37 = .ok (.invokestatic 83, 3) := by decide +kernel
theorem dX7_doorComes_40 : decode cX7_doorComes 40 = .ok (.ifCond .ne 9, 3) := by decide +kernel
theorem dX7_doorComes_43 : decode cX7_doorComes 43 = .ok (.aload_n 0, 1) := by decide +kernel
theorem dX7_doorComes_44 : decode cX7_doorComes 44 = .ok (.iconst 2, 1) := by decide +kernel
theorem dX7_doorComes_45 : decode cX7_doorComes 45 = .ok (.invokevirtual 51, 3) := by decide +kernel
theorem dX7_doorComes_48 : decode cX7_doorComes 48 = .ok (.ireturn, 1) := by decide +kernel
theorem dX7_doorComes_49 : decode cX7_doorComes 49 = .ok (.aload_n 0, 1) := by decide +kernel
theorem dX7_doorComes_50 : decode cX7_doorComes 50 = .ok (.getfield 7, 3) := by decide +kernel
theorem dX7_doorComes_53 : decode cX7_doorComes 53 = .ok (.iconst 0, 1) := by decide +kernel
theorem dX7_doorComes_54 : decode cX7_doorComes 54 = .ok (.iaload, 1) := by decide +kernel
theorem dX7_doorComes_55 : decode cX7_doorComes 55 = .ok (.istore 6, 2) := by decide +kernel
theorem dX7_doorComes_57 : decode cX7_doorComes 57 = .ok (.iload 6, 2) := by decide +kernel
theorem dX7_doorComes_59 : decode cX7_doorComes 59 = .ok (.bipush 8, 2) := by decide +kernel
theorem dX7_doorComes_61 : decode cX7_doorComes 61 = .ok (.if_icmp .ne 12, 3) := by decide +kernel
theorem dX7_doorComes_64 : decode cX7_doorComes 64 = .ok (.aload_n 0, 1) := by decide +kernel
theorem dX7_doorComes_65 : decode cX7_doorComes 65 = .ok (.iconst 1, 1) := by decide +kernel
theorem dX7_doorComes_66 : decode cX7_doorComes 66 = .ok (.bipush 8, 2) := by decide +kernel
theorem dX7_doorComes_68 : decode cX7_doorComes 68 = .ok (.iconst 3, 1) := by decide +kernel
theorem dX7_doorComes_69 : decode cX7_doorComes 69 = .ok (.invokevirtual 86, 3) := by decide +kernel
theorem dX7_doorComes_72 : decode cX7_doorComes 72 = .ok (.ireturn, 1) := by decide +kernel
theorem dX7_doorComes_73 : decode cX7_doorComes 73 = .ok (.aload_n 0, 1) := by decide +kernel
theorem dX7_doorComes_74 : decode cX7_doorComes 74 = .ok (.getfield 7, 3) := by decide +kernel
theorem dX7_doorComes_77 : decode cX7_doorComes 77 = .ok (.bipush 32, 2) := by decide +kernel
theorem dX7_doorComes_79 : decode cX7_doorComes 79 = .ok (.iload 6, 2) := by decide +kernel
theorem dX7_doorComes_81 : decode cX7_doorComes 81 = .ok (.iadd, 1) := by decide +kernel
theorem dX7_doorComes_82 : decode cX7_doorComes 82 = .ok (.iload_n 1, 1) := by decide +kernel
theorem dX7_doorComes_83 : decode cX7_doorComes 83 = .ok (.iastore, 1) := by decide +kernel
theorem dX7_doorComes_84 : decode cX7_doorComes 84 = .ok (.aload_n 0, 1) := by decide +kernel
theorem dX7_doorComes_85 : decode cX7_doorComes 85 = .ok (.getfield 7, 3) := by decide +kernel
theorem dX7_doorComes_88 : decode cX7_doorComes 88 = .ok (.bipush 40, 2) := by decide +kernel
theorem dX7_doorComes_90 : decode cX7_doorComes 90 = .ok (.iload 6, 2) := by decide +kernel
theorem dX7_doorComes_92 : decode cX7_doorComes 92 = .ok (.iadd, 1) := by decide +kernel
theorem dX7_doorComes_93 : decode cX7_doorComes 93 = .ok (.iload_n 2, 1) := by decide +kernel
theorem dX7_doorComes_94 : decode cX7_doorComes 94 = .ok (.iastore, 1) := by decide +kernel
theorem dX7_doorComes_95 : decode cX7_doorComes 95 = .ok (.aload_n 0, 1) := by decide +kernel
theorem dX7_doorComes_96 : decode cX7_doorComes 96 = .ok (.getfield 7, 3) := by decide +kernel
theorem dX7_doorComes_99 : decode cX7_doorComes 99 = .ok (.bipush 48, 2) := by decide +kernel
theorem dX7_doorComes_101 : decode cX7_doorComes 101 = .ok (.iload 6, 2) := by decide +kernel
theorem dX7_doorComes_103 : decode cX7_doorComes 103 = .ok (.iadd, 1) := by decide +kernel
theorem dX7_doorComes_104 : decode cX7_doorComes 104 = .ok (.iload_n 3, 1) := by decide +kernel
theorem dX7_doorComes_105 : decode cX7_doorComes 105 = .ok (.iastore, 1) := by decide +kernel
theorem dX7_doorComes_106 : decode cX7_doorComes 106 = .ok (.aload_n 0, 1) := by decide +kernel
theorem dX7_doorComes_107 : decode cX7_doorComes 107 = .ok (.getfield 7, 3) := by decide +kernel
theorem dX7_doorComes_110 : decode cX7_doorComes 110 = .ok (.bipush 88, 2) := by decide +kernel
theorem dX7_doorComes_112 : decode cX7_doorComes 112 = .ok (.iload 6, 2) := by decide +kernel
theorem dX7_doorComes_114 : decode cX7_doorComes 114 = .ok (.iadd, 1) := by decide +kernel
theorem dX7_doorComes_115 : decode cX7_doorComes 115 = .ok (.iload 4, 2) := by decide +kernel
theorem dX7_doorComes_117 : decode cX7_doorComes 117 = .ok (.iastore, 1) := by decide +kernel
theorem dX7_doorComes_118 : decode cX7_doorComes 118 = .ok (.aload_n 0, 1) := by decide +kernel
theorem dX7_doorComes_119 : decode cX7_doorComes 119 = .ok (.getfield 7, 3) := by decide +kernel
theorem dX7_doorComes_122 : decode cX7_doorComes 122 = .ok (.bipush 96, 2) := by decide +kernel
theorem dX7_doorComes_124 : decode cX7_doorComes 124 = .ok (.iload 6, 2) := by decide +kernel
theorem dX7_doorComes_126 : decode cX7_doorComes 126 = .ok (.iadd, 1) := by decide +kernel
theorem dX7_doorComes_127 : decode cX7_doorComes 127 = .ok (.iload 5, 2) := by decide +kernel
theorem dX7_doorComes_129 : decode cX7_doorComes 129 = .ok (.iastore, 1) := by decide +kernel
theorem dX7_doorComes_130 : decode cX7_doorComes 130 = .ok (.aload_n 0, 1) := by decide +kernel
theorem dX7_doorComes_131 : decode cX7_doorComes 131 = .ok (.getfield 7, 3) := by decide +kernel
theorem dX7_doorComes_134 : decode cX7_doorComes 134 = .ok (.iconst 0, 1) := by decide +kernel
theorem dX7_doorComes_135 : decode cX7_doorComes 135 = .ok (.dup2, 1) := by decide +kernel
theorem dX7_doorComes_136 : decode cX7_doorComes 136 = .ok (.iaload, 1) := by decide +kernel
theorem dX7_doorComes_137 : decode cX7_doorComes 137 = .ok (.iconst 1, 1) := by decide +kernel
theorem dX7_doorComes_138 : decode cX7_doorComes 138 = .ok (.iadd, 1) := by decide +kernel
theorem dX7_doorComes_139 : decode cX7_doorComes 139 = .ok (.iastore, 1) := by decide +kernel
theorem dX7_doorComes_140 : decode cX7_doorComes 140 = .ok (.aload_n 0, 1) := by decide +kernel
theorem dX7_doorComes_141 : decode cX7_doorComes 141 = .ok (.iload 6, 2) := by decide +kernel
theorem dX7_doorComes_143 : decode cX7_doorComes 143 = .ok (.invokevirtual 69, 3) := by decide +kernel
theorem dX7_doorComes_146 : decode cX7_doorComes 146 = .ok (.ireturn, 1) := by decide +kernel
set_option maxRecDepth 20000 in
theorem ggX7_door_X7_looksBack : GoodIn wsX7_door wsX7_looksBack := goodIn_ca (goodIn_r _ [5, 6, 7, 8, 9, 4, 10, 45, 46, 47, 48, 49, 50, 51, 52, 53, 54, 55, 56, 57, 58, 59, 60, 61, 62] (by decide +kernel) (by decide +kernel)) (goodIn_sub (fun _ h => List.mem_cons_of_mem _ (List.mem_append_right _ h)) (by decide +kernel))
set_option maxRecDepth 20000 in
theorem gX7_door_X7_looksBack : GoodIn wsX7_door (wsV RX7 89 RX7 yX7_looksBack wsX7_looksBack) := goodIn_app (goodIn_of _ (by decide +kernel)) ggX7_door_X7_looksBack
set_option maxRecDepth 20000 in
theorem ggX7_door_X7_doorComes : GoodIn wsX7_door wsX7_doorComes := goodIn_ca (goodIn_r _ [14, 6, 15, 16, 4, 17, 18, 19, 20, 21, 22, 23, 24, 25, 26, 27, 28, 29, 30, 31, 32, 33, 34, 35, 36, 37, 38, 45, 46, 47, 48, 49, 50, 51, 52, 53, 54, 55, 56, 57, 58, 59, 60, 61, 62] (by decide +kernel) (by decide +kernel)) (goodIn_sub (fun _ h => List.mem_cons_of_mem _ (List.mem_append_right _ h)) (by decide +kernel))
set_option maxRecDepth 20000 in
theorem gX7_door_X7_doorComes : GoodIn wsX7_door (wsV RX7 92 RX7 yX7_doorComes wsX7_doorComes) := goodIn_app (goodIn_of _ (by decide +kernel)) ggX7_door_X7_doorComes
set_option maxRecDepth 20000 in
theorem ggX7_door_X7_kept : GoodIn wsX7_door wsX7_kept := goodIn_ca (goodIn_r _ [42, 25, 7, 6, 43, 44, 8, 9, 4, 10, 45, 46, 47, 48, 49, 50, 51, 52, 53, 54, 55, 56, 57, 58, 59, 60, 61, 62] (by decide +kernel) (by decide +kernel)) (goodIn_sub (fun _ h => List.mem_cons_of_mem _ (List.mem_append_right _ h)) (by decide +kernel))
set_option maxRecDepth 20000 in
theorem gX7_door_X7_kept : GoodIn wsX7_door (wsV RX7 96 RX7 yX7_kept wsX7_kept) := goodIn_app (goodIn_of _ (by decide +kernel)) ggX7_door_X7_kept
theorem dX7_door_0 : decode cX7_door 0 = .ok (.aload_n 0, 1) := by decide +kernel
theorem dX7_door_1 : decode cX7_door 1 = .ok (.invokevirtual 89, 3) := by decide +kernel
theorem dX7_door_4 : decode cX7_door 4 = .ok (.aload_n 0, 1) := by decide +kernel
theorem dX7_door_5 : decode cX7_door 5 = .ok (.aload_n 0, 1) := by decide +kernel
theorem dX7_door_6 : decode cX7_door 6 = .ok (.iload_n 1, 1) := by decide +kernel
theorem dX7_door_7 : decode cX7_door 7 = .ok (.iload_n 2, 1) := by decide +kernel
theorem dX7_door_8 : decode cX7_door 8 = .ok (.iload_n 3, 1) := by decide +kernel
theorem dX7_door_9 : decode cX7_door 9 = .ok (.ifCond .eq 7, 3) := by decide +kernel
theorem dX7_door_12 : decode cX7_door 12 = .ok (.iconst 1, 1) := by decide +kernel
theorem dX7_door_13 : decode cX7_door 13 = .ok (.goto 4, 3) := by decide +kernel
theorem dX7_door_16 : decode cX7_door 16 = .ok (.iconst 0, 1) := by decide +kernel
theorem dX7_door_17 : decode cX7_door 17 = .ok (.iload 4, 2) := by decide +kernel
theorem dX7_door_19 : decode cX7_door 19 = .ok (.iload 5, 2) := by decide +kernel
theorem dX7_door_21 : decode cX7_door 21 = .ok (.invokevirtual 92, 3) := by decide +kernel
theorem dX7_door_24 : decode cX7_door 24 = .ok (.invokevirtual 96, 3) := by decide +kernel
theorem dX7_door_27 : decode cX7_door 27 = .ok (.ireturn, 1) := by decide +kernel
set_option maxRecDepth 20000 in
theorem ggX7_sillComes_X7_isCase : GoodIn wsX7_sillComes wsX7_isCase := goodIn_r _ [5, 6, 7, 4, 8] (by decide +kernel) (by decide +kernel)
set_option maxRecDepth 20000 in
theorem gX7_sillComes_X7_isCase : GoodIn wsX7_sillComes (va_wsS RX7 99 yX7_isCase wsX7_isCase) := goodIn_app (goodIn_of _ (by decide +kernel)) ggX7_sillComes_X7_isCase
set_option maxRecDepth 20000 in
theorem ggX7_sillComes_X7_fails : GoodIn wsX7_sillComes wsX7_fails := goodIn_r _ [12, 13, 24, 25, 26, 27, 28, 29, 30, 31, 32, 33, 34, 35, 36, 37, 38, 39, 40, 41] (by decide +kernel) (by decide +kernel)
set_option maxRecDepth 20000 in
theorem gX7_sillComes_X7_fails : GoodIn wsX7_sillComes (wsV RX7 51 RX7 yX7_fails wsX7_fails) := goodIn_app (goodIn_of _ (by decide +kernel)) ggX7_sillComes_X7_fails
set_option maxRecDepth 20000 in
theorem ggX7_sillComes_X7_refused : GoodIn wsX7_sillComes wsX7_refused := goodIn_r _ [17, 18, 19, 9, 10, 11, 4, 12, 13, 24, 25, 26, 27, 28, 29, 30, 31, 32, 33, 34, 35, 36, 37, 38, 39, 40, 41] (by decide +kernel) (by decide +kernel)
set_option maxRecDepth 20000 in
theorem gX7_sillComes_X7_refused : GoodIn wsX7_sillComes (wsV RX7 86 RX7 yX7_refused wsX7_refused) := goodIn_app (goodIn_of _ (by decide +kernel)) ggX7_sillComes_X7_refused
set_option maxRecDepth 20000 in
theorem ggX7_sillComes_X7_done : GoodIn wsX7_sillComes wsX7_done := goodIn_r _ [23, 13, 24, 25, 26, 27, 28, 29, 30, 31, 32, 33, 34, 35, 36, 37, 38, 39, 40, 41] (by decide +kernel) (by decide +kernel)
set_option maxRecDepth 20000 in
theorem gX7_sillComes_X7_done : GoodIn wsX7_sillComes (wsV RX7 69 RX7 yX7_done wsX7_done) := goodIn_app (goodIn_of _ (by decide +kernel)) ggX7_sillComes_X7_done
theorem dX7_sillComes_0 : decode cX7_sillComes 0 = .ok (.iload_n 1, 1) := by decide +kernel
theorem dX7_sillComes_1 : decode cX7_sillComes 1 = .ok (.invokestatic 99, 3) := by decide +kernel
theorem dX7_sillComes_4 : decode cX7_sillComes 4 = .ok (.ifCond .ne 9, 3) := by decide +kernel
theorem dX7_sillComes_7 : decode cX7_sillComes 7 = .ok (.aload_n 0, 1) := by decide +kernel
theorem dX7_sillComes_8 : decode cX7_sillComes 8 = .ok (.iconst 1, 1) := by decide +kernel
theorem dX7_sillComes_9 : decode cX7_sillComes 9 = .ok (.invokevirtual 51, 3) := by decide +kernel
theorem dX7_sillComes_12 : decode cX7_sillComes 12 = .ok (.ireturn, 1) := by decide +kernel
theorem dX7_sillComes_13 : decode cX7_sillComes 13 = .ok (.aload_n 0, 1) := by decide +kernel
theorem dX7_sillComes_14 : decode cX7_sillComes 14 = .ok (.getfield 7, 3) := by decide +kernel
theorem dX7_sillComes_17 : decode cX7_sillComes 17 = .ok (.iconst 1, 1) := by decide +kernel
theorem dX7_sillComes_18 : decode cX7_sillComes 18 = .ok (.iaload, 1) := by decide +kernel
theorem dX7_sillComes_19 : decode cX7_sillComes 19 = .ok (.istore_n 2, 1) := by decide +kernel
theorem dX7_sillComes_20 : decode cX7_sillComes 20 = .ok (.iload_n 2, 1) := by decide +kernel
theorem dX7_sillComes_21 : decode cX7_sillComes 21 = .ok (.bipush 6, 2) := by decide +kernel
theorem dX7_sillComes_23 : decode cX7_sillComes 23 = .ok (.if_icmp .ne 12, 3) := by decide +kernel
theorem dX7_sillComes_26 : decode cX7_sillComes 26 = .ok (.aload_n 0, 1) := by decide +kernel
theorem dX7_sillComes_27 : decode cX7_sillComes 27 = .ok (.iconst 1, 1) := by decide +kernel
theorem dX7_sillComes_28 : decode cX7_sillComes 28 = .ok (.bipush 6, 2) := by decide +kernel
theorem dX7_sillComes_30 : decode cX7_sillComes 30 = .ok (.iconst 2, 1) := by decide +kernel
theorem dX7_sillComes_31 : decode cX7_sillComes 31 = .ok (.invokevirtual 86, 3) := by decide +kernel
theorem dX7_sillComes_34 : decode cX7_sillComes 34 = .ok (.ireturn, 1) := by decide +kernel
theorem dX7_sillComes_35 : decode cX7_sillComes 35 = .ok (.aload_n 0, 1) := by decide +kernel
theorem dX7_sillComes_36 : decode cX7_sillComes 36 = .ok (.getfield 7, 3) := by decide +kernel
theorem dX7_sillComes_39 : decode cX7_sillComes 39 = .ok (.bipush 112, 2) := by decide +kernel
theorem dX7_sillComes_41 : decode cX7_sillComes 41 = .ok (.iload_n 2, 1) := by decide +kernel
theorem dX7_sillComes_42 : decode cX7_sillComes 42 = .ok (.iadd, 1) := by decide +kernel
theorem dX7_sillComes_43 : decode cX7_sillComes 43 = .ok (.iload_n 1, 1) := by decide +kernel
theorem dX7_sillComes_44 : decode cX7_sillComes 44 = .ok (.iastore, 1) := by decide +kernel
theorem dX7_sillComes_45 : decode cX7_sillComes 45 = .ok (.aload_n 0, 1) := by decide +kernel
theorem dX7_sillComes_46 : decode cX7_sillComes 46 = .ok (.getfield 7, 3) := by decide +kernel
theorem dX7_sillComes_49 : decode cX7_sillComes 49 = .ok (.iconst 1, 1) := by decide +kernel
theorem dX7_sillComes_50 : decode cX7_sillComes 50 = .ok (.dup2, 1) := by decide +kernel
theorem dX7_sillComes_51 : decode cX7_sillComes 51 = .ok (.iaload, 1) := by decide +kernel
theorem dX7_sillComes_52 : decode cX7_sillComes 52 = .ok (.iconst 1, 1) := by decide +kernel
theorem dX7_sillComes_53 : decode cX7_sillComes 53 = .ok (.iadd, 1) := by decide +kernel
theorem dX7_sillComes_54 : decode cX7_sillComes 54 = .ok (.iastore, 1) := by decide +kernel
theorem dX7_sillComes_55 : decode cX7_sillComes 55 = .ok (.aload_n 0, 1) := by decide +kernel
theorem dX7_sillComes_56 : decode cX7_sillComes 56 = .ok (.iload_n 2, 1) := by decide +kernel
theorem dX7_sillComes_57 : decode cX7_sillComes 57 = .ok (.invokevirtual 69, 3) := by decide +kernel
theorem dX7_sillComes_60 : decode cX7_sillComes 60 = .ok (.ireturn, 1) := by decide +kernel
set_option maxRecDepth 20000 in
theorem ggX7_threshold_X7_looksBack : GoodIn wsX7_threshold wsX7_looksBack := goodIn_ca (goodIn_r _ [5, 6, 7, 8, 9, 4, 10, 42, 43, 44, 45, 46, 47, 48, 49, 50, 51, 52, 53, 54, 55, 56, 57, 58, 59] (by decide +kernel) (by decide +kernel)) (goodIn_sub (fun _ h => List.mem_cons_of_mem _ (List.mem_append_right _ h)) (by decide +kernel))
set_option maxRecDepth 20000 in
theorem gX7_threshold_X7_looksBack : GoodIn wsX7_threshold (wsV RX7 89 RX7 yX7_looksBack wsX7_looksBack) := goodIn_app (goodIn_of _ (by decide +kernel)) ggX7_threshold_X7_looksBack
set_option maxRecDepth 20000 in
theorem ggX7_threshold_X7_sillComes : GoodIn wsX7_threshold wsX7_sillComes := goodIn_ca (goodIn_r _ [14, 6, 15, 16, 4, 17, 18, 19, 20, 21, 22, 23, 24, 25, 26, 27, 28, 29, 30, 31, 32, 33, 34, 35, 42, 43, 44, 45, 46, 47, 48, 49, 50, 51, 52, 53, 54, 55, 56, 57, 58, 59] (by decide +kernel) (by decide +kernel)) (goodIn_sub (fun _ h => List.mem_cons_of_mem _ (List.mem_append_right _ h)) (by decide +kernel))
set_option maxRecDepth 20000 in
theorem gX7_threshold_X7_sillComes : GoodIn wsX7_threshold (wsV RX7 102 RX7 yX7_sillComes wsX7_sillComes) := goodIn_app (goodIn_of _ (by decide +kernel)) ggX7_threshold_X7_sillComes
set_option maxRecDepth 20000 in
theorem ggX7_threshold_X7_kept : GoodIn wsX7_threshold wsX7_kept := goodIn_ca (goodIn_r _ [39, 25, 7, 6, 40, 41, 8, 9, 4, 10, 42, 43, 44, 45, 46, 47, 48, 49, 50, 51, 52, 53, 54, 55, 56, 57, 58, 59] (by decide +kernel) (by decide +kernel)) (goodIn_sub (fun _ h => List.mem_cons_of_mem _ (List.mem_append_right _ h)) (by decide +kernel))
set_option maxRecDepth 20000 in
theorem gX7_threshold_X7_kept : GoodIn wsX7_threshold (wsV RX7 96 RX7 yX7_kept wsX7_kept) := goodIn_app (goodIn_of _ (by decide +kernel)) ggX7_threshold_X7_kept
theorem dX7_threshold_0 : decode cX7_threshold 0 = .ok (.aload_n 0, 1) := by decide +kernel
theorem dX7_threshold_1 : decode cX7_threshold 1 = .ok (.invokevirtual 89, 3) := by decide +kernel
theorem dX7_threshold_4 : decode cX7_threshold 4 = .ok (.aload_n 0, 1) := by decide +kernel
theorem dX7_threshold_5 : decode cX7_threshold 5 = .ok (.aload_n 0, 1) := by decide +kernel
theorem dX7_threshold_6 : decode cX7_threshold 6 = .ok (.iload_n 1, 1) := by decide +kernel
theorem dX7_threshold_7 : decode cX7_threshold 7 = .ok (.invokevirtual 102, 3) := by decide +kernel
theorem dX7_threshold_10 : decode cX7_threshold 10 = .ok (.invokevirtual 96, 3) := by decide +kernel
theorem dX7_threshold_13 : decode cX7_threshold 13 = .ok (.ireturn, 1) := by decide +kernel
set_option maxRecDepth 20000 in
theorem ggX7_governs_X7_isSill : GoodIn wsX7_governs wsX7_isSill := goodIn_ca (goodIn_r _ [6, 1, 7, 8, 5, 9, 28, 29, 30, 31, 32, 33, 34, 35, 36, 37, 38, 39, 40, 41, 42, 43, 44, 45] (by decide +kernel) (by decide +kernel)) (goodIn_sub (fun _ h => List.mem_cons_of_mem _ (List.mem_append_right _ h)) (by decide +kernel))
set_option maxRecDepth 20000 in
theorem gX7_governs_X7_isSill : GoodIn wsX7_governs (wsV RX7 105 RX7 yX7_isSill wsX7_isSill) := goodIn_app (goodIn_of _ (by decide +kernel)) ggX7_governs_X7_isSill
set_option maxRecDepth 20000 in
theorem ggX7_governs_X7_fails : GoodIn wsX7_governs wsX7_fails := goodIn_r _ [13, 14, 28, 29, 30, 31, 32, 33, 34, 35, 36, 37, 38, 39, 40, 41, 42, 43, 44, 45] (by decide +kernel) (by decide +kernel)
set_option maxRecDepth 20000 in
theorem gX7_governs_X7_fails : GoodIn wsX7_governs (wsV RX7 51 RX7 yX7_fails wsX7_fails) := goodIn_app (goodIn_of _ (by decide +kernel)) ggX7_governs_X7_fails
set_option maxRecDepth 20000 in
theorem ggX7_governs_X7_isCase : GoodIn wsX7_governs wsX7_isCase := goodIn_r _ [17, 7, 8, 5, 9] (by decide +kernel) (by decide +kernel)
set_option maxRecDepth 20000 in
theorem gX7_governs_X7_isCase : GoodIn wsX7_governs (va_wsS RX7 99 yX7_isCase wsX7_isCase) := goodIn_app (goodIn_of _ (by decide +kernel)) ggX7_governs_X7_isCase
set_option maxRecDepth 20000 in
theorem ggX7_governs_X7_refused : GoodIn wsX7_governs wsX7_refused := goodIn_r _ [21, 22, 23, 10, 11, 12, 5, 13, 14, 28, 29, 30, 31, 32, 33, 34, 35, 36, 37, 38, 39, 40, 41, 42, 43, 44, 45] (by decide +kernel) (by decide +kernel)
set_option maxRecDepth 20000 in
theorem gX7_governs_X7_refused : GoodIn wsX7_governs (wsV RX7 86 RX7 yX7_refused wsX7_refused) := goodIn_app (goodIn_of _ (by decide +kernel)) ggX7_governs_X7_refused
set_option maxRecDepth 20000 in
theorem ggX7_governs_X7_done : GoodIn wsX7_governs wsX7_done := goodIn_r _ [27, 14, 28, 29, 30, 31, 32, 33, 34, 35, 36, 37, 38, 39, 40, 41, 42, 43, 44, 45] (by decide +kernel) (by decide +kernel)
set_option maxRecDepth 20000 in
theorem gX7_governs_X7_done : GoodIn wsX7_governs (wsV RX7 69 RX7 yX7_done wsX7_done) := goodIn_app (goodIn_of _ (by decide +kernel)) ggX7_governs_X7_done
theorem dX7_governs_0 : decode cX7_governs 0 = .ok (.aload_n 0, 1) := by decide +kernel
theorem dX7_governs_1 : decode cX7_governs 1 = .ok (.iload_n 1, 1) := by decide +kernel
theorem dX7_governs_2 : decode cX7_governs 2 = .ok (.invokevirtual 105, 3) := by decide +kernel
theorem dX7_governs_5 : decode cX7_governs 5 = .ok (.ifCond .ne 9, 3) := by decide +kernel
theorem dX7_governs_8 : decode cX7_governs 8 = .ok (.aload_n 0, 1) := by decide +kernel
theorem dX7_governs_9 : decode cX7_governs 9 = .ok (.iconst 1, 1) := by decide +kernel
theorem dX7_governs_10 : decode cX7_governs 10 = .ok (.invokevirtual 51, 3) := by decide +kernel
theorem dX7_governs_13 : decode cX7_governs 13 = .ok (.ireturn, 1) := by decide +kernel
theorem dX7_governs_14 : decode cX7_governs 14 = .ok (.iload_n 2, 1) := by decide +kernel
theorem dX7_governs_15 : decode cX7_governs 15 = .ok (.invokestatic 99, 3) := by decide +kernel
theorem dX7_governs_18 : decode cX7_governs 18 = .ok (.ifCond .ne 9, 3) := by decide +kernel
theorem dX7_governs_21 : decode cX7_governs 21 = .ok (.aload_n 0, 1) := by decide +kernel
theorem dX7_governs_22 : decode cX7_governs 22 = .ok (.iconst 2, 1) := by decide +kernel
theorem dX7_governs_23 : decode cX7_governs 23 = .ok (.invokevirtual 51, 3) := by decide +kernel
theorem dX7_governs_26 : decode cX7_governs 26 = .ok (.ireturn, 1) := by decide +kernel
theorem dX7_governs_27 : decode cX7_governs 27 = .ok (.aload_n 0, 1) := by decide +kernel
theorem dX7_governs_28 : decode cX7_governs 28 = .ok (.getfield 7, 3) := by decide +kernel
theorem dX7_governs_31 : decode cX7_governs 31 = .ok (.bipush 112, 2) := by decide +kernel
theorem dX7_governs_33 : decode cX7_governs 33 = .ok (.iload_n 1, 1) := by decide +kernel
theorem dX7_governs_34 : decode cX7_governs 34 = .ok (.iadd, 1) := by decide +kernel
theorem dX7_governs_35 : decode cX7_governs 35 = .ok (.iaload, 1) := by decide +kernel
theorem dX7_governs_36 : decode cX7_governs 36 = .ok (.istore_n 3, 1) := by decide +kernel
theorem dX7_governs_37 : decode cX7_governs 37 = .ok (.iload_n 3, 1) := by decide +kernel
theorem dX7_governs_38 : decode cX7_governs 38 = .ok (.iload_n 2, 1) := by decide +kernel
theorem dX7_governs_39 : decode cX7_governs 39 = .ok (.if_icmp .ne 11, 3) := by decide +kernel
theorem dX7_governs_42 : decode cX7_governs 42 = .ok (.aload_n 0, 1) := by decide +kernel
theorem dX7_governs_43 : decode cX7_governs 43 = .ok (.iconst 2, 1) := by decide +kernel
theorem dX7_governs_44 : decode cX7_governs 44 = .ok (.iload_n 2, 1) := by decide +kernel
theorem dX7_governs_45 : decode cX7_governs 45 = .ok (.iconst 3, 1) := by decide +kernel
theorem dX7_governs_46 : decode cX7_governs 46 = .ok (.invokevirtual 86, 3) := by decide +kernel
theorem dX7_governs_49 : decode cX7_governs 49 = .ok (.ireturn, 1) := by decide +kernel
theorem dX7_governs_50 : decode cX7_governs 50 = .ok (.aload_n 0, 1) := by decide +kernel
theorem dX7_governs_51 : decode cX7_governs 51 = .ok (.getfield 7, 3) := by decide +kernel
theorem dX7_governs_54 : decode cX7_governs 54 = .ok (.bipush 112, 2) := by decide +kernel
theorem dX7_governs_56 : decode cX7_governs 56 = .ok (.iload_n 1, 1) := by decide +kernel
theorem dX7_governs_57 : decode cX7_governs 57 = .ok (.iadd, 1) := by decide +kernel
theorem dX7_governs_58 : decode cX7_governs 58 = .ok (.iload_n 2, 1) := by decide +kernel
theorem dX7_governs_59 : decode cX7_governs 59 = .ok (.iastore, 1) := by decide +kernel
theorem dX7_governs_60 : decode cX7_governs 60 = .ok (.aload_n 0, 1) := by decide +kernel
theorem dX7_governs_61 : decode cX7_governs 61 = .ok (.iload_n 3, 1) := by decide +kernel
theorem dX7_governs_62 : decode cX7_governs 62 = .ok (.invokevirtual 69, 3) := by decide +kernel
theorem dX7_governs_65 : decode cX7_governs 65 = .ok (.ireturn, 1) := by decide +kernel
set_option maxRecDepth 20000 in
theorem ggX7_govern_X7_looksBack : GoodIn wsX7_govern wsX7_looksBack := goodIn_ca (goodIn_r _ [5, 6, 7, 8, 9, 4, 10, 46, 47, 48, 49, 50, 51, 52, 53, 54, 55, 56, 57, 58, 59, 60, 61, 62, 63] (by decide +kernel) (by decide +kernel)) (goodIn_sub (fun _ h => List.mem_cons_of_mem _ (List.mem_append_right _ h)) (by decide +kernel))
set_option maxRecDepth 20000 in
theorem gX7_govern_X7_looksBack : GoodIn wsX7_govern (wsV RX7 89 RX7 yX7_looksBack wsX7_looksBack) := goodIn_app (goodIn_of _ (by decide +kernel)) ggX7_govern_X7_looksBack
set_option maxRecDepth 20000 in
theorem ggX7_govern_X7_governs : GoodIn wsX7_govern wsX7_governs := goodIn_ca (goodIn_r _ [14, 6, 15, 16, 17, 4, 18, 19, 20, 21, 22, 23, 24, 25, 26, 27, 28, 29, 30, 31, 32, 33, 34, 35, 36, 37, 38, 39, 46, 47, 48, 49, 50, 51, 52, 53, 54, 55, 56, 57, 58, 59, 60, 61, 62, 63] (by decide +kernel) (by decide +kernel)) (goodIn_sub (fun _ h => List.mem_cons_of_mem _ (List.mem_append_right _ h)) (by decide +kernel))
set_option maxRecDepth 20000 in
theorem gX7_govern_X7_governs : GoodIn wsX7_govern (wsV RX7 108 RX7 yX7_governs wsX7_governs) := goodIn_app (goodIn_of _ (by decide +kernel)) ggX7_govern_X7_governs
set_option maxRecDepth 20000 in
theorem ggX7_govern_X7_kept : GoodIn wsX7_govern wsX7_kept := goodIn_ca (goodIn_r _ [43, 26, 7, 6, 44, 45, 8, 9, 4, 10, 46, 47, 48, 49, 50, 51, 52, 53, 54, 55, 56, 57, 58, 59, 60, 61, 62, 63] (by decide +kernel) (by decide +kernel)) (goodIn_sub (fun _ h => List.mem_cons_of_mem _ (List.mem_append_right _ h)) (by decide +kernel))
set_option maxRecDepth 20000 in
theorem gX7_govern_X7_kept : GoodIn wsX7_govern (wsV RX7 96 RX7 yX7_kept wsX7_kept) := goodIn_app (goodIn_of _ (by decide +kernel)) ggX7_govern_X7_kept
theorem dX7_govern_0 : decode cX7_govern 0 = .ok (.aload_n 0, 1) := by decide +kernel
theorem dX7_govern_1 : decode cX7_govern 1 = .ok (.invokevirtual 89, 3) := by decide +kernel
theorem dX7_govern_4 : decode cX7_govern 4 = .ok (.aload_n 0, 1) := by decide +kernel
theorem dX7_govern_5 : decode cX7_govern 5 = .ok (.aload_n 0, 1) := by decide +kernel
theorem dX7_govern_6 : decode cX7_govern 6 = .ok (.iload_n 1, 1) := by decide +kernel
theorem dX7_govern_7 : decode cX7_govern 7 = .ok (.iload_n 2, 1) := by decide +kernel
theorem dX7_govern_8 : decode cX7_govern 8 = .ok (.invokevirtual 108, 3) := by decide +kernel
theorem dX7_govern_11 : decode cX7_govern 11 = .ok (.invokevirtual 96, 3) := by decide +kernel
theorem dX7_govern_14 : decode cX7_govern 14 = .ok (.ireturn, 1) := by decide +kernel
set_option maxRecDepth 20000 in
theorem ggX7_sets_X7_isDoor : GoodIn wsX7_sets wsX7_isDoor := goodIn_ca (goodIn_r _ [6, 1, 7, 8, 5, 9, 33, 34, 35, 36, 37, 38, 39, 40, 41, 42, 43, 44, 45, 46, 47, 48, 49, 50] (by decide +kernel) (by decide +kernel)) (goodIn_sub (fun _ h => List.mem_cons_of_mem _ (List.mem_append_right _ h)) (by decide +kernel))
set_option maxRecDepth 20000 in
theorem gX7_sets_X7_isDoor : GoodIn wsX7_sets (wsV RX7 112 RX7 yX7_isDoor wsX7_isDoor) := goodIn_app (goodIn_of _ (by decide +kernel)) ggX7_sets_X7_isDoor
set_option maxRecDepth 20000 in
theorem ggX7_sets_X7_isSill : GoodIn wsX7_sets wsX7_isSill := goodIn_ca (goodIn_r _ [13, 1, 7, 8, 5, 9, 33, 34, 35, 36, 37, 38, 39, 40, 41, 42, 43, 44, 45, 46, 47, 48, 49, 50] (by decide +kernel) (by decide +kernel)) (goodIn_sub (fun _ h => List.mem_cons_of_mem _ (List.mem_append_right _ h)) (by decide +kernel))
set_option maxRecDepth 20000 in
theorem gX7_sets_X7_isSill : GoodIn wsX7_sets (wsV RX7 105 RX7 yX7_isSill wsX7_isSill) := goodIn_app (goodIn_of _ (by decide +kernel)) ggX7_sets_X7_isSill
set_option maxRecDepth 20000 in
theorem ggX7_sets_X7_fails : GoodIn wsX7_sets wsX7_fails := goodIn_r _ [17, 18, 33, 34, 35, 36, 37, 38, 39, 40, 41, 42, 43, 44, 45, 46, 47, 48, 49, 50] (by decide +kernel) (by decide +kernel)
set_option maxRecDepth 20000 in
theorem gX7_sets_X7_fails : GoodIn wsX7_sets (wsV RX7 51 RX7 yX7_fails wsX7_fails) := goodIn_app (goodIn_of _ (by decide +kernel)) ggX7_sets_X7_fails
set_option maxRecDepth 20000 in
theorem ggX7_sets_X7_refused : GoodIn wsX7_sets wsX7_refused := goodIn_r _ [22, 23, 24, 14, 15, 16, 5, 17, 18, 33, 34, 35, 36, 37, 38, 39, 40, 41, 42, 43, 44, 45, 46, 47, 48, 49, 50] (by decide +kernel) (by decide +kernel)
set_option maxRecDepth 20000 in
theorem gX7_sets_X7_refused : GoodIn wsX7_sets (wsV RX7 86 RX7 yX7_refused wsX7_refused) := goodIn_app (goodIn_of _ (by decide +kernel)) ggX7_sets_X7_refused
set_option maxRecDepth 20000 in
theorem ggX7_sets_X7_caseOf : GoodIn wsX7_sets wsX7_caseOf := goodIn_ca (goodIn_r _ [28, 1, 33, 34, 35, 36, 37, 38, 39, 40, 41, 42, 43, 44, 45, 46, 47, 48, 49, 50] (by decide +kernel) (by decide +kernel)) (goodIn_sub (fun _ h => List.mem_cons_of_mem _ (List.mem_append_right _ h)) (by decide +kernel))
set_option maxRecDepth 20000 in
theorem gX7_sets_X7_caseOf : GoodIn wsX7_sets (wsV RX7 76 RX7 yX7_caseOf wsX7_caseOf) := goodIn_app (goodIn_of _ (by decide +kernel)) ggX7_sets_X7_caseOf
set_option maxRecDepth 20000 in
theorem ggX7_sets_X7_done : GoodIn wsX7_sets wsX7_done := goodIn_r _ [32, 18, 33, 34, 35, 36, 37, 38, 39, 40, 41, 42, 43, 44, 45, 46, 47, 48, 49, 50] (by decide +kernel) (by decide +kernel)
set_option maxRecDepth 20000 in
theorem gX7_sets_X7_done : GoodIn wsX7_sets (wsV RX7 69 RX7 yX7_done wsX7_done) := goodIn_app (goodIn_of _ (by decide +kernel)) ggX7_sets_X7_done
theorem dX7_sets_0 : decode cX7_sets 0 = .ok (.aload_n 0, 1) := by decide +kernel
theorem dX7_sets_1 : decode cX7_sets 1 = .ok (.iload_n 1, 1) := by decide +kernel
theorem dX7_sets_2 : decode cX7_sets 2 = .ok (.invokevirtual 112, 3) := by decide +kernel
theorem dX7_sets_5 : decode cX7_sets 5 = .ok (.ifCond .eq 16, 3) := by decide +kernel
theorem dX7_sets_8 : decode cX7_sets 8 = .ok (.iload_n 2, 1) := by decide +kernel
theorem dX7_sets_9 : decode cX7_sets 9 = .ok (.iconst (-1), 1) := by decide +kernel
theorem dX7_sets_10 : decode cX7_sets 10 = .ok (.if_icmp .eq 17, 3) := by decide +kernel
theorem dX7_sets_13 : decode cX7_sets 13 = .ok (.aload_n 0, 1) := by decide +kernel
theorem dX7_sets_14 : decode cX7_sets 14 = .ok (.iload_n 2, 1) := by decide +kernel
theorem dX7_sets_15 : decode cX7_sets 15 = .ok (.invokevirtual 105, 3) := by decide +kernel
theorem dX7_sets_18 : decode cX7_sets 18 = .ok (.ifCond .ne 9, 3) := by decide +kernel
theorem dX7_sets_21 : decode cX7_sets 21 = .ok (.aload_n 0, 1) := by decide +kernel
theorem dX7_sets_22 : decode cX7_sets 22 = .ok (.iconst 1, 1) := by decide +kernel
theorem dX7_sets_23 : decode cX7_sets 23 = .ok (.invokevirtual 51, 3) := by decide +kernel
theorem dX7_sets_26 : decode cX7_sets 26 = .ok (.ireturn, 1) := by decide +kernel
theorem dX7_sets_27 : decode cX7_sets 27 = .ok (.aload_n 0, 1) := by decide +kernel
theorem dX7_sets_28 : decode cX7_sets 28 = .ok (.getfield 7, 3) := by decide +kernel
theorem dX7_sets_31 : decode cX7_sets 31 = .ok (.bipush 56, 2) := by decide +kernel
theorem dX7_sets_33 : decode cX7_sets 33 = .ok (.iload_n 1, 1) := by decide +kernel
theorem dX7_sets_34 : decode cX7_sets 34 = .ok (.iadd, 1) := by decide +kernel
theorem dX7_sets_35 : decode cX7_sets 35 = .ok (.iaload, 1) := by decide +kernel
theorem dX7_sets_36 : decode cX7_sets 36 = .ok (.iload_n 2, 1) := by decide +kernel
theorem dX7_sets_37 : decode cX7_sets 37 = .ok (.iconst 1, 1) := by decide +kernel
theorem dX7_sets_38 : decode cX7_sets 38 = .ok (.iadd, 1) := by decide +kernel
theorem dX7_sets_39 : decode cX7_sets 39 = .ok (.if_icmp .ne 11, 3) := by decide +kernel
theorem dX7_sets_42 : decode cX7_sets 42 = .ok (.aload_n 0, 1) := by decide +kernel
theorem dX7_sets_43 : decode cX7_sets 43 = .ok (.iconst 2, 1) := by decide +kernel
theorem dX7_sets_44 : decode cX7_sets 44 = .ok (.iload_n 2, 1) := by decide +kernel
theorem dX7_sets_45 : decode cX7_sets 45 = .ok (.iconst 2, 1) := by decide +kernel
theorem dX7_sets_46 : decode cX7_sets 46 = .ok (.invokevirtual 86, 3) := by decide +kernel
theorem dX7_sets_49 : decode cX7_sets 49 = .ok (.ireturn, 1) := by decide +kernel
theorem dX7_sets_50 : decode cX7_sets 50 = .ok (.aload_n 0, 1) := by decide +kernel
theorem dX7_sets_51 : decode cX7_sets 51 = .ok (.getfield 7, 3) := by decide +kernel
theorem dX7_sets_54 : decode cX7_sets 54 = .ok (.bipush 56, 2) := by decide +kernel
theorem dX7_sets_56 : decode cX7_sets 56 = .ok (.iload_n 1, 1) := by decide +kernel
theorem dX7_sets_57 : decode cX7_sets 57 = .ok (.iadd, 1) := by decide +kernel
theorem dX7_sets_58 : decode cX7_sets 58 = .ok (.iload_n 2, 1) := by decide +kernel
theorem dX7_sets_59 : decode cX7_sets 59 = .ok (.iconst 1, 1) := by decide +kernel
theorem dX7_sets_60 : decode cX7_sets 60 = .ok (.iadd, 1) := by decide +kernel
theorem dX7_sets_61 : decode cX7_sets 61 = .ok (.iastore, 1) := by decide +kernel
theorem dX7_sets_62 : decode cX7_sets 62 = .ok (.aload_n 0, 1) := by decide +kernel
theorem dX7_sets_63 : decode cX7_sets 63 = .ok (.aload_n 0, 1) := by decide +kernel
theorem dX7_sets_64 : decode cX7_sets 64 = .ok (.iload_n 1, 1) := by decide +kernel
theorem dX7_sets_65 : decode cX7_sets 65 = .ok (.invokevirtual 76, 3) := by decide +kernel
theorem dX7_sets_68 : decode cX7_sets 68 = .ok (.invokevirtual 69, 3) := by decide +kernel
theorem dX7_sets_71 : decode cX7_sets 71 = .ok (.ireturn, 1) := by decide +kernel
set_option maxRecDepth 20000 in
theorem ggX7_set_X7_looksBack : GoodIn wsX7_set wsX7_looksBack := goodIn_ca (goodIn_r _ [5, 6, 7, 8, 9, 4, 10, 51, 52, 53, 54, 55, 56, 57, 58, 59, 60, 61, 62, 63, 64, 65, 66, 67, 68] (by decide +kernel) (by decide +kernel)) (goodIn_sub (fun _ h => List.mem_cons_of_mem _ (List.mem_append_right _ h)) (by decide +kernel))
set_option maxRecDepth 20000 in
theorem gX7_set_X7_looksBack : GoodIn wsX7_set (wsV RX7 89 RX7 yX7_looksBack wsX7_looksBack) := goodIn_app (goodIn_of _ (by decide +kernel)) ggX7_set_X7_looksBack
set_option maxRecDepth 20000 in
theorem ggX7_set_X7_sets : GoodIn wsX7_set wsX7_sets := goodIn_ca (goodIn_r _ [14, 6, 15, 16, 17, 4, 18, 19, 20, 21, 22, 23, 24, 25, 26, 27, 28, 29, 30, 31, 32, 33, 34, 35, 36, 37, 38, 39, 40, 41, 42, 43, 44, 51, 52, 53, 54, 55, 56, 57, 58, 59, 60, 61, 62, 63, 64, 65, 66, 67, 68] (by decide +kernel) (by decide +kernel)) (goodIn_sub (fun _ h => List.mem_cons_of_mem _ (List.mem_append_right _ h)) (by decide +kernel))
set_option maxRecDepth 20000 in
theorem gX7_set_X7_sets : GoodIn wsX7_set (wsV RX7 115 RX7 yX7_sets wsX7_sets) := goodIn_app (goodIn_of _ (by decide +kernel)) ggX7_set_X7_sets
set_option maxRecDepth 20000 in
theorem ggX7_set_X7_kept : GoodIn wsX7_set wsX7_kept := goodIn_ca (goodIn_r _ [48, 30, 7, 6, 49, 50, 8, 9, 4, 10, 51, 52, 53, 54, 55, 56, 57, 58, 59, 60, 61, 62, 63, 64, 65, 66, 67, 68] (by decide +kernel) (by decide +kernel)) (goodIn_sub (fun _ h => List.mem_cons_of_mem _ (List.mem_append_right _ h)) (by decide +kernel))
set_option maxRecDepth 20000 in
theorem gX7_set_X7_kept : GoodIn wsX7_set (wsV RX7 96 RX7 yX7_kept wsX7_kept) := goodIn_app (goodIn_of _ (by decide +kernel)) ggX7_set_X7_kept
theorem dX7_set_0 : decode cX7_set 0 = .ok (.aload_n 0, 1) := by decide +kernel
theorem dX7_set_1 : decode cX7_set 1 = .ok (.invokevirtual 89, 3) := by decide +kernel
theorem dX7_set_4 : decode cX7_set 4 = .ok (.aload_n 0, 1) := by decide +kernel
theorem dX7_set_5 : decode cX7_set 5 = .ok (.aload_n 0, 1) := by decide +kernel
theorem dX7_set_6 : decode cX7_set 6 = .ok (.iload_n 1, 1) := by decide +kernel
theorem dX7_set_7 : decode cX7_set 7 = .ok (.iload_n 2, 1) := by decide +kernel
theorem dX7_set_8 : decode cX7_set 8 = .ok (.invokevirtual 115, 3) := by decide +kernel
theorem dX7_set_11 : decode cX7_set 11 = .ok (.invokevirtual 96, 3) := by decide +kernel
theorem dX7_set_14 : decode cX7_set 14 = .ok (.ireturn, 1) := by decide +kernel
set_option maxRecDepth 20000 in
theorem ggX7_tells_X7_isThird : GoodIn wsX7_tells wsX7_isThird := goodIn_r _ [5, 6, 7, 4, 8] (by decide +kernel) (by decide +kernel)
set_option maxRecDepth 20000 in
theorem gX7_tells_X7_isThird : GoodIn wsX7_tells (va_wsS RX7 79 yX7_isThird wsX7_isThird) := goodIn_app (goodIn_of _ (by decide +kernel)) ggX7_tells_X7_isThird
set_option maxRecDepth 20000 in
theorem ggX7_tells_X7_isCase : GoodIn wsX7_tells wsX7_isCase := goodIn_r _ [11, 6, 7, 4, 8] (by decide +kernel) (by decide +kernel)
set_option maxRecDepth 20000 in
theorem gX7_tells_X7_isCase : GoodIn wsX7_tells (va_wsS RX7 99 yX7_isCase wsX7_isCase) := goodIn_app (goodIn_of _ (by decide +kernel)) ggX7_tells_X7_isCase
set_option maxRecDepth 20000 in
theorem ggX7_tells_X7_in : GoodIn wsX7_tells wsX7_in := goodIn_r _ [8] (by decide +kernel) (by decide +kernel)
set_option maxRecDepth 20000 in
theorem gX7_tells_X7_in : GoodIn wsX7_tells (va_wsS RX7 72 yX7_in wsX7_in) := goodIn_app (goodIn_of _ (by decide +kernel)) ggX7_tells_X7_in
set_option maxRecDepth 20000 in
theorem ggX7_tells_X7_fails : GoodIn wsX7_tells wsX7_fails := goodIn_r _ [15, 16, 30, 31, 32, 33, 34, 35, 36, 37, 38, 39, 40, 41, 42, 43, 44, 45, 46, 47] (by decide +kernel) (by decide +kernel)
set_option maxRecDepth 20000 in
theorem gX7_tells_X7_fails : GoodIn wsX7_tells (wsV RX7 51 RX7 yX7_fails wsX7_fails) := goodIn_app (goodIn_of _ (by decide +kernel)) ggX7_tells_X7_fails
set_option maxRecDepth 20000 in
theorem ggX7_tells_X7_endingAt : GoodIn wsX7_tells wsX7_endingAt := goodIn_r _ [19] (by decide +kernel) (by decide +kernel)
set_option maxRecDepth 20000 in
theorem gX7_tells_X7_endingAt : GoodIn wsX7_tells (va_wsS RX7 62 yX7_endingAt wsX7_endingAt) := goodIn_app (goodIn_of _ (by decide +kernel)) ggX7_tells_X7_endingAt
set_option maxRecDepth 20000 in
theorem ggX7_tells_X7_refused : GoodIn wsX7_tells wsX7_refused := goodIn_r _ [23, 24, 25, 12, 13, 14, 4, 15, 16, 30, 31, 32, 33, 34, 35, 36, 37, 38, 39, 40, 41, 42, 43, 44, 45, 46, 47] (by decide +kernel) (by decide +kernel)
set_option maxRecDepth 20000 in
theorem gX7_tells_X7_refused : GoodIn wsX7_tells (wsV RX7 86 RX7 yX7_refused wsX7_refused) := goodIn_app (goodIn_of _ (by decide +kernel)) ggX7_tells_X7_refused
set_option maxRecDepth 20000 in
theorem ggX7_tells_X7_done : GoodIn wsX7_tells wsX7_done := goodIn_r _ [29, 16, 30, 31, 32, 33, 34, 35, 36, 37, 38, 39, 40, 41, 42, 43, 44, 45, 46, 47] (by decide +kernel) (by decide +kernel)
set_option maxRecDepth 20000 in
theorem gX7_tells_X7_done : GoodIn wsX7_tells (wsV RX7 69 RX7 yX7_done wsX7_done) := goodIn_app (goodIn_of _ (by decide +kernel)) ggX7_tells_X7_done
theorem dX7_tells_0 : decode cX7_tells 0 = .ok (.iload_n 1, 1) := by decide +kernel
theorem dX7_tells_1 : decode cX7_tells 1 = .ok (.invokestatic 79, 3) := by decide +kernel
theorem dX7_tells_4 : decode cX7_tells 4 = .ok (.ifCond .eq 21, 3) := by decide +kernel
theorem dX7_tells_7 : decode cX7_tells 7 = .ok (.iload_n 2, 1) := by decide +kernel
theorem dX7_tells_8 : decode cX7_tells 8 = .ok (.invokestatic 99, 3) := by decide +kernel
theorem dX7_tells_11 : decode cX7_tells 11 = .ok (.ifCond .eq 14, 3) := by decide +kernel
theorem dX7_tells_14 : decode cX7_tells 14 = .ok (.iload 4, 2) := by decide +kernel
theorem dX7_tells_16 : decode cX7_tells 16 = .ok (.iconst 0, 1) := by decide +kernel
theorem dX7_tells_17 : decode cX7_tells 17 = .ok (.bipush 25, 2) := by decide +kernel
theorem dX7_tells_19 : decode cX7_tells 19 = .ok (.invokestatic 72, 3) := by decide +kernel
theorem dX7_tells_22 : decode cX7_tells 22 = .ok (.ifCond .ne 9, 3) := by decide +kernel
theorem dX7_tells_25 : decode cX7_tells 25 = .ok (.aload_n 0, 1) := by decide +kernel
theorem dX7_tells_26 : decode cX7_tells 26 = .ok (.iconst 1, 1) := by decide +kernel
theorem dX7_tells_27 : decode cX7_tells 27 = .ok (.invokevirtual 51, 3) := by decide +kernel
theorem dX7_tells_30 : decode cX7_tells 30 = .ok (.ireturn, 1) := by decide +kernel
theorem dX7_tells_31 : decode cX7_tells 31 = .ok (.iload_n 1, 1) := by decide +kernel
theorem dX7_tells_32 : decode cX7_tells 32 = .ok (.iload_n 2, 1) := by decide +kernel
theorem dX7_tells_33 : decode cX7_tells 33 = .ok (.iload_n 3, 1) := by decide +kernel
theorem dX7_tells_34 : decode cX7_tells 34 = .ok (.invokestatic 62, 3) := by decide +kernel
theorem dX7_tells_37 : decode cX7_tells 37 = .ok (.istore 5, 2) := by decide +kernel
theorem dX7_tells_39 : decode cX7_tells 39 = .ok (.aload_n 0, 1) := by decide +kernel
theorem dX7_tells_40 : decode cX7_tells 40 = .ok (.getfield 7, 3) := by decide +kernel
theorem dX7_tells_43 : decode cX7_tells 43 = .ok (.iload 5, 2) := by decide +kernel
theorem dX7_tells_45 : decode cX7_tells 45 = .ok (.iaload, 1) := by decide +kernel
theorem dX7_tells_46 : decode cX7_tells 46 = .ok (.istore 6, 2) := by decide +kernel
theorem dX7_tells_48 : decode cX7_tells 48 = .ok (.iload 6, 2) := by decide +kernel
theorem dX7_tells_50 : decode cX7_tells 50 = .ok (.iload 4, 2) := by decide +kernel
theorem dX7_tells_52 : decode cX7_tells 52 = .ok (.if_icmp .ne 12, 3) := by decide +kernel
theorem dX7_tells_55 : decode cX7_tells 55 = .ok (.aload_n 0, 1) := by decide +kernel
theorem dX7_tells_56 : decode cX7_tells 56 = .ok (.iconst 2, 1) := by decide +kernel
theorem dX7_tells_57 : decode cX7_tells 57 = .ok (.iload 4, 2) := by decide +kernel
theorem dX7_tells_59 : decode cX7_tells 59 = .ok (.iconst 2, 1) := by decide +kernel
theorem dX7_tells_60 : decode cX7_tells 60 = .ok (.invokevirtual 86, 3) := by decide +kernel
theorem dX7_tells_63 : decode cX7_tells 63 = .ok (.ireturn, 1) := by decide +kernel
theorem dX7_tells_64 : decode cX7_tells 64 = .ok (.aload_n 0, 1) := by decide +kernel
theorem dX7_tells_65 : decode cX7_tells 65 = .ok (.getfield 7, 3) := by decide +kernel
theorem dX7_tells_68 : decode cX7_tells 68 = .ok (.iload 5, 2) := by decide +kernel
theorem dX7_tells_70 : decode cX7_tells 70 = .ok (.iload 4, 2) := by decide +kernel
theorem dX7_tells_72 : decode cX7_tells 72 = .ok (.iastore, 1) := by decide +kernel
theorem dX7_tells_73 : decode cX7_tells 73 = .ok (.aload_n 0, 1) := by decide +kernel
theorem dX7_tells_74 : decode cX7_tells 74 = .ok (.iload 6, 2) := by decide +kernel
theorem dX7_tells_76 : decode cX7_tells 76 = .ok (.invokevirtual 69, 3) := by decide +kernel
theorem dX7_tells_79 : decode cX7_tells 79 = .ok (.ireturn, 1) := by decide +kernel
set_option maxRecDepth 20000 in
theorem ggX7_tellEnding_X7_looksBack : GoodIn wsX7_tellEnding wsX7_looksBack := goodIn_ca (goodIn_r _ [5, 6, 7, 8, 9, 4, 10, 48, 49, 50, 51, 52, 53, 54, 55, 56, 57, 58, 59, 60, 61, 62, 63, 64, 65] (by decide +kernel) (by decide +kernel)) (goodIn_sub (fun _ h => List.mem_cons_of_mem _ (List.mem_append_right _ h)) (by decide +kernel))
set_option maxRecDepth 20000 in
theorem gX7_tellEnding_X7_looksBack : GoodIn wsX7_tellEnding (wsV RX7 89 RX7 yX7_looksBack wsX7_looksBack) := goodIn_app (goodIn_of _ (by decide +kernel)) ggX7_tellEnding_X7_looksBack
set_option maxRecDepth 20000 in
theorem ggX7_tellEnding_X7_tells : GoodIn wsX7_tellEnding wsX7_tells := goodIn_ca (goodIn_r _ [14, 6, 15, 16, 4, 17, 18, 19, 20, 21, 22, 23, 24, 25, 26, 27, 28, 29, 30, 31, 32, 33, 34, 35, 36, 37, 38, 39, 40, 41, 48, 49, 50, 51, 52, 53, 54, 55, 56, 57, 58, 59, 60, 61, 62, 63, 64, 65] (by decide +kernel) (by decide +kernel)) (goodIn_sub (fun _ h => List.mem_cons_of_mem _ (List.mem_append_right _ h)) (by decide +kernel))
set_option maxRecDepth 20000 in
theorem gX7_tellEnding_X7_tells : GoodIn wsX7_tellEnding (wsV RX7 118 RX7 yX7_tells wsX7_tells) := goodIn_app (goodIn_of _ (by decide +kernel)) ggX7_tellEnding_X7_tells
set_option maxRecDepth 20000 in
theorem ggX7_tellEnding_X7_kept : GoodIn wsX7_tellEnding wsX7_kept := goodIn_ca (goodIn_r _ [45, 28, 7, 6, 46, 47, 8, 9, 4, 10, 48, 49, 50, 51, 52, 53, 54, 55, 56, 57, 58, 59, 60, 61, 62, 63, 64, 65] (by decide +kernel) (by decide +kernel)) (goodIn_sub (fun _ h => List.mem_cons_of_mem _ (List.mem_append_right _ h)) (by decide +kernel))
set_option maxRecDepth 20000 in
theorem gX7_tellEnding_X7_kept : GoodIn wsX7_tellEnding (wsV RX7 96 RX7 yX7_kept wsX7_kept) := goodIn_app (goodIn_of _ (by decide +kernel)) ggX7_tellEnding_X7_kept
theorem dX7_tellEnding_0 : decode cX7_tellEnding 0 = .ok (.aload_n 0, 1) := by decide +kernel
theorem dX7_tellEnding_1 : decode cX7_tellEnding 1 = .ok (.invokevirtual 89, 3) := by decide +kernel
theorem dX7_tellEnding_4 : decode cX7_tellEnding 4 = .ok (.aload_n 0, 1) := by decide +kernel
theorem dX7_tellEnding_5 : decode cX7_tellEnding 5 = .ok (.aload_n 0, 1) := by decide +kernel
theorem dX7_tellEnding_6 : decode cX7_tellEnding 6 = .ok (.iload_n 1, 1) := by decide +kernel
theorem dX7_tellEnding_7 : decode cX7_tellEnding 7 = .ok (.iload_n 2, 1) := by decide +kernel
theorem dX7_tellEnding_8 : decode cX7_tellEnding 8 = .ok (.iload_n 3, 1) := by decide +kernel
theorem dX7_tellEnding_9 : decode cX7_tellEnding 9 = .ok (.ifCond .eq 7, 3) := by decide +kernel
theorem dX7_tellEnding_12 : decode cX7_tellEnding 12 = .ok (.iconst 1, 1) := by decide +kernel
theorem dX7_tellEnding_13 : decode cX7_tellEnding 13 = .ok (.goto 4, 3) := by decide +kernel
theorem dX7_tellEnding_16 : decode cX7_tellEnding 16 = .ok (.iconst 0, 1) := by decide +kernel
theorem dX7_tellEnding_17 : decode cX7_tellEnding 17 = .ok (.iload 4, 2) := by decide +kernel
theorem dX7_tellEnding_19 : decode cX7_tellEnding 19 = .ok (.invokevirtual 118, 3) := by decide +kernel
theorem dX7_tellEnding_22 : decode cX7_tellEnding 22 = .ok (.invokevirtual 96, 3) := by decide +kernel
theorem dX7_tellEnding_25 : decode cX7_tellEnding 25 = .ok (.ireturn, 1) := by decide +kernel
theorem dX7_fits_0 : decode cX7_fits 0 = .ok (.aload_n 0, 1) := by decide +kernel
theorem dX7_fits_1 : decode cX7_fits 1 = .ok (.getfield 7, 3) := by decide +kernel
theorem dX7_fits_4 : decode cX7_fits 4 = .ok (.bipush 118, 2) := by decide +kernel
theorem dX7_fits_6 : decode cX7_fits 6 = .ok (.iload_n 1, 1) := by decide +kernel
theorem dX7_fits_7 : decode cX7_fits 7 = .ok (.iadd, 1) := by decide +kernel
theorem dX7_fits_8 : decode cX7_fits 8 = .ok (.iaload, 1) := by decide +kernel
theorem dX7_fits_9 : decode cX7_fits 9 = .ok (.iload_n 2, 1) := by decide +kernel
theorem dX7_fits_10 : decode cX7_fits 10 = .ok (.if_icmp .ne 7, 3) := by decide +kernel
theorem dX7_fits_13 : decode cX7_fits 13 = .ok (.iconst 1, 1) := by decide +kernel
theorem dX7_fits_14 : decode cX7_fits 14 = .ok (.goto 4, 3) := by decide +kernel
theorem dX7_fits_17 : decode cX7_fits 17 = .ok (.iconst 0, 1) := by decide +kernel
theorem dX7_fits_18 : decode cX7_fits 18 = .ok (.aload_n 0, 1) := by decide +kernel
theorem dX7_fits_19 : decode cX7_fits 19 = .ok (.getfield 7, 3) := by decide +kernel
theorem dX7_fits_22 : decode cX7_fits 22 = .ok (.bipush 123, 2) := by decide +kernel
theorem dX7_fits_24 : decode cX7_fits 24 = .ok (.iload_n 1, 1) := by decide +kernel
theorem dX7_fits_25 : decode cX7_fits 25 = .ok (.iadd, 1) := by decide +kernel
theorem dX7_fits_26 : decode cX7_fits 26 = .ok (.iaload, 1) := by decide +kernel
theorem dX7_fits_27 : decode cX7_fits 27 = .ok (.iload_n 3, 1) := by decide +kernel
theorem dX7_fits_28 : decode cX7_fits 28 = .ok (.if_icmp .ne 7, 3) := by decide +kernel
theorem dX7_fits_31 : decode cX7_fits 31 = .ok (.iconst 1, 1) := by decide +kernel
theorem dX7_fits_32 : decode cX7_fits 32 = .ok (.goto 4, 3) := by decide +kernel
theorem dX7_fits_35 : decode cX7_fits 35 = .ok (.iconst 0, 1) := by decide +kernel
theorem dX7_fits_36 : decode cX7_fits 36 = .ok (.iadd, 1) := by decide +kernel
theorem dX7_fits_37 : decode cX7_fits 37 = .ok (.ireturn, 1) := by decide +kernel
set_option maxRecDepth 20000 in
theorem ggX7_sameKey_X7_fits : GoodIn wsX7_sameKey wsX7_fits := goodIn_ca (goodIn_r _ [6, 1, 7, 8, 9, 10, 11, 12, 13, 14, 15, 16, 17, 18, 19, 20, 21, 22, 23, 24] (by decide +kernel) (by decide +kernel)) (goodIn_sub (fun _ h => List.mem_cons_of_mem _ (List.mem_append_right _ h)) (by decide +kernel))
set_option maxRecDepth 20000 in
theorem gX7_sameKey_X7_fits : GoodIn wsX7_sameKey (wsV RX7 122 RX7 yX7_fits wsX7_fits) := goodIn_app (goodIn_of _ (by decide +kernel)) ggX7_sameKey_X7_fits
theorem dX7_sameKey_0 : decode cX7_sameKey 0 = .ok (.iconst 0, 1) := by decide +kernel
theorem dX7_sameKey_1 : decode cX7_sameKey 1 = .ok (.istore_n 3, 1) := by decide +kernel
theorem dX7_sameKey_2 : decode cX7_sameKey 2 = .ok (.iload_n 3, 1) := by decide +kernel
theorem dX7_sameKey_3 : decode cX7_sameKey 3 = .ok (.aload_n 0, 1) := by decide +kernel
theorem dX7_sameKey_4 : decode cX7_sameKey 4 = .ok (.getfield 7, 3) := by decide +kernel
theorem dX7_sameKey_7 : decode cX7_sameKey 7 = .ok (.iconst 2, 1) := by decide +kernel
theorem dX7_sameKey_8 : decode cX7_sameKey 8 = .ok (.iaload, 1) := by decide +kernel
theorem dX7_sameKey_9 : decode cX7_sameKey 9 = .ok (.if_icmp .ge 22, 3) := by decide +kernel
theorem dX7_sameKey_12 : decode cX7_sameKey 12 = .ok (.aload_n 0, 1) := by decide +kernel
theorem dX7_sameKey_13 : decode cX7_sameKey 13 = .ok (.iload_n 3, 1) := by decide +kernel
theorem dX7_sameKey_14 : decode cX7_sameKey 14 = .ok (.iload_n 1, 1) := by decide +kernel
theorem dX7_sameKey_15 : decode cX7_sameKey 15 = .ok (.iload_n 2, 1) := by decide +kernel
theorem dX7_sameKey_16 : decode cX7_sameKey 16 = .ok (.invokevirtual 122, 3) := by decide +kernel
theorem dX7_sameKey_19 : decode cX7_sameKey 19 = .ok (.iconst 2, 1) := by decide +kernel
theorem dX7_sameKey_20 : decode cX7_sameKey 20 = .ok (.if_icmp .ne 5, 3) := by decide +kernel
theorem dX7_sameKey_23 : decode cX7_sameKey 23 = .ok (.iload_n 3, 1) := by decide +kernel
theorem dX7_sameKey_24 : decode cX7_sameKey 24 = .ok (.ireturn, 1) := by decide +kernel
theorem dX7_sameKey_25 : decode cX7_sameKey 25 = .ok (.iinc 3 1, 3) := by decide +kernel
theorem dX7_sameKey_28 : decode cX7_sameKey 28 = .ok (.goto (-26), 3) := by decide +kernel
theorem dX7_sameKey_31 : decode cX7_sameKey 31 = .ok (.iconst (-1), 1) := by decide +kernel
theorem dX7_sameKey_32 : decode cX7_sameKey 32 = .ok (.ireturn, 1) := by decide +kernel
set_option maxRecDepth 20000 in
theorem ggX7_keyComes_X7_isThird : GoodIn wsX7_keyComes wsX7_isThird := goodIn_r _ [5, 6, 7, 4, 8] (by decide +kernel) (by decide +kernel)
set_option maxRecDepth 20000 in
theorem gX7_keyComes_X7_isThird : GoodIn wsX7_keyComes (va_wsS RX7 79 yX7_isThird wsX7_isThird) := goodIn_app (goodIn_of _ (by decide +kernel)) ggX7_keyComes_X7_isThird
set_option maxRecDepth 20000 in
theorem ggX7_keyComes_X7_fails : GoodIn wsX7_keyComes wsX7_fails := goodIn_r _ [12, 13, 32, 33, 34, 35, 36, 37, 38, 39, 40, 41, 42, 43, 44, 45, 46, 47, 48, 49] (by decide +kernel) (by decide +kernel)
set_option maxRecDepth 20000 in
theorem gX7_keyComes_X7_fails : GoodIn wsX7_keyComes (wsV RX7 51 RX7 yX7_fails wsX7_fails) := goodIn_app (goodIn_of _ (by decide +kernel)) ggX7_keyComes_X7_fails
set_option maxRecDepth 20000 in
theorem ggX7_keyComes_X7_sameKey : GoodIn wsX7_keyComes wsX7_sameKey := goodIn_ca (goodIn_r _ [17, 1, 18, 19, 20, 4, 21, 32, 33, 34, 35, 36, 37, 38, 39, 40, 41, 42, 43, 44, 45, 46, 47, 48, 49] (by decide +kernel) (by decide +kernel)) (goodIn_sub (fun _ h => List.mem_cons_of_mem _ (List.mem_append_right _ h)) (by decide +kernel))
set_option maxRecDepth 20000 in
theorem gX7_keyComes_X7_sameKey : GoodIn wsX7_keyComes (wsV RX7 125 RX7 yX7_sameKey wsX7_sameKey) := goodIn_app (goodIn_of _ (by decide +kernel)) ggX7_keyComes_X7_sameKey
set_option maxRecDepth 20000 in
theorem ggX7_keyComes_X7_refused : GoodIn wsX7_keyComes wsX7_refused := goodIn_r _ [25, 26, 27, 9, 10, 11, 4, 12, 13, 32, 33, 34, 35, 36, 37, 38, 39, 40, 41, 42, 43, 44, 45, 46, 47, 48, 49] (by decide +kernel) (by decide +kernel)
set_option maxRecDepth 20000 in
theorem gX7_keyComes_X7_refused : GoodIn wsX7_keyComes (wsV RX7 86 RX7 yX7_refused wsX7_refused) := goodIn_app (goodIn_of _ (by decide +kernel)) ggX7_keyComes_X7_refused
set_option maxRecDepth 20000 in
theorem ggX7_keyComes_X7_done : GoodIn wsX7_keyComes wsX7_done := goodIn_r _ [31, 13, 32, 33, 34, 35, 36, 37, 38, 39, 40, 41, 42, 43, 44, 45, 46, 47, 48, 49] (by decide +kernel) (by decide +kernel)
set_option maxRecDepth 20000 in
theorem gX7_keyComes_X7_done : GoodIn wsX7_keyComes (wsV RX7 69 RX7 yX7_done wsX7_done) := goodIn_app (goodIn_of _ (by decide +kernel)) ggX7_keyComes_X7_done
theorem dX7_keyComes_0 : decode cX7_keyComes 0 = .ok (.iload_n 1, 1) := by decide +kernel
theorem dX7_keyComes_1 : decode cX7_keyComes 1 = .ok (.invokestatic 79, 3) := by decide +kernel
theorem dX7_keyComes_4 : decode cX7_keyComes 4 = .ok (.ifCond .eq 10, 3) := by decide +kernel
theorem dX7_keyComes_7 : decode cX7_keyComes 7 = .ok (.iload_n 2, 1) := by decide +kernel
theorem dX7_keyComes_8 : decode cX7_keyComes 8 = .ok (.invokestatic 79, 3) := by decide +kernel
theorem dX7_keyComes_11 : decode cX7_keyComes 11 = .ok (.ifCond .ne 9, 3) := by decide +kernel
theorem dX7_keyComes_14 : decode cX7_keyComes 14 = .ok (.aload_n 0, 1) := by decide +kernel
theorem dX7_keyComes_15 : decode cX7_keyComes 15 = .ok (.iconst 1, 1) := by decide +kernel
theorem dX7_keyComes_16 : decode cX7_keyComes 16 = .ok (.invokevirtual 51, 3) := by decide +kernel
theorem dX7_keyComes_19 : decode cX7_keyComes 19 = .ok (.ireturn, 1) := by decide +kernel
theorem dX7_keyComes_20 : decode cX7_keyComes 20 = .ok (.aload_n 0, 1) := by decide +kernel
theorem dX7_keyComes_21 : decode cX7_keyComes 21 = .ok (.iload_n 1, 1) := by decide +kernel
theorem dX7_keyComes_22 : decode cX7_keyComes 22 = .ok (.iload_n 2, 1) := by decide +kernel
theorem dX7_keyComes_23 : decode cX7_keyComes 23 = .ok (.invokevirtual 125, 3) := by decide +kernel
theorem dX7_keyComes_26 : decode cX7_keyComes 26 = .ok (.istore_n 3, 1) := by decide +kernel
theorem dX7_keyComes_27 : decode cX7_keyComes 27 = .ok (.iload_n 3, 1) := by decide +kernel
theorem dX7_keyComes_28 : decode cX7_keyComes 28 = .ok (.iconst (-1), 1) := by decide +kernel
theorem dX7_keyComes_29 : decode cX7_keyComes 29 = .ok (.if_icmp .eq 11, 3) := by decide +kernel
theorem dX7_keyComes_32 : decode cX7_keyComes 32 = .ok (.aload_n 0, 1) := by decide +kernel
theorem dX7_keyComes_33 : decode cX7_keyComes 33 = .ok (.iconst 2, 1) := by decide +kernel
theorem dX7_keyComes_34 : decode cX7_keyComes 34 = .ok (.iload_n 3, 1) := by decide +kernel
theorem dX7_keyComes_35 : decode cX7_keyComes 35 = .ok (.iconst 2, 1) := by decide +kernel
theorem dX7_keyComes_36 : decode cX7_keyComes 36 = .ok (.invokevirtual 86, 3) := by decide +kernel
theorem dX7_keyComes_39 : decode cX7_keyComes 39 = .ok (.ireturn, 1) := by decide +kernel
theorem dX7_keyComes_40 : decode cX7_keyComes 40 = .ok (.aload_n 0, 1) := by decide +kernel
theorem dX7_keyComes_41 : decode cX7_keyComes 41 = .ok (.getfield 7, 3) := by decide +kernel
theorem dX7_keyComes_44 : decode cX7_keyComes 44 = .ok (.iconst 2, 1) := by decide +kernel
theorem dX7_keyComes_45 : decode cX7_keyComes 45 = .ok (.iaload, 1) := by decide +kernel
theorem dX7_keyComes_46 : decode cX7_keyComes 46 = .ok (.istore 4, 2) := by decide +kernel
theorem dX7_keyComes_48 : decode cX7_keyComes 48 = .ok (.iload 4, 2) := by decide +kernel
theorem dX7_keyComes_50 : decode cX7_keyComes 50 = .ok (.iconst 5, 1) := by decide +kernel
theorem dX7_keyComes_51 : decode cX7_keyComes 51 = .ok (.if_icmp .ne 11, 3) := by decide +kernel
theorem dX7_keyComes_54 : decode cX7_keyComes 54 = .ok (.aload_n 0, 1) := by decide +kernel
theorem dX7_keyComes_55 : decode cX7_keyComes 55 = .ok (.iconst 1, 1) := by decide +kernel
theorem dX7_keyComes_56 : decode cX7_keyComes 56 = .ok (.iconst 5, 1) := by decide +kernel
theorem dX7_keyComes_57 : decode cX7_keyComes 57 = .ok (.iconst 2, 1) := by decide +kernel
theorem dX7_keyComes_58 : decode cX7_keyComes 58 = .ok (.invokevirtual 86, 3) := by decide +kernel
theorem dX7_keyComes_61 : decode cX7_keyComes 61 = .ok (.ireturn, 1) := by decide +kernel
theorem dX7_keyComes_62 : decode cX7_keyComes 62 = .ok (.aload_n 0, 1) := by decide +kernel
theorem dX7_keyComes_63 : decode cX7_keyComes 63 = .ok (.getfield 7, 3) := by decide +kernel
theorem dX7_keyComes_66 : decode cX7_keyComes 66 = .ok (.bipush 118, 2) := by decide +kernel
theorem dX7_keyComes_68 : decode cX7_keyComes 68 = .ok (.iload 4, 2) := by decide +kernel
theorem dX7_keyComes_70 : decode cX7_keyComes 70 = .ok (.iadd, 1) := by decide +kernel
theorem dX7_keyComes_71 : decode cX7_keyComes 71 = .ok (.iload_n 1, 1) := by decide +kernel
theorem dX7_keyComes_72 : decode cX7_keyComes 72 = .ok (.iastore, 1) := by decide +kernel
theorem dX7_keyComes_73 : decode cX7_keyComes 73 = .ok (.aload_n 0, 1) := by decide +kernel
theorem dX7_keyComes_74 : decode cX7_keyComes 74 = .ok (.getfield 7, 3) := by decide +kernel
theorem dX7_keyComes_77 : decode cX7_keyComes 77 = .ok (.bipush 123, 2) := by decide +kernel
theorem dX7_keyComes_79 : decode cX7_keyComes 79 = .ok (.iload 4, 2) := by decide +kernel
theorem dX7_keyComes_81 : decode cX7_keyComes 81 = .ok (.iadd, 1) := by decide +kernel
theorem dX7_keyComes_82 : decode cX7_keyComes 82 = .ok (.iload_n 2, 1) := by decide +kernel
theorem dX7_keyComes_83 : decode cX7_keyComes 83 = .ok (.iastore, 1) := by decide +kernel
theorem dX7_keyComes_84 : decode cX7_keyComes 84 = .ok (.aload_n 0, 1) := by decide +kernel
theorem dX7_keyComes_85 : decode cX7_keyComes 85 = .ok (.getfield 7, 3) := by decide +kernel
theorem dX7_keyComes_88 : decode cX7_keyComes 88 = .ok (.iconst 2, 1) := by decide +kernel
theorem dX7_keyComes_89 : decode cX7_keyComes 89 = .ok (.dup2, 1) := by decide +kernel
theorem dX7_keyComes_90 : decode cX7_keyComes 90 = .ok (.iaload, 1) := by decide +kernel
theorem dX7_keyComes_91 : decode cX7_keyComes 91 = .ok (.iconst 1, 1) := by decide +kernel
theorem dX7_keyComes_92 : decode cX7_keyComes 92 = .ok (.iadd, 1) := by decide +kernel
theorem dX7_keyComes_93 : decode cX7_keyComes 93 = .ok (.iastore, 1) := by decide +kernel
theorem dX7_keyComes_94 : decode cX7_keyComes 94 = .ok (.aload_n 0, 1) := by decide +kernel
theorem dX7_keyComes_95 : decode cX7_keyComes 95 = .ok (.iload 4, 2) := by decide +kernel
theorem dX7_keyComes_97 : decode cX7_keyComes 97 = .ok (.invokevirtual 69, 3) := by decide +kernel
theorem dX7_keyComes_100 : decode cX7_keyComes 100 = .ok (.ireturn, 1) := by decide +kernel
set_option maxRecDepth 20000 in
theorem ggX7_key_X7_looksBack : GoodIn wsX7_key wsX7_looksBack := goodIn_ca (goodIn_r _ [5, 6, 7, 8, 9, 4, 10, 50, 51, 52, 53, 54, 55, 56, 57, 58, 59, 60, 61, 62, 63, 64, 65, 66, 67] (by decide +kernel) (by decide +kernel)) (goodIn_sub (fun _ h => List.mem_cons_of_mem _ (List.mem_append_right _ h)) (by decide +kernel))
set_option maxRecDepth 20000 in
theorem gX7_key_X7_looksBack : GoodIn wsX7_key (wsV RX7 89 RX7 yX7_looksBack wsX7_looksBack) := goodIn_app (goodIn_of _ (by decide +kernel)) ggX7_key_X7_looksBack
set_option maxRecDepth 20000 in
theorem ggX7_key_X7_keyComes : GoodIn wsX7_key wsX7_keyComes := goodIn_ca (goodIn_r _ [14, 6, 15, 16, 4, 17, 18, 19, 20, 21, 22, 23, 24, 25, 26, 27, 28, 29, 30, 31, 32, 33, 34, 35, 36, 37, 38, 39, 40, 41, 42, 43, 50, 51, 52, 53, 54, 55, 56, 57, 58, 59, 60, 61, 62, 63, 64, 65, 66, 67] (by decide +kernel) (by decide +kernel)) (goodIn_sub (fun _ h => List.mem_cons_of_mem _ (List.mem_append_right _ h)) (by decide +kernel))
set_option maxRecDepth 20000 in
theorem gX7_key_X7_keyComes : GoodIn wsX7_key (wsV RX7 128 RX7 yX7_keyComes wsX7_keyComes) := goodIn_app (goodIn_of _ (by decide +kernel)) ggX7_key_X7_keyComes
set_option maxRecDepth 20000 in
theorem ggX7_key_X7_kept : GoodIn wsX7_key wsX7_kept := goodIn_ca (goodIn_r _ [47, 25, 7, 6, 48, 49, 8, 9, 4, 10, 50, 51, 52, 53, 54, 55, 56, 57, 58, 59, 60, 61, 62, 63, 64, 65, 66, 67] (by decide +kernel) (by decide +kernel)) (goodIn_sub (fun _ h => List.mem_cons_of_mem _ (List.mem_append_right _ h)) (by decide +kernel))
set_option maxRecDepth 20000 in
theorem gX7_key_X7_kept : GoodIn wsX7_key (wsV RX7 96 RX7 yX7_kept wsX7_kept) := goodIn_app (goodIn_of _ (by decide +kernel)) ggX7_key_X7_kept
theorem dX7_key_0 : decode cX7_key 0 = .ok (.aload_n 0, 1) := by decide +kernel
theorem dX7_key_1 : decode cX7_key 1 = .ok (.invokevirtual 89, 3) := by decide +kernel
theorem dX7_key_4 : decode cX7_key 4 = .ok (.aload_n 0, 1) := by decide +kernel
theorem dX7_key_5 : decode cX7_key 5 = .ok (.aload_n 0, 1) := by decide +kernel
theorem dX7_key_6 : decode cX7_key 6 = .ok (.iload_n 1, 1) := by decide +kernel
theorem dX7_key_7 : decode cX7_key 7 = .ok (.iload_n 2, 1) := by decide +kernel
theorem dX7_key_8 : decode cX7_key 8 = .ok (.invokevirtual 128, 3) := by decide +kernel
theorem dX7_key_11 : decode cX7_key 11 = .ok (.invokevirtual 96, 3) := by decide +kernel
theorem dX7_key_14 : decode cX7_key 14 = .ok (.ireturn, 1) := by decide +kernel
set_option maxRecDepth 20000 in
theorem ggX7_doorOf_X7_isDoor : GoodIn wsX7_doorOf wsX7_isDoor := goodIn_ca (goodIn_r _ [6, 1, 7, 8, 5, 9, 23, 24, 25, 26, 27, 28, 29, 30, 31, 32, 33, 34, 35, 36, 37, 38, 39, 40] (by decide +kernel) (by decide +kernel)) (goodIn_sub (fun _ h => List.mem_cons_of_mem _ (List.mem_append_right _ h)) (by decide +kernel))
set_option maxRecDepth 20000 in
theorem gX7_doorOf_X7_isDoor : GoodIn wsX7_doorOf (wsV RX7 112 RX7 yX7_isDoor wsX7_isDoor) := goodIn_app (goodIn_of _ (by decide +kernel)) ggX7_doorOf_X7_isDoor
set_option maxRecDepth 20000 in
theorem ggX7_doorOf_X7_fails : GoodIn wsX7_doorOf wsX7_fails := goodIn_r _ [13, 14, 23, 24, 25, 26, 27, 28, 29, 30, 31, 32, 33, 34, 35, 36, 37, 38, 39, 40] (by decide +kernel) (by decide +kernel)
set_option maxRecDepth 20000 in
theorem gX7_doorOf_X7_fails : GoodIn wsX7_doorOf (wsV RX7 51 RX7 yX7_fails wsX7_fails) := goodIn_app (goodIn_of _ (by decide +kernel)) ggX7_doorOf_X7_fails
set_option maxRecDepth 20000 in
theorem ggX7_doorOf_X7_done : GoodIn wsX7_doorOf wsX7_done := goodIn_r _ [18, 14, 23, 24, 25, 26, 27, 28, 29, 30, 31, 32, 33, 34, 35, 36, 37, 38, 39, 40] (by decide +kernel) (by decide +kernel)
set_option maxRecDepth 20000 in
theorem gX7_doorOf_X7_done : GoodIn wsX7_doorOf (wsV RX7 69 RX7 yX7_done wsX7_done) := goodIn_app (goodIn_of _ (by decide +kernel)) ggX7_doorOf_X7_done
set_option maxRecDepth 20000 in
theorem ggX7_doorOf_X7_caseOf : GoodIn wsX7_doorOf wsX7_caseOf := goodIn_ca (goodIn_r _ [22, 1, 23, 24, 25, 26, 27, 28, 29, 30, 31, 32, 33, 34, 35, 36, 37, 38, 39, 40] (by decide +kernel) (by decide +kernel)) (goodIn_sub (fun _ h => List.mem_cons_of_mem _ (List.mem_append_right _ h)) (by decide +kernel))
set_option maxRecDepth 20000 in
theorem gX7_doorOf_X7_caseOf : GoodIn wsX7_doorOf (wsV RX7 76 RX7 yX7_caseOf wsX7_caseOf) := goodIn_app (goodIn_of _ (by decide +kernel)) ggX7_doorOf_X7_caseOf
theorem dX7_doorOf_0 : decode cX7_doorOf 0 = .ok (.aload_n 0, 1) := by decide +kernel
theorem dX7_doorOf_1 : decode cX7_doorOf 1 = .ok (.iload_n 1, 1) := by decide +kernel
theorem dX7_doorOf_2 : decode cX7_doorOf 2 = .ok (.invokevirtual 112, 3) := by decide +kernel
theorem dX7_doorOf_5 : decode cX7_doorOf 5 = .ok (.ifCond .ne 9, 3) := by decide +kernel
theorem dX7_doorOf_8 : decode cX7_doorOf 8 = .ok (.aload_n 0, 1) := by decide +kernel
theorem dX7_doorOf_9 : decode cX7_doorOf 9 = .ok (.iconst 1, 1) := by decide +kernel
theorem dX7_doorOf_10 : decode cX7_doorOf 10 = .ok (.invokevirtual 51, 3) := by decide +kernel
theorem dX7_doorOf_13 : decode cX7_doorOf 13 = .ok (.ireturn, 1) := by decide +kernel
theorem dX7_doorOf_14 : decode cX7_doorOf 14 = .ok (.iload_n 2, 1) := by decide +kernel
theorem dX7_doorOf_15 : decode cX7_doorOf 15 = .ok (.tableswitch 209 0 10 #[57, 71, 85, 99, 115, 125, 139, 153, 167, 181, 195], 57) := by decide +kernel
theorem dX7_doorOf_72 : decode cX7_doorOf 72 = .ok (.aload_n 0, 1) := by decide +kernel
theorem dX7_doorOf_73 : decode cX7_doorOf 73 = .ok (.aload_n 0, 1) := by decide +kernel
theorem dX7_doorOf_74 : decode cX7_doorOf 74 = .ok (.getfield 7, 3) := by decide +kernel
theorem dX7_doorOf_77 : decode cX7_doorOf 77 = .ok (.bipush 32, 2) := by decide +kernel
theorem dX7_doorOf_79 : decode cX7_doorOf 79 = .ok (.iload_n 1, 1) := by decide +kernel
theorem dX7_doorOf_80 : decode cX7_doorOf 80 = .ok (.iadd, 1) := by decide +kernel
theorem dX7_doorOf_81 : decode cX7_doorOf 81 = .ok (.iaload, 1) := by decide +kernel
theorem dX7_doorOf_82 : decode cX7_doorOf 82 = .ok (.invokevirtual 69, 3) := by decide +kernel
theorem dX7_doorOf_85 : decode cX7_doorOf 85 = .ok (.ireturn, 1) := by decide +kernel
theorem dX7_doorOf_86 : decode cX7_doorOf 86 = .ok (.aload_n 0, 1) := by decide +kernel
theorem dX7_doorOf_87 : decode cX7_doorOf 87 = .ok (.aload_n 0, 1) := by decide +kernel
theorem dX7_doorOf_88 : decode cX7_doorOf 88 = .ok (.getfield 7, 3) := by decide +kernel
theorem dX7_doorOf_91 : decode cX7_doorOf 91 = .ok (.bipush 40, 2) := by decide +kernel
theorem dX7_doorOf_93 : decode cX7_doorOf 93 = .ok (.iload_n 1, 1) := by decide +kernel
theorem dX7_doorOf_94 : decode cX7_doorOf 94 = .ok (.iadd, 1) := by decide +kernel
theorem dX7_doorOf_95 : decode cX7_doorOf 95 = .ok (.iaload, 1) := by decide +kernel
theorem dX7_doorOf_96 : decode cX7_doorOf 96 = .ok (.invokevirtual 69, 3) := by decide +kernel
theorem dX7_doorOf_99 : decode cX7_doorOf 99 = .ok (.ireturn, 1) := by decide +kernel
theorem dX7_doorOf_100 : decode cX7_doorOf 100 = .ok (.aload_n 0, 1) := by decide +kernel
theorem dX7_doorOf_101 : decode cX7_doorOf 101 = .ok (.aload_n 0, 1) := by decide +kernel
theorem dX7_doorOf_102 : decode cX7_doorOf 102 = .ok (.getfield 7, 3) := by decide +kernel
theorem dX7_doorOf_105 : decode cX7_doorOf 105 = .ok (.bipush 48, 2) := by decide +kernel
theorem dX7_doorOf_107 : decode cX7_doorOf 107 = .ok (.iload_n 1, 1) := by decide +kernel
theorem dX7_doorOf_108 : decode cX7_doorOf 108 = .ok (.iadd, 1) := by decide +kernel
theorem dX7_doorOf_109 : decode cX7_doorOf 109 = .ok (.iaload, 1) := by decide +kernel
theorem dX7_doorOf_110 : decode cX7_doorOf 110 = .ok (.invokevirtual 69, 3) := by decide +kernel
theorem dX7_doorOf_113 : decode cX7_doorOf 113 = .ok (.ireturn, 1) := by decide +kernel
theorem dX7_doorOf_114 : decode cX7_doorOf 114 = .ok (.aload_n 0, 1) := by decide +kernel
theorem dX7_doorOf_115 : decode cX7_doorOf 115 = .ok (.aload_n 0, 1) := by decide +kernel
theorem dX7_doorOf_116 : decode cX7_doorOf 116 = .ok (.getfield 7, 3) := by decide +kernel
theorem dX7_doorOf_119 : decode cX7_doorOf 119 = .ok (.bipush 56, 2) := by decide +kernel
theorem dX7_doorOf_121 : decode cX7_doorOf 121 = .ok (.iload_n 1, 1) := by decide +kernel
theorem dX7_doorOf_122 : decode cX7_doorOf 122 = .ok (.iadd, 1) := by decide +kernel
theorem dX7_doorOf_123 : decode cX7_doorOf 123 = .ok (.iaload, 1) := by decide +kernel
theorem dX7_doorOf_124 : decode cX7_doorOf 124 = .ok (.iconst 1, 1) := by decide +kernel
theorem dX7_doorOf_125 : decode cX7_doorOf 125 = .ok (.isub, 1) := by decide +kernel
theorem dX7_doorOf_126 : decode cX7_doorOf 126 = .ok (.invokevirtual 69, 3) := by decide +kernel
theorem dX7_doorOf_129 : decode cX7_doorOf 129 = .ok (.ireturn, 1) := by decide +kernel
theorem dX7_doorOf_130 : decode cX7_doorOf 130 = .ok (.aload_n 0, 1) := by decide +kernel
theorem dX7_doorOf_131 : decode cX7_doorOf 131 = .ok (.aload_n 0, 1) := by decide +kernel
theorem dX7_doorOf_132 : decode cX7_doorOf 132 = .ok (.iload_n 1, 1) := by decide +kernel
theorem dX7_doorOf_133 : decode cX7_doorOf 133 = .ok (.invokevirtual 76, 3) := by decide +kernel
theorem dX7_doorOf_136 : decode cX7_doorOf 136 = .ok (.invokevirtual 69, 3) := by decide +kernel
theorem dX7_doorOf_139 : decode cX7_doorOf 139 = .ok (.ireturn, 1) := by decide +kernel
theorem dX7_doorOf_140 : decode cX7_doorOf 140 = .ok (.aload_n 0, 1) := by decide +kernel
theorem dX7_doorOf_141 : decode cX7_doorOf 141 = .ok (.aload_n 0, 1) := by decide +kernel
theorem dX7_doorOf_142 : decode cX7_doorOf 142 = .ok (.getfield 7, 3) := by decide +kernel
theorem dX7_doorOf_145 : decode cX7_doorOf 145 = .ok (.bipush 64, 2) := by decide +kernel
theorem dX7_doorOf_147 : decode cX7_doorOf 147 = .ok (.iload_n 1, 1) := by decide +kernel
theorem dX7_doorOf_148 : decode cX7_doorOf 148 = .ok (.iadd, 1) := by decide +kernel
theorem dX7_doorOf_149 : decode cX7_doorOf 149 = .ok (.iaload, 1) := by decide +kernel
theorem dX7_doorOf_150 : decode cX7_doorOf 150 = .ok (.invokevirtual 69, 3) := by decide +kernel
theorem dX7_doorOf_153 : decode cX7_doorOf 153 = .ok (.ireturn, 1) := by decide +kernel
theorem dX7_doorOf_154 : decode cX7_doorOf 154 = .ok (.aload_n 0, 1) := by decide +kernel
theorem dX7_doorOf_155 : decode cX7_doorOf 155 = .ok (.aload_n 0, 1) := by decide +kernel
theorem dX7_doorOf_156 : decode cX7_doorOf 156 = .ok (.getfield 7, 3) := by decide +kernel
theorem dX7_doorOf_159 : decode cX7_doorOf 159 = .ok (.bipush 72, 2) := by decide +kernel
theorem dX7_doorOf_161 : decode cX7_doorOf 161 = .ok (.iload_n 1, 1) := by decide +kernel
theorem dX7_doorOf_162 : decode cX7_doorOf 162 = .ok (.iadd, 1) := by decide +kernel
theorem dX7_doorOf_163 : decode cX7_doorOf 163 = .ok (.iaload, 1) := by decide +kernel
theorem dX7_doorOf_164 : decode cX7_doorOf 164 = .ok (.invokevirtual 69, 3) := by decide +kernel
theorem dX7_doorOf_167 : decode cX7_doorOf 167 = .ok (.ireturn, 1) := by decide +kernel
theorem dX7_doorOf_168 : decode cX7_doorOf 168 = .ok (.aload_n 0, 1) := by decide +kernel
theorem dX7_doorOf_169 : decode cX7_doorOf 169 = .ok (.aload_n 0, 1) := by decide +kernel
theorem dX7_doorOf_170 : decode cX7_doorOf 170 = .ok (.getfield 7, 3) := by decide +kernel
theorem dX7_doorOf_173 : decode cX7_doorOf 173 = .ok (.bipush 80, 2) := by decide +kernel
theorem dX7_doorOf_175 : decode cX7_doorOf 175 = .ok (.iload_n 1, 1) := by decide +kernel
theorem dX7_doorOf_176 : decode cX7_doorOf 176 = .ok (.iadd, 1) := by decide +kernel
theorem dX7_doorOf_177 : decode cX7_doorOf 177 = .ok (.iaload, 1) := by decide +kernel
theorem dX7_doorOf_178 : decode cX7_doorOf 178 = .ok (.invokevirtual 69, 3) := by decide +kernel
theorem dX7_doorOf_181 : decode cX7_doorOf 181 = .ok (.ireturn, 1) := by decide +kernel
theorem dX7_doorOf_182 : decode cX7_doorOf 182 = .ok (.aload_n 0, 1) := by decide +kernel
theorem dX7_doorOf_183 : decode cX7_doorOf 183 = .ok (.aload_n 0, 1) := by decide +kernel
theorem dX7_doorOf_184 : decode cX7_doorOf 184 = .ok (.getfield 7, 3) := by decide +kernel
theorem dX7_doorOf_187 : decode cX7_doorOf 187 = .ok (.bipush 88, 2) := by decide +kernel
theorem dX7_doorOf_189 : decode cX7_doorOf 189 = .ok (.iload_n 1, 1) := by decide +kernel
theorem dX7_doorOf_190 : decode cX7_doorOf 190 = .ok (.iadd, 1) := by decide +kernel
theorem dX7_doorOf_191 : decode cX7_doorOf 191 = .ok (.iaload, 1) := by decide +kernel
theorem dX7_doorOf_192 : decode cX7_doorOf 192 = .ok (.invokevirtual 69, 3) := by decide +kernel
theorem dX7_doorOf_195 : decode cX7_doorOf 195 = .ok (.ireturn, 1) := by decide +kernel
theorem dX7_doorOf_196 : decode cX7_doorOf 196 = .ok (.aload_n 0, 1) := by decide +kernel
theorem dX7_doorOf_197 : decode cX7_doorOf 197 = .ok (.aload_n 0, 1) := by decide +kernel
theorem dX7_doorOf_198 : decode cX7_doorOf 198 = .ok (.getfield 7, 3) := by decide +kernel
theorem dX7_doorOf_201 : decode cX7_doorOf 201 = .ok (.bipush 96, 2) := by decide +kernel
theorem dX7_doorOf_203 : decode cX7_doorOf 203 = .ok (.iload_n 1, 1) := by decide +kernel
theorem dX7_doorOf_204 : decode cX7_doorOf 204 = .ok (.iadd, 1) := by decide +kernel
theorem dX7_doorOf_205 : decode cX7_doorOf 205 = .ok (.iaload, 1) := by decide +kernel
theorem dX7_doorOf_206 : decode cX7_doorOf 206 = .ok (.invokevirtual 69, 3) := by decide +kernel
theorem dX7_doorOf_209 : decode cX7_doorOf 209 = .ok (.ireturn, 1) := by decide +kernel
theorem dX7_doorOf_210 : decode cX7_doorOf 210 = .ok (.aload_n 0, 1) := by decide +kernel
theorem dX7_doorOf_211 : decode cX7_doorOf 211 = .ok (.aload_n 0, 1) := by decide +kernel
theorem dX7_doorOf_212 : decode cX7_doorOf 212 = .ok (.getfield 7, 3) := by decide +kernel
theorem dX7_doorOf_215 : decode cX7_doorOf 215 = .ok (.bipush 104, 2) := by decide +kernel
theorem dX7_doorOf_217 : decode cX7_doorOf 217 = .ok (.iload_n 1, 1) := by decide +kernel
theorem dX7_doorOf_218 : decode cX7_doorOf 218 = .ok (.iadd, 1) := by decide +kernel
theorem dX7_doorOf_219 : decode cX7_doorOf 219 = .ok (.iaload, 1) := by decide +kernel
theorem dX7_doorOf_220 : decode cX7_doorOf 220 = .ok (.invokevirtual 69, 3) := by decide +kernel
theorem dX7_doorOf_223 : decode cX7_doorOf 223 = .ok (.ireturn, 1) := by decide +kernel
theorem dX7_doorOf_224 : decode cX7_doorOf 224 = .ok (.aload_n 0, 1) := by decide +kernel
theorem dX7_doorOf_225 : decode cX7_doorOf 225 = .ok (.iconst 2, 1) := by decide +kernel
theorem dX7_doorOf_226 : decode cX7_doorOf 226 = .ok (.invokevirtual 51, 3) := by decide +kernel
theorem dX7_doorOf_229 : decode cX7_doorOf 229 = .ok (.ireturn, 1) := by decide +kernel
theorem dX7_standing_0 : decode cX7_standing 0 = .ok (.iconst 0, 1) := by decide +kernel
theorem dX7_standing_1 : decode cX7_standing 1 = .ok (.istore_n 2, 1) := by decide +kernel
theorem dX7_standing_2 : decode cX7_standing 2 = .ok (.iconst 0, 1) := by decide +kernel
theorem dX7_standing_3 : decode cX7_standing 3 = .ok (.istore_n 3, 1) := by decide +kernel
theorem dX7_standing_4 : decode cX7_standing 4 = .ok (.iload_n 3, 1) := by decide +kernel
theorem dX7_standing_5 : decode cX7_standing 5 = .ok (.aload_n 0, 1) := by decide +kernel
theorem dX7_standing_6 : decode cX7_standing 6 = .ok (.getfield 7, 3) := by decide +kernel
theorem dX7_standing_9 : decode cX7_standing 9 = .ok (.iconst 0, 1) := by decide +kernel
theorem dX7_standing_10 : decode cX7_standing 10 = .ok (.iaload, 1) := by decide +kernel
theorem dX7_standing_11 : decode cX7_standing 11 = .ok (.if_icmp .ge 32, 3) := by decide +kernel
theorem dX7_standing_14 : decode cX7_standing 14 = .ok (.iload_n 2, 1) := by decide +kernel
theorem dX7_standing_15 : decode cX7_standing 15 = .ok (.aload_n 0, 1) := by decide +kernel
theorem dX7_standing_16 : decode cX7_standing 16 = .ok (.getfield 7, 3) := by decide +kernel
theorem dX7_standing_19 : decode cX7_standing 19 = .ok (.bipush 56, 2) := by decide +kernel
theorem dX7_standing_21 : decode cX7_standing 21 = .ok (.iload_n 3, 1) := by decide +kernel
theorem dX7_standing_22 : decode cX7_standing 22 = .ok (.iadd, 1) := by decide +kernel
theorem dX7_standing_23 : decode cX7_standing 23 = .ok (.iaload, 1) := by decide +kernel
theorem dX7_standing_24 : decode cX7_standing 24 = .ok (.iload_n 1, 1) := by decide +kernel
theorem dX7_standing_25 : decode cX7_standing 25 = .ok (.iconst 1, 1) := by decide +kernel
theorem dX7_standing_26 : decode cX7_standing 26 = .ok (.iadd, 1) := by decide +kernel
theorem dX7_standing_27 : decode cX7_standing 27 = .ok (.if_icmp .ne 7, 3) := by decide +kernel
theorem dX7_standing_30 : decode cX7_standing 30 = .ok (.iconst 1, 1) := by decide +kernel
theorem dX7_standing_31 : decode cX7_standing 31 = .ok (.goto 4, 3) := by decide +kernel
theorem dX7_standing_34 : decode cX7_standing 34 = .ok (.iconst 0, 1) := by decide +kernel
theorem dX7_standing_35 : decode cX7_standing 35 = .ok (.iadd, 1) := by decide +kernel
theorem dX7_standing_36 : decode cX7_standing 36 = .ok (.istore_n 2, 1) := by decide +kernel
theorem dX7_standing_37 : decode cX7_standing 37 = .ok (.iinc 3 1, 3) := by decide +kernel
theorem dX7_standing_40 : decode cX7_standing 40 = .ok (.goto (-36), 3) := by decide +kernel
theorem dX7_standing_43 : decode cX7_standing 43 = .ok (.iload_n 2, 1) := by decide +kernel
theorem dX7_standing_44 : decode cX7_standing 44 = .ok (.ireturn, 1) := by decide +kernel
set_option maxRecDepth 20000 in
theorem ggX7_thresholdOf_X7_isSill : GoodIn wsX7_thresholdOf wsX7_isSill := goodIn_ca (goodIn_r _ [6, 1, 7, 8, 5, 9, 23, 24, 25, 26, 27, 28, 29, 30, 31, 32, 33, 34, 35, 36, 37, 38, 39, 40] (by decide +kernel) (by decide +kernel)) (goodIn_sub (fun _ h => List.mem_cons_of_mem _ (List.mem_append_right _ h)) (by decide +kernel))
set_option maxRecDepth 20000 in
theorem gX7_thresholdOf_X7_isSill : GoodIn wsX7_thresholdOf (wsV RX7 105 RX7 yX7_isSill wsX7_isSill) := goodIn_app (goodIn_of _ (by decide +kernel)) ggX7_thresholdOf_X7_isSill
set_option maxRecDepth 20000 in
theorem ggX7_thresholdOf_X7_fails : GoodIn wsX7_thresholdOf wsX7_fails := goodIn_r _ [13, 14, 23, 24, 25, 26, 27, 28, 29, 30, 31, 32, 33, 34, 35, 36, 37, 38, 39, 40] (by decide +kernel) (by decide +kernel)
set_option maxRecDepth 20000 in
theorem gX7_thresholdOf_X7_fails : GoodIn wsX7_thresholdOf (wsV RX7 51 RX7 yX7_fails wsX7_fails) := goodIn_app (goodIn_of _ (by decide +kernel)) ggX7_thresholdOf_X7_fails
set_option maxRecDepth 20000 in
theorem ggX7_thresholdOf_X7_done : GoodIn wsX7_thresholdOf wsX7_done := goodIn_r _ [18, 14, 23, 24, 25, 26, 27, 28, 29, 30, 31, 32, 33, 34, 35, 36, 37, 38, 39, 40] (by decide +kernel) (by decide +kernel)
set_option maxRecDepth 20000 in
theorem gX7_thresholdOf_X7_done : GoodIn wsX7_thresholdOf (wsV RX7 69 RX7 yX7_done wsX7_done) := goodIn_app (goodIn_of _ (by decide +kernel)) ggX7_thresholdOf_X7_done
set_option maxRecDepth 20000 in
theorem ggX7_thresholdOf_X7_standing : GoodIn wsX7_thresholdOf wsX7_standing := goodIn_ca (goodIn_r _ [22, 1, 23, 24, 25, 26, 27, 28, 29, 30, 31, 32, 33, 34, 35, 36, 37, 38, 39, 40] (by decide +kernel) (by decide +kernel)) (goodIn_sub (fun _ h => List.mem_cons_of_mem _ (List.mem_append_right _ h)) (by decide +kernel))
set_option maxRecDepth 20000 in
theorem gX7_thresholdOf_X7_standing : GoodIn wsX7_thresholdOf (wsV RX7 131 RX7 yX7_standing wsX7_standing) := goodIn_app (goodIn_of _ (by decide +kernel)) ggX7_thresholdOf_X7_standing
theorem dX7_thresholdOf_0 : decode cX7_thresholdOf 0 = .ok (.aload_n 0, 1) := by decide +kernel
theorem dX7_thresholdOf_1 : decode cX7_thresholdOf 1 = .ok (.iload_n 1, 1) := by decide +kernel
theorem dX7_thresholdOf_2 : decode cX7_thresholdOf 2 = .ok (.invokevirtual 105, 3) := by decide +kernel
theorem dX7_thresholdOf_5 : decode cX7_thresholdOf 5 = .ok (.ifCond .ne 9, 3) := by decide +kernel
theorem dX7_thresholdOf_8 : decode cX7_thresholdOf 8 = .ok (.aload_n 0, 1) := by decide +kernel
theorem dX7_thresholdOf_9 : decode cX7_thresholdOf 9 = .ok (.iconst 1, 1) := by decide +kernel
theorem dX7_thresholdOf_10 : decode cX7_thresholdOf 10 = .ok (.invokevirtual 51, 3) := by decide +kernel
theorem dX7_thresholdOf_13 : decode cX7_thresholdOf 13 = .ok (.ireturn, 1) := by decide +kernel
theorem dX7_thresholdOf_14 : decode cX7_thresholdOf 14 = .ok (.iload_n 2, 1) := by decide +kernel
theorem dX7_thresholdOf_15 : decode cX7_thresholdOf 15 = .ok (.lookupswitch 49 #[(0, 25), (1, 39)], 25) := by decide +kernel
theorem dX7_thresholdOf_40 : decode cX7_thresholdOf 40 = .ok (.aload_n 0, 1) := by decide +kernel
theorem dX7_thresholdOf_41 : decode cX7_thresholdOf 41 = .ok (.aload_n 0, 1) := by decide +kernel
theorem dX7_thresholdOf_42 : decode cX7_thresholdOf 42 = .ok (.getfield 7, 3) := by decide +kernel
theorem dX7_thresholdOf_45 : decode cX7_thresholdOf 45 = .ok (.bipush 112, 2) := by decide +kernel
theorem dX7_thresholdOf_47 : decode cX7_thresholdOf 47 = .ok (.iload_n 1, 1) := by decide +kernel
theorem dX7_thresholdOf_48 : decode cX7_thresholdOf 48 = .ok (.iadd, 1) := by decide +kernel
theorem dX7_thresholdOf_49 : decode cX7_thresholdOf 49 = .ok (.iaload, 1) := by decide +kernel
theorem dX7_thresholdOf_50 : decode cX7_thresholdOf 50 = .ok (.invokevirtual 69, 3) := by decide +kernel
theorem dX7_thresholdOf_53 : decode cX7_thresholdOf 53 = .ok (.ireturn, 1) := by decide +kernel
theorem dX7_thresholdOf_54 : decode cX7_thresholdOf 54 = .ok (.aload_n 0, 1) := by decide +kernel
theorem dX7_thresholdOf_55 : decode cX7_thresholdOf 55 = .ok (.aload_n 0, 1) := by decide +kernel
theorem dX7_thresholdOf_56 : decode cX7_thresholdOf 56 = .ok (.iload_n 1, 1) := by decide +kernel
theorem dX7_thresholdOf_57 : decode cX7_thresholdOf 57 = .ok (.invokevirtual 131, 3) := by decide +kernel
theorem dX7_thresholdOf_60 : decode cX7_thresholdOf 60 = .ok (.invokevirtual 69, 3) := by decide +kernel
theorem dX7_thresholdOf_63 : decode cX7_thresholdOf 63 = .ok (.ireturn, 1) := by decide +kernel
theorem dX7_thresholdOf_64 : decode cX7_thresholdOf 64 = .ok (.aload_n 0, 1) := by decide +kernel
theorem dX7_thresholdOf_65 : decode cX7_thresholdOf 65 = .ok (.iconst 2, 1) := by decide +kernel
theorem dX7_thresholdOf_66 : decode cX7_thresholdOf 66 = .ok (.invokevirtual 51, 3) := by decide +kernel
theorem dX7_thresholdOf_69 : decode cX7_thresholdOf 69 = .ok (.ireturn, 1) := by decide +kernel
set_option maxRecDepth 20000 in
theorem ggX7_ending_X7_isThird : GoodIn wsX7_ending wsX7_isThird := goodIn_r _ [6, 7, 8, 5, 9] (by decide +kernel) (by decide +kernel)
set_option maxRecDepth 20000 in
theorem gX7_ending_X7_isThird : GoodIn wsX7_ending (va_wsS RX7 79 yX7_isThird wsX7_isThird) := goodIn_app (goodIn_of _ (by decide +kernel)) ggX7_ending_X7_isThird
set_option maxRecDepth 20000 in
theorem ggX7_ending_X7_isCase : GoodIn wsX7_ending wsX7_isCase := goodIn_r _ [12, 7, 8, 5, 9] (by decide +kernel) (by decide +kernel)
set_option maxRecDepth 20000 in
theorem gX7_ending_X7_isCase : GoodIn wsX7_ending (va_wsS RX7 99 yX7_isCase wsX7_isCase) := goodIn_app (goodIn_of _ (by decide +kernel)) ggX7_ending_X7_isCase
set_option maxRecDepth 20000 in
theorem ggX7_ending_X7_endingAt : GoodIn wsX7_ending wsX7_endingAt := goodIn_r _ [15] (by decide +kernel) (by decide +kernel)
set_option maxRecDepth 20000 in
theorem gX7_ending_X7_endingAt : GoodIn wsX7_ending (va_wsS RX7 62 yX7_endingAt wsX7_endingAt) := goodIn_app (goodIn_of _ (by decide +kernel)) ggX7_ending_X7_endingAt
theorem dX7_ending_0 : decode cX7_ending 0 = .ok (.aload_n 0, 1) := by decide +kernel
theorem dX7_ending_1 : decode cX7_ending 1 = .ok (.iload_n 1, 1) := by decide +kernel
theorem dX7_ending_2 : decode cX7_ending 2 = .ok (.invokestatic 79, 3) := by decide +kernel
theorem dX7_ending_5 : decode cX7_ending 5 = .ok (.ifCond .eq 14, 3) := by decide +kernel
theorem dX7_ending_8 : decode cX7_ending 8 = .ok (.iload_n 2, 1) := by decide +kernel
theorem dX7_ending_9 : decode cX7_ending 9 = .ok (.invokestatic 99, 3) := by decide +kernel
theorem dX7_ending_12 : decode cX7_ending 12 = .ok (.ifCond .eq 7, 3) := by decide +kernel
theorem dX7_ending_15 : decode cX7_ending 15 = .ok (.iconst 0, 1) := by decide +kernel
theorem dX7_ending_16 : decode cX7_ending 16 = .ok (.goto 4, 3) := by decide +kernel
theorem dX7_ending_19 : decode cX7_ending 19 = .ok (.iconst 1, 1) := by decide +kernel
theorem dX7_ending_20 : decode cX7_ending 20 = .ok (.putfield 42, 3) := by decide +kernel
theorem dX7_ending_23 : decode cX7_ending 23 = .ok (.aload_n 0, 1) := by decide +kernel
theorem dX7_ending_24 : decode cX7_ending 24 = .ok (.getfield 42, 3) := by decide +kernel
theorem dX7_ending_27 : decode cX7_ending 27 = .ok (.ifCond .ne 29, 3) := by decide +kernel
theorem dX7_ending_30 : decode cX7_ending 30 = .ok (.bipush 97, 2) := by decide +kernel
theorem dX7_ending_32 : decode cX7_ending 32 = .ok (.aload_n 0, 1) := by decide +kernel
theorem dX7_ending_33 : decode cX7_ending 33 = .ok (.getfield 7, 3) := by decide +kernel
theorem dX7_ending_36 : decode cX7_ending 36 = .ok (.iload_n 1, 1) := by decide +kernel
theorem dX7_ending_37 : decode cX7_ending 37 = .ok (.iload_n 2, 1) := by decide +kernel
theorem dX7_ending_38 : decode cX7_ending 38 = .ok (.iload_n 3, 1) := by decide +kernel
theorem dX7_ending_39 : decode cX7_ending 39 = .ok (.ifCond .eq 7, 3) := by decide +kernel
theorem dX7_ending_42 : decode cX7_ending 42 = .ok (.iconst 1, 1) := by decide +kernel
theorem dX7_ending_43 : decode cX7_ending 43 = .ok (.goto 4, 3) := by decide +kernel
theorem dX7_ending_46 : decode cX7_ending 46 = .ok (.iconst 0, 1) := by decide +kernel
theorem dX7_ending_47 : decode cX7_ending 47 = .ok (.invokestatic 62, 3) := by decide +kernel
theorem dX7_ending_50 : decode cX7_ending 50 = .ok (.iaload, 1) := by decide +kernel
theorem dX7_ending_51 : decode cX7_ending 51 = .ok (.iadd, 1) := by decide +kernel
theorem dX7_ending_52 : decode cX7_ending 52 = .ok (.i2c, 1) := by decide +kernel
theorem dX7_ending_53 : decode cX7_ending 53 = .ok (.goto 4, 3) := by decide +kernel
theorem dX7_ending_56 : decode cX7_ending 56 = .ok (.iconst 0, 1) := by decide +kernel
theorem dX7_ending_57 : decode cX7_ending 57 = .ok (.ireturn, 1) := by decide +kernel
set_option maxRecDepth 20000 in
theorem ggX7_isAlike_X7_endingOf : GoodIn wsX7_isAlike wsX7_endingOf := goodIn_ca (goodIn_r _ [6, 1, 7, 8, 9, 5, 10, 11, 12, 13, 14, 15, 16, 17, 18, 19, 20, 21, 22, 23, 24, 25, 26, 27, 28, 29, 30, 31] (by decide +kernel) (by decide +kernel)) (goodIn_sub (fun _ h => List.mem_cons_of_mem _ (List.mem_append_right _ h)) (by decide +kernel))
set_option maxRecDepth 20000 in
theorem gX7_isAlike_X7_endingOf : GoodIn wsX7_isAlike (wsV RX7 134 RX7 yX7_endingOf wsX7_endingOf) := goodIn_app (goodIn_of _ (by decide +kernel)) ggX7_isAlike_X7_endingOf
theorem dX7_isAlike_0 : decode cX7_isAlike 0 = .ok (.aload_n 0, 1) := by decide +kernel
theorem dX7_isAlike_1 : decode cX7_isAlike 1 = .ok (.getfield 7, 3) := by decide +kernel
theorem dX7_isAlike_4 : decode cX7_isAlike 4 = .ok (.bipush 40, 2) := by decide +kernel
theorem dX7_isAlike_6 : decode cX7_isAlike 6 = .ok (.iload_n 1, 1) := by decide +kernel
theorem dX7_isAlike_7 : decode cX7_isAlike 7 = .ok (.iadd, 1) := by decide +kernel
theorem dX7_isAlike_8 : decode cX7_isAlike 8 = .ok (.iaload, 1) := by decide +kernel
theorem dX7_isAlike_9 : decode cX7_isAlike 9 = .ok (.aload_n 0, 1) := by decide +kernel
theorem dX7_isAlike_10 : decode cX7_isAlike 10 = .ok (.getfield 7, 3) := by decide +kernel
theorem dX7_isAlike_13 : decode cX7_isAlike 13 = .ok (.bipush 40, 2) := by decide +kernel
theorem dX7_isAlike_15 : decode cX7_isAlike 15 = .ok (.iload_n 2, 1) := by decide +kernel
theorem dX7_isAlike_16 : decode cX7_isAlike 16 = .ok (.iadd, 1) := by decide +kernel
theorem dX7_isAlike_17 : decode cX7_isAlike 17 = .ok (.iaload, 1) := by decide +kernel
theorem dX7_isAlike_18 : decode cX7_isAlike 18 = .ok (.if_icmp .ne 41, 3) := by decide +kernel
theorem dX7_isAlike_21 : decode cX7_isAlike 21 = .ok (.aload_n 0, 1) := by decide +kernel
theorem dX7_isAlike_22 : decode cX7_isAlike 22 = .ok (.getfield 7, 3) := by decide +kernel
theorem dX7_isAlike_25 : decode cX7_isAlike 25 = .ok (.bipush 48, 2) := by decide +kernel
theorem dX7_isAlike_27 : decode cX7_isAlike 27 = .ok (.iload_n 1, 1) := by decide +kernel
theorem dX7_isAlike_28 : decode cX7_isAlike 28 = .ok (.iadd, 1) := by decide +kernel
theorem dX7_isAlike_29 : decode cX7_isAlike 29 = .ok (.iaload, 1) := by decide +kernel
theorem dX7_isAlike_30 : decode cX7_isAlike 30 = .ok (.aload_n 0, 1) := by decide +kernel
theorem dX7_isAlike_31 : decode cX7_isAlike 31 = .ok (.getfield 7, 3) := by decide +kernel
theorem dX7_isAlike_34 : decode cX7_isAlike 34 = .ok (.bipush 48, 2) := by decide +kernel
theorem dX7_isAlike_36 : decode cX7_isAlike 36 = .ok (.iload_n 2, 1) := by decide +kernel
theorem dX7_isAlike_37 : decode cX7_isAlike 37 = .ok (.iadd, 1) := by decide +kernel
theorem dX7_isAlike_38 : decode cX7_isAlike 38 = .ok (.iaload, 1) := by decide +kernel
theorem dX7_isAlike_39 : decode cX7_isAlike 39 = .ok (.if_icmp .ne 20, 3) := by decide +kernel
theorem dX7_isAlike_42 : decode cX7_isAlike 42 = .ok (.aload_n 0, 1) := by decide +kernel
theorem dX7_isAlike_43 : decode cX7_isAlike 43 = .ok (.iload_n 1, 1) := by decide +kernel
theorem dX7_isAlike_44 : decode cX7_isAlike 44 = .ok (.invokevirtual 134, 3) := by decide +kernel
theorem dX7_isAlike_47 : decode cX7_isAlike 47 = .ok (.aload_n 0, 1) := by decide +kernel
theorem dX7_isAlike_48 : decode cX7_isAlike 48 = .ok (.iload_n 2, 1) := by decide +kernel
theorem dX7_isAlike_49 : decode cX7_isAlike 49 = .ok (.invokevirtual 134, 3) := by decide +kernel
theorem dX7_isAlike_52 : decode cX7_isAlike 52 = .ok (.if_icmp .ne 7, 3) := by decide +kernel
theorem dX7_isAlike_55 : decode cX7_isAlike 55 = .ok (.iconst 1, 1) := by decide +kernel
theorem dX7_isAlike_56 : decode cX7_isAlike 56 = .ok (.goto 4, 3) := by decide +kernel
theorem dX7_isAlike_59 : decode cX7_isAlike 59 = .ok (.iconst 0, 1) := by decide +kernel
theorem dX7_isAlike_60 : decode cX7_isAlike 60 = .ok (.ireturn, 1) := by decide +kernel
set_option maxRecDepth 20000 in
theorem ggX7_areAlike_X7_isDoor : GoodIn wsX7_areAlike wsX7_isDoor := goodIn_ca (goodIn_r _ [6, 7, 8, 9, 5, 10, 26, 27, 28, 29, 30, 31, 32, 33, 34, 35, 36, 37, 38, 39, 40, 41, 42, 43] (by decide +kernel) (by decide +kernel)) (goodIn_sub (fun _ h => List.mem_cons_of_mem _ (List.mem_append_right _ h)) (by decide +kernel))
set_option maxRecDepth 20000 in
theorem gX7_areAlike_X7_isDoor : GoodIn wsX7_areAlike (wsV RX7 112 RX7 yX7_isDoor wsX7_isDoor) := goodIn_app (goodIn_of _ (by decide +kernel)) ggX7_areAlike_X7_isDoor
set_option maxRecDepth 20000 in
theorem ggX7_areAlike_X7_isAlike : GoodIn wsX7_areAlike wsX7_isAlike := goodIn_ca (goodIn_r _ [14, 7, 15, 16, 17, 5, 18, 19, 20, 21, 22, 23, 24, 25, 26, 27, 28, 29, 30, 31, 32, 33, 34, 35, 36, 37, 38, 39, 40, 41, 42, 43] (by decide +kernel) (by decide +kernel)) (goodIn_sub (fun _ h => List.mem_cons_of_mem _ (List.mem_append_right _ h)) (by decide +kernel))
set_option maxRecDepth 20000 in
theorem gX7_areAlike_X7_isAlike : GoodIn wsX7_areAlike (wsV RX7 137 RX7 yX7_isAlike wsX7_isAlike) := goodIn_app (goodIn_of _ (by decide +kernel)) ggX7_areAlike_X7_isAlike
theorem dX7_areAlike_0 : decode cX7_areAlike 0 = .ok (.aload_n 0, 1) := by decide +kernel
theorem dX7_areAlike_1 : decode cX7_areAlike 1 = .ok (.aload_n 0, 1) := by decide +kernel
theorem dX7_areAlike_2 : decode cX7_areAlike 2 = .ok (.iload_n 1, 1) := by decide +kernel
theorem dX7_areAlike_3 : decode cX7_areAlike 3 = .ok (.invokevirtual 112, 3) := by decide +kernel
theorem dX7_areAlike_6 : decode cX7_areAlike 6 = .ok (.ifCond .eq 15, 3) := by decide +kernel
theorem dX7_areAlike_9 : decode cX7_areAlike 9 = .ok (.aload_n 0, 1) := by decide +kernel
theorem dX7_areAlike_10 : decode cX7_areAlike 10 = .ok (.iload_n 2, 1) := by decide +kernel
theorem dX7_areAlike_11 : decode cX7_areAlike 11 = .ok (.invokevirtual 112, 3) := by decide +kernel
theorem dX7_areAlike_14 : decode cX7_areAlike 14 = .ok (.ifCond .eq 7, 3) := by decide +kernel
theorem dX7_areAlike_17 : decode cX7_areAlike 17 = .ok (.iconst 0, 1) := by decide +kernel
theorem dX7_areAlike_18 : decode cX7_areAlike 18 = .ok (.goto 4, 3) := by decide +kernel
theorem dX7_areAlike_21 : decode cX7_areAlike 21 = .ok (.iconst 1, 1) := by decide +kernel
theorem dX7_areAlike_22 : decode cX7_areAlike 22 = .ok (.putfield 42, 3) := by decide +kernel
theorem dX7_areAlike_25 : decode cX7_areAlike 25 = .ok (.aload_n 0, 1) := by decide +kernel
theorem dX7_areAlike_26 : decode cX7_areAlike 26 = .ok (.getfield 42, 3) := by decide +kernel
theorem dX7_areAlike_29 : decode cX7_areAlike 29 = .ok (.ifCond .ne 16, 3) := by decide +kernel
theorem dX7_areAlike_32 : decode cX7_areAlike 32 = .ok (.aload_n 0, 1) := by decide +kernel
theorem dX7_areAlike_33 : decode cX7_areAlike 33 = .ok (.iload_n 1, 1) := by decide +kernel
theorem dX7_areAlike_34 : decode cX7_areAlike 34 = .ok (.iload_n 2, 1) := by decide +kernel
theorem dX7_areAlike_35 : decode cX7_areAlike 35 = .ok (.invokevirtual 137, 3) := by decide +kernel
theorem dX7_areAlike_38 : decode cX7_areAlike 38 = .ok (.ifCond .eq 7, 3) := by decide +kernel
theorem dX7_areAlike_41 : decode cX7_areAlike 41 = .ok (.iconst 1, 1) := by decide +kernel
theorem dX7_areAlike_42 : decode cX7_areAlike 42 = .ok (.goto 4, 3) := by decide +kernel
theorem dX7_areAlike_45 : decode cX7_areAlike 45 = .ok (.iconst 0, 1) := by decide +kernel
theorem dX7_areAlike_46 : decode cX7_areAlike 46 = .ok (.ireturn, 1) := by decide +kernel
set_option maxRecDepth 20000 in
theorem ggX7_couldBe_X7_isDoor : GoodIn wsX7_couldBe wsX7_isDoor := goodIn_ca (goodIn_r _ [6, 1, 7, 8, 5, 9, 30, 31, 32, 33, 34, 35, 36, 37, 38, 39, 40, 41, 42, 43, 44, 45, 46, 47] (by decide +kernel) (by decide +kernel)) (goodIn_sub (fun _ h => List.mem_cons_of_mem _ (List.mem_append_right _ h)) (by decide +kernel))
set_option maxRecDepth 20000 in
theorem gX7_couldBe_X7_isDoor : GoodIn wsX7_couldBe (wsV RX7 112 RX7 yX7_isDoor wsX7_isDoor) := goodIn_app (goodIn_of _ (by decide +kernel)) ggX7_couldBe_X7_isDoor
set_option maxRecDepth 20000 in
theorem ggX7_couldBe_X7_fails : GoodIn wsX7_couldBe wsX7_fails := goodIn_r _ [13, 14, 30, 31, 32, 33, 34, 35, 36, 37, 38, 39, 40, 41, 42, 43, 44, 45, 46, 47] (by decide +kernel) (by decide +kernel)
set_option maxRecDepth 20000 in
theorem gX7_couldBe_X7_fails : GoodIn wsX7_couldBe (wsV RX7 51 RX7 yX7_fails wsX7_fails) := goodIn_app (goodIn_of _ (by decide +kernel)) ggX7_couldBe_X7_fails
set_option maxRecDepth 20000 in
theorem ggX7_couldBe_X7_endingAt : GoodIn wsX7_couldBe wsX7_endingAt := goodIn_r _ [17] (by decide +kernel) (by decide +kernel)
set_option maxRecDepth 20000 in
theorem gX7_couldBe_X7_endingAt : GoodIn wsX7_couldBe (va_wsS RX7 62 yX7_endingAt wsX7_endingAt) := goodIn_app (goodIn_of _ (by decide +kernel)) ggX7_couldBe_X7_endingAt
set_option maxRecDepth 20000 in
theorem ggX7_couldBe_X7_endingOf : GoodIn wsX7_couldBe wsX7_endingOf := goodIn_ca (goodIn_r _ [21, 1, 22, 23, 24, 5, 25, 15, 16, 17, 30, 31, 32, 33, 34, 35, 36, 37, 38, 39, 40, 41, 42, 43, 44, 45, 46, 47] (by decide +kernel) (by decide +kernel)) (goodIn_sub (fun _ h => List.mem_cons_of_mem _ (List.mem_append_right _ h)) (by decide +kernel))
set_option maxRecDepth 20000 in
theorem gX7_couldBe_X7_endingOf : GoodIn wsX7_couldBe (wsV RX7 134 RX7 yX7_endingOf wsX7_endingOf) := goodIn_app (goodIn_of _ (by decide +kernel)) ggX7_couldBe_X7_endingOf
set_option maxRecDepth 20000 in
theorem ggX7_couldBe_X7_done : GoodIn wsX7_couldBe wsX7_done := goodIn_r _ [29, 14, 30, 31, 32, 33, 34, 35, 36, 37, 38, 39, 40, 41, 42, 43, 44, 45, 46, 47] (by decide +kernel) (by decide +kernel)
set_option maxRecDepth 20000 in
theorem gX7_couldBe_X7_done : GoodIn wsX7_couldBe (wsV RX7 69 RX7 yX7_done wsX7_done) := goodIn_app (goodIn_of _ (by decide +kernel)) ggX7_couldBe_X7_done
theorem dX7_couldBe_0 : decode cX7_couldBe 0 = .ok (.aload_n 0, 1) := by decide +kernel
theorem dX7_couldBe_1 : decode cX7_couldBe 1 = .ok (.iload_n 1, 1) := by decide +kernel
theorem dX7_couldBe_2 : decode cX7_couldBe 2 = .ok (.invokevirtual 112, 3) := by decide +kernel
theorem dX7_couldBe_5 : decode cX7_couldBe 5 = .ok (.ifCond .ne 9, 3) := by decide +kernel
theorem dX7_couldBe_8 : decode cX7_couldBe 8 = .ok (.aload_n 0, 1) := by decide +kernel
theorem dX7_couldBe_9 : decode cX7_couldBe 9 = .ok (.iconst 1, 1) := by decide +kernel
theorem dX7_couldBe_10 : decode cX7_couldBe 10 = .ok (.invokevirtual 51, 3) := by decide +kernel
theorem dX7_couldBe_13 : decode cX7_couldBe 13 = .ok (.ireturn, 1) := by decide +kernel
theorem dX7_couldBe_14 : decode cX7_couldBe 14 = .ok (.iconst 0, 1) := by decide +kernel
theorem dX7_couldBe_15 : decode cX7_couldBe 15 = .ok (.istore_n 2, 1) := by decide +kernel
theorem dX7_couldBe_16 : decode cX7_couldBe 16 = .ok (.iconst 0, 1) := by decide +kernel
theorem dX7_couldBe_17 : decode cX7_couldBe 17 = .ok (.istore_n 3, 1) := by decide +kernel
theorem dX7_couldBe_18 : decode cX7_couldBe 18 = .ok (.iload_n 3, 1) := by decide +kernel
theorem dX7_couldBe_19 : decode cX7_couldBe 19 = .ok (.iconst 4, 1) := by decide +kernel
theorem dX7_couldBe_20 : decode cX7_couldBe 20 = .ok (.if_icmp .ge 54, 3) := by decide +kernel
theorem dX7_couldBe_23 : decode cX7_couldBe 23 = .ok (.iload_n 2, 1) := by decide +kernel
theorem dX7_couldBe_24 : decode cX7_couldBe 24 = .ok (.aload_n 0, 1) := by decide +kernel
theorem dX7_couldBe_25 : decode cX7_couldBe 25 = .ok (.getfield 7, 3) := by decide +kernel
theorem dX7_couldBe_28 : decode cX7_couldBe 28 = .ok (.aload_n 0, 1) := by decide +kernel
theorem dX7_couldBe_29 : decode cX7_couldBe 29 = .ok (.getfield 7, 3) := by decide +kernel
theorem dX7_couldBe_32 : decode cX7_couldBe 32 = .ok (.bipush 32, 2) := by decide +kernel
theorem dX7_couldBe_34 : decode cX7_couldBe 34 = .ok (.iload_n 1, 1) := by decide +kernel
theorem dX7_couldBe_35 : decode cX7_couldBe 35 = .ok (.iadd, 1) := by decide +kernel
theorem dX7_couldBe_36 : decode cX7_couldBe 36 = .ok (.iaload, 1) := by decide +kernel
theorem dX7_couldBe_37 : decode cX7_couldBe 37 = .ok (.iload_n 3, 1) := by decide +kernel
theorem dX7_couldBe_38 : decode cX7_couldBe 38 = .ok (.aload_n 0, 1) := by decide +kernel
theorem dX7_couldBe_39 : decode cX7_couldBe 39 = .ok (.getfield 7, 3) := by decide +kernel
theorem dX7_couldBe_42 : decode cX7_couldBe 42 = .ok (.bipush 48, 2) := by decide +kernel
theorem dX7_couldBe_44 : decode cX7_couldBe 44 = .ok (.iload_n 1, 1) := by decide +kernel
theorem dX7_couldBe_45 : decode cX7_couldBe 45 = .ok (.iadd, 1) := by decide +kernel
theorem dX7_couldBe_46 : decode cX7_couldBe 46 = .ok (.iaload, 1) := by decide +kernel
theorem dX7_couldBe_47 : decode cX7_couldBe 47 = .ok (.invokestatic 62, 3) := by decide +kernel
theorem dX7_couldBe_50 : decode cX7_couldBe 50 = .ok (.iaload, 1) := by decide +kernel
theorem dX7_couldBe_51 : decode cX7_couldBe 51 = .ok (.aload_n 0, 1) := by decide +kernel
theorem dX7_couldBe_52 : decode cX7_couldBe 52 = .ok (.iload_n 1, 1) := by decide +kernel
theorem dX7_couldBe_53 : decode cX7_couldBe 53 = .ok (.invokevirtual 134, 3) := by decide +kernel
theorem dX7_couldBe_56 : decode cX7_couldBe 56 = .ok (.if_icmp .ne 9, 3) := by decide +kernel
theorem dX7_couldBe_59 : decode cX7_couldBe 59 = .ok (.iconst 1, 1) := by decide +kernel
theorem dX7_couldBe_60 : decode cX7_couldBe 60 = .ok (.iload_n 3, 1) := by decide +kernel
theorem dX7_couldBe_61 : decode cX7_couldBe 61 = .ok (.ishl, 1) := by decide +kernel
theorem dX7_couldBe_62 : decode cX7_couldBe 62 = .ok (.goto 4, 3) := by decide +kernel
theorem dX7_couldBe_65 : decode cX7_couldBe 65 = .ok (.iconst 0, 1) := by decide +kernel
theorem dX7_couldBe_66 : decode cX7_couldBe 66 = .ok (.ior, 1) := by decide +kernel
theorem dX7_couldBe_67 : decode cX7_couldBe 67 = .ok (.istore_n 2, 1) := by decide +kernel
theorem dX7_couldBe_68 : decode cX7_couldBe 68 = .ok (.iinc 3 1, 3) := by decide +kernel
theorem dX7_couldBe_71 : decode cX7_couldBe 71 = .ok (.goto (-53), 3) := by decide +kernel
theorem dX7_couldBe_74 : decode cX7_couldBe 74 = .ok (.aload_n 0, 1) := by decide +kernel
theorem dX7_couldBe_75 : decode cX7_couldBe 75 = .ok (.iload_n 2, 1) := by decide +kernel
theorem dX7_couldBe_76 : decode cX7_couldBe 76 = .ok (.invokevirtual 69, 3) := by decide +kernel
theorem dX7_couldBe_79 : decode cX7_couldBe 79 = .ok (.ireturn, 1) := by decide +kernel
set_option maxRecDepth 20000 in
theorem ggX7_twins_X7_isDoor : GoodIn wsX7_twins wsX7_isDoor := goodIn_ca (goodIn_r _ [6, 1, 7, 8, 5, 9, 34, 35, 36, 37, 38, 39, 40, 41, 42, 43, 44, 45, 46, 47, 48, 49, 50, 51] (by decide +kernel) (by decide +kernel)) (goodIn_sub (fun _ h => List.mem_cons_of_mem _ (List.mem_append_right _ h)) (by decide +kernel))
set_option maxRecDepth 20000 in
theorem gX7_twins_X7_isDoor : GoodIn wsX7_twins (wsV RX7 112 RX7 yX7_isDoor wsX7_isDoor) := goodIn_app (goodIn_of _ (by decide +kernel)) ggX7_twins_X7_isDoor
set_option maxRecDepth 20000 in
theorem ggX7_twins_X7_fails : GoodIn wsX7_twins wsX7_fails := goodIn_r _ [13, 14, 34, 35, 36, 37, 38, 39, 40, 41, 42, 43, 44, 45, 46, 47, 48, 49, 50, 51] (by decide +kernel) (by decide +kernel)
set_option maxRecDepth 20000 in
theorem gX7_twins_X7_fails : GoodIn wsX7_twins (wsV RX7 51 RX7 yX7_fails wsX7_fails) := goodIn_app (goodIn_of _ (by decide +kernel)) ggX7_twins_X7_fails
set_option maxRecDepth 20000 in
theorem ggX7_twins_X7_isAlike : GoodIn wsX7_twins wsX7_isAlike := goodIn_ca (goodIn_r _ [18, 1, 19, 20, 21, 5, 22, 23, 24, 25, 26, 27, 28, 29, 34, 35, 36, 37, 38, 39, 40, 41, 42, 43, 44, 45, 46, 47, 48, 49, 50, 51] (by decide +kernel) (by decide +kernel)) (goodIn_sub (fun _ h => List.mem_cons_of_mem _ (List.mem_append_right _ h)) (by decide +kernel))
set_option maxRecDepth 20000 in
theorem gX7_twins_X7_isAlike : GoodIn wsX7_twins (wsV RX7 137 RX7 yX7_isAlike wsX7_isAlike) := goodIn_app (goodIn_of _ (by decide +kernel)) ggX7_twins_X7_isAlike
set_option maxRecDepth 20000 in
theorem ggX7_twins_X7_done : GoodIn wsX7_twins wsX7_done := goodIn_r _ [33, 14, 34, 35, 36, 37, 38, 39, 40, 41, 42, 43, 44, 45, 46, 47, 48, 49, 50, 51] (by decide +kernel) (by decide +kernel)
set_option maxRecDepth 20000 in
theorem gX7_twins_X7_done : GoodIn wsX7_twins (wsV RX7 69 RX7 yX7_done wsX7_done) := goodIn_app (goodIn_of _ (by decide +kernel)) ggX7_twins_X7_done
theorem dX7_twins_0 : decode cX7_twins 0 = .ok (.aload_n 0, 1) := by decide +kernel
theorem dX7_twins_1 : decode cX7_twins 1 = .ok (.iload_n 1, 1) := by decide +kernel
theorem dX7_twins_2 : decode cX7_twins 2 = .ok (.invokevirtual 112, 3) := by decide +kernel
theorem dX7_twins_5 : decode cX7_twins 5 = .ok (.ifCond .ne 9, 3) := by decide +kernel
theorem dX7_twins_8 : decode cX7_twins 8 = .ok (.aload_n 0, 1) := by decide +kernel
theorem dX7_twins_9 : decode cX7_twins 9 = .ok (.iconst 1, 1) := by decide +kernel
theorem dX7_twins_10 : decode cX7_twins 10 = .ok (.invokevirtual 51, 3) := by decide +kernel
theorem dX7_twins_13 : decode cX7_twins 13 = .ok (.ireturn, 1) := by decide +kernel
theorem dX7_twins_14 : decode cX7_twins 14 = .ok (.iconst 0, 1) := by decide +kernel
theorem dX7_twins_15 : decode cX7_twins 15 = .ok (.istore_n 2, 1) := by decide +kernel
theorem dX7_twins_16 : decode cX7_twins 16 = .ok (.iconst 0, 1) := by decide +kernel
theorem dX7_twins_17 : decode cX7_twins 17 = .ok (.istore_n 3, 1) := by decide +kernel
theorem dX7_twins_18 : decode cX7_twins 18 = .ok (.iload_n 3, 1) := by decide +kernel
theorem dX7_twins_19 : decode cX7_twins 19 = .ok (.aload_n 0, 1) := by decide +kernel
theorem dX7_twins_20 : decode cX7_twins 20 = .ok (.getfield 7, 3) := by decide +kernel
theorem dX7_twins_23 : decode cX7_twins 23 = .ok (.iconst 0, 1) := by decide +kernel
theorem dX7_twins_24 : decode cX7_twins 24 = .ok (.iaload, 1) := by decide +kernel
theorem dX7_twins_25 : decode cX7_twins 25 = .ok (.if_icmp .ge 28, 3) := by decide +kernel
theorem dX7_twins_28 : decode cX7_twins 28 = .ok (.iload_n 2, 1) := by decide +kernel
theorem dX7_twins_29 : decode cX7_twins 29 = .ok (.aload_n 0, 1) := by decide +kernel
theorem dX7_twins_30 : decode cX7_twins 30 = .ok (.iload_n 1, 1) := by decide +kernel
theorem dX7_twins_31 : decode cX7_twins 31 = .ok (.iload_n 3, 1) := by decide +kernel
theorem dX7_twins_32 : decode cX7_twins 32 = .ok (.invokevirtual 137, 3) := by decide +kernel
theorem dX7_twins_35 : decode cX7_twins 35 = .ok (.ifCond .eq 9, 3) := by decide +kernel
