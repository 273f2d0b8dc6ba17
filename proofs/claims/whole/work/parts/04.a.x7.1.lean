theorem dX7_twins_38 : decode cX7_twins 38 = .ok (.iconst 1, 1) := by decide +kernel
theorem dX7_twins_39 : decode cX7_twins 39 = .ok (.iload_n 3, 1) := by decide +kernel
theorem dX7_twins_40 : decode cX7_twins 40 = .ok (.ishl, 1) := by decide +kernel
theorem dX7_twins_41 : decode cX7_twins 41 = .ok (.goto 4, 3) := by decide +kernel
theorem dX7_twins_44 : decode cX7_twins 44 = .ok (.iconst 0, 1) := by decide +kernel
theorem dX7_twins_45 : decode cX7_twins 45 = .ok (.ior, 1) := by decide +kernel
theorem dX7_twins_46 : decode cX7_twins 46 = .ok (.istore_n 2, 1) := by decide +kernel
theorem dX7_twins_47 : decode cX7_twins 47 = .ok (.iinc 3 1, 3) := by decide +kernel
theorem dX7_twins_50 : decode cX7_twins 50 = .ok (.goto (-32), 3) := by decide +kernel
theorem dX7_twins_53 : decode cX7_twins 53 = .ok (.aload_n 0, 1) := by decide +kernel
theorem dX7_twins_54 : decode cX7_twins 54 = .ok (.iload_n 2, 1) := by decide +kernel
theorem dX7_twins_55 : decode cX7_twins 55 = .ok (.invokevirtual 69, 3) := by decide +kernel
theorem dX7_twins_58 : decode cX7_twins 58 = .ok (.ireturn, 1) := by decide +kernel
set_option maxRecDepth 20000 in
theorem ggX7_syncretic_X7_isThird : GoodIn wsX7_syncretic wsX7_isThird := goodIn_r _ [5, 6, 7, 4, 8] (by decide +kernel) (by decide +kernel)
set_option maxRecDepth 20000 in
theorem gX7_syncretic_X7_isThird : GoodIn wsX7_syncretic (va_wsS RX7 79 yX7_isThird wsX7_isThird) := goodIn_app (goodIn_of _ (by decide +kernel)) ggX7_syncretic_X7_isThird
set_option maxRecDepth 20000 in
theorem ggX7_syncretic_X7_fails : GoodIn wsX7_syncretic wsX7_fails := goodIn_r _ [12, 13, 21, 22, 23, 24, 25, 26, 27, 28, 29, 30, 31, 32, 33, 34, 35, 36, 37, 38] (by decide +kernel) (by decide +kernel)
set_option maxRecDepth 20000 in
theorem gX7_syncretic_X7_fails : GoodIn wsX7_syncretic (wsV RX7 51 RX7 yX7_fails wsX7_fails) := goodIn_app (goodIn_of _ (by decide +kernel)) ggX7_syncretic_X7_fails
set_option maxRecDepth 20000 in
theorem ggX7_syncretic_X7_endingAt : GoodIn wsX7_syncretic wsX7_endingAt := goodIn_r _ [16] (by decide +kernel) (by decide +kernel)
set_option maxRecDepth 20000 in
theorem gX7_syncretic_X7_endingAt : GoodIn wsX7_syncretic (va_wsS RX7 62 yX7_endingAt wsX7_endingAt) := goodIn_app (goodIn_of _ (by decide +kernel)) ggX7_syncretic_X7_endingAt
set_option maxRecDepth 20000 in
theorem ggX7_syncretic_X7_done : GoodIn wsX7_syncretic wsX7_done := goodIn_r _ [20, 13, 21, 22, 23, 24, 25, 26, 27, 28, 29, 30, 31, 32, 33, 34, 35, 36, 37, 38] (by decide +kernel) (by decide +kernel)
set_option maxRecDepth 20000 in
theorem gX7_syncretic_X7_done : GoodIn wsX7_syncretic (wsV RX7 69 RX7 yX7_done wsX7_done) := goodIn_app (goodIn_of _ (by decide +kernel)) ggX7_syncretic_X7_done
theorem dX7_syncretic_0 : decode cX7_syncretic 0 = .ok (.iload_n 1, 1) := by decide +kernel
theorem dX7_syncretic_1 : decode cX7_syncretic 1 = .ok (.invokestatic 79, 3) := by decide +kernel
theorem dX7_syncretic_4 : decode cX7_syncretic 4 = .ok (.ifCond .ne 9, 3) := by decide +kernel
theorem dX7_syncretic_7 : decode cX7_syncretic 7 = .ok (.aload_n 0, 1) := by decide +kernel
theorem dX7_syncretic_8 : decode cX7_syncretic 8 = .ok (.iconst 1, 1) := by decide +kernel
theorem dX7_syncretic_9 : decode cX7_syncretic 9 = .ok (.invokevirtual 51, 3) := by decide +kernel
theorem dX7_syncretic_12 : decode cX7_syncretic 12 = .ok (.ireturn, 1) := by decide +kernel
theorem dX7_syncretic_13 : decode cX7_syncretic 13 = .ok (.iconst 0, 1) := by decide +kernel
theorem dX7_syncretic_14 : decode cX7_syncretic 14 = .ok (.istore_n 2, 1) := by decide +kernel
theorem dX7_syncretic_15 : decode cX7_syncretic 15 = .ok (.iconst 0, 1) := by decide +kernel
theorem dX7_syncretic_16 : decode cX7_syncretic 16 = .ok (.istore_n 3, 1) := by decide +kernel
theorem dX7_syncretic_17 : decode cX7_syncretic 17 = .ok (.iload_n 3, 1) := by decide +kernel
theorem dX7_syncretic_18 : decode cX7_syncretic 18 = .ok (.iconst 4, 1) := by decide +kernel
theorem dX7_syncretic_19 : decode cX7_syncretic 19 = .ok (.if_icmp .ge 92, 3) := by decide +kernel
theorem dX7_syncretic_22 : decode cX7_syncretic 22 = .ok (.iconst 0, 1) := by decide +kernel
theorem dX7_syncretic_23 : decode cX7_syncretic 23 = .ok (.istore 4, 2) := by decide +kernel
theorem dX7_syncretic_25 : decode cX7_syncretic 25 = .ok (.iload 4, 2) := by decide +kernel
theorem dX7_syncretic_27 : decode cX7_syncretic 27 = .ok (.iload_n 3, 1) := by decide +kernel
theorem dX7_syncretic_28 : decode cX7_syncretic 28 = .ok (.if_icmp .ge 77, 3) := by decide +kernel
theorem dX7_syncretic_31 : decode cX7_syncretic 31 = .ok (.iload_n 2, 1) := by decide +kernel
theorem dX7_syncretic_32 : decode cX7_syncretic 32 = .ok (.aload_n 0, 1) := by decide +kernel
theorem dX7_syncretic_33 : decode cX7_syncretic 33 = .ok (.getfield 7, 3) := by decide +kernel
theorem dX7_syncretic_36 : decode cX7_syncretic 36 = .ok (.iload_n 1, 1) := by decide +kernel
theorem dX7_syncretic_37 : decode cX7_syncretic 37 = .ok (.iload_n 3, 1) := by decide +kernel
theorem dX7_syncretic_38 : decode cX7_syncretic 38 = .ok (.iconst 0, 1) := by decide +kernel
theorem dX7_syncretic_39 : decode cX7_syncretic 39 = .ok (.invokestatic 62, 3) := by decide +kernel
theorem dX7_syncretic_42 : decode cX7_syncretic 42 = .ok (.iaload, 1) := by decide +kernel
theorem dX7_syncretic_43 : decode cX7_syncretic 43 = .ok (.aload_n 0, 1) := by decide +kernel
theorem dX7_syncretic_44 : decode cX7_syncretic 44 = .ok (.getfield 7, 3) := by decide +kernel
theorem dX7_syncretic_47 : decode cX7_syncretic 47 = .ok (.iload_n 1, 1) := by decide +kernel
theorem dX7_syncretic_48 : decode cX7_syncretic 48 = .ok (.iload 4, 2) := by decide +kernel
theorem dX7_syncretic_50 : decode cX7_syncretic 50 = .ok (.iconst 0, 1) := by decide +kernel
theorem dX7_syncretic_51 : decode cX7_syncretic 51 = .ok (.invokestatic 62, 3) := by decide +kernel
theorem dX7_syncretic_54 : decode cX7_syncretic 54 = .ok (.iaload, 1) := by decide +kernel
theorem dX7_syncretic_55 : decode cX7_syncretic 55 = .ok (.if_icmp .ne 7, 3) := by decide +kernel
theorem dX7_syncretic_58 : decode cX7_syncretic 58 = .ok (.iconst 1, 1) := by decide +kernel
theorem dX7_syncretic_59 : decode cX7_syncretic 59 = .ok (.goto 4, 3) := by decide +kernel
theorem dX7_syncretic_62 : decode cX7_syncretic 62 = .ok (.iconst 0, 1) := by decide +kernel
theorem dX7_syncretic_63 : decode cX7_syncretic 63 = .ok (.iadd, 1) := by decide +kernel
theorem dX7_syncretic_64 : decode cX7_syncretic 64 = .ok (.istore_n 2, 1) := by decide +kernel
theorem dX7_syncretic_65 : decode cX7_syncretic 65 = .ok (.iload_n 2, 1) := by decide +kernel
theorem dX7_syncretic_66 : decode cX7_syncretic 66 = .ok (.aload_n 0, 1) := by decide +kernel
theorem dX7_syncretic_67 : decode cX7_syncretic 67 = .ok (.getfield 7, 3) := by decide +kernel
theorem dX7_syncretic_70 : decode cX7_syncretic 70 = .ok (.iload_n 1, 1) := by decide +kernel
theorem dX7_syncretic_71 : decode cX7_syncretic 71 = .ok (.iload_n 3, 1) := by decide +kernel
theorem dX7_syncretic_72 : decode cX7_syncretic 72 = .ok (.iconst 1, 1) := by decide +kernel
theorem dX7_syncretic_73 : decode cX7_syncretic 73 = .ok (.invokestatic 62, 3) := by decide +kernel
theorem dX7_syncretic_76 : decode cX7_syncretic 76 = .ok (.iaload, 1) := by decide +kernel
theorem dX7_syncretic_77 : decode cX7_syncretic 77 = .ok (.aload_n 0, 1) := by decide +kernel
theorem dX7_syncretic_78 : decode cX7_syncretic 78 = .ok (.getfield 7, 3) := by decide +kernel
theorem dX7_syncretic_81 : decode cX7_syncretic 81 = .ok (.iload_n 1, 1) := by decide +kernel
theorem dX7_syncretic_82 : decode cX7_syncretic 82 = .ok (.iload 4, 2) := by decide +kernel
theorem dX7_syncretic_84 : decode cX7_syncretic 84 = .ok (.iconst 1, 1) := by decide +kernel
theorem dX7_syncretic_85 : decode cX7_syncretic 85 = .ok (.invokestatic 62, 3) := by decide +kernel
theorem dX7_syncretic_88 : decode cX7_syncretic 88 = .ok (.iaload, 1) := by decide +kernel
theorem dX7_syncretic_89 : decode cX7_syncretic 89 = .ok (.if_icmp .ne 7, 3) := by decide +kernel
theorem dX7_syncretic_92 : decode cX7_syncretic 92 = .ok (.iconst 1, 1) := by decide +kernel
theorem dX7_syncretic_93 : decode cX7_syncretic 93 = .ok (.goto 4, 3) := by decide +kernel
theorem dX7_syncretic_96 : decode cX7_syncretic 96 = .ok (.iconst 0, 1) := by decide +kernel
theorem dX7_syncretic_97 : decode cX7_syncretic 97 = .ok (.iadd, 1) := by decide +kernel
theorem dX7_syncretic_98 : decode cX7_syncretic 98 = .ok (.istore_n 2, 1) := by decide +kernel
theorem dX7_syncretic_99 : decode cX7_syncretic 99 = .ok (.iinc 4 1, 3) := by decide +kernel
theorem dX7_syncretic_102 : decode cX7_syncretic 102 = .ok (.goto (-77), 3) := by decide +kernel
theorem dX7_syncretic_105 : decode cX7_syncretic 105 = .ok (.iinc 3 1, 3) := by decide +kernel
theorem dX7_syncretic_108 : decode cX7_syncretic 108 = .ok (.goto (-91), 3) := by decide +kernel
theorem dX7_syncretic_111 : decode cX7_syncretic 111 = .ok (.aload_n 0, 1) := by decide +kernel
theorem dX7_syncretic_112 : decode cX7_syncretic 112 = .ok (.iload_n 2, 1) := by decide +kernel
theorem dX7_syncretic_113 : decode cX7_syncretic 113 = .ok (.invokevirtual 69, 3) := by decide +kernel
theorem dX7_syncretic_116 : decode cX7_syncretic 116 = .ok (.ireturn, 1) := by decide +kernel
theorem dX7_oftenness_0 : decode cX7_oftenness 0 = .ok (.iconst 0, 1) := by decide +kernel
theorem dX7_oftenness_1 : decode cX7_oftenness 1 = .ok (.istore_n 2, 1) := by decide +kernel
theorem dX7_oftenness_2 : decode cX7_oftenness 2 = .ok (.iconst 0, 1) := by decide +kernel
theorem dX7_oftenness_3 : decode cX7_oftenness 3 = .ok (.istore_n 3, 1) := by decide +kernel
theorem dX7_oftenness_4 : decode cX7_oftenness 4 = .ok (.iload_n 3, 1) := by decide +kernel
theorem dX7_oftenness_5 : decode cX7_oftenness 5 = .ok (.bipush 24, 2) := by decide +kernel
theorem dX7_oftenness_7 : decode cX7_oftenness 7 = .ok (.if_icmp .ge 30, 3) := by decide +kernel
theorem dX7_oftenness_10 : decode cX7_oftenness 10 = .ok (.iload_n 2, 1) := by decide +kernel
theorem dX7_oftenness_11 : decode cX7_oftenness 11 = .ok (.aload_n 0, 1) := by decide +kernel
theorem dX7_oftenness_12 : decode cX7_oftenness 12 = .ok (.getfield 7, 3) := by decide +kernel
theorem dX7_oftenness_15 : decode cX7_oftenness 15 = .ok (.bipush 8, 2) := by decide +kernel
theorem dX7_oftenness_17 : decode cX7_oftenness 17 = .ok (.iload_n 3, 1) := by decide +kernel
theorem dX7_oftenness_18 : decode cX7_oftenness 18 = .ok (.iadd, 1) := by decide +kernel
theorem dX7_oftenness_19 : decode cX7_oftenness 19 = .ok (.iaload, 1) := by decide +kernel
theorem dX7_oftenness_20 : decode cX7_oftenness 20 = .ok (.iload_n 1, 1) := by decide +kernel
theorem dX7_oftenness_21 : decode cX7_oftenness 21 = .ok (.if_icmp .ne 7, 3) := by decide +kernel
theorem dX7_oftenness_24 : decode cX7_oftenness 24 = .ok (.iconst 1, 1) := by decide +kernel
theorem dX7_oftenness_25 : decode cX7_oftenness 25 = .ok (.goto 4, 3) := by decide +kernel
theorem dX7_oftenness_28 : decode cX7_oftenness 28 = .ok (.iconst 0, 1) := by decide +kernel
theorem dX7_oftenness_29 : decode cX7_oftenness 29 = .ok (.iadd, 1) := by decide +kernel
theorem dX7_oftenness_30 : decode cX7_oftenness 30 = .ok (.istore_n 2, 1) := by decide +kernel
theorem dX7_oftenness_31 : decode cX7_oftenness 31 = .ok (.iinc 3 1, 3) := by decide +kernel
theorem dX7_oftenness_34 : decode cX7_oftenness 34 = .ok (.goto (-30), 3) := by decide +kernel
theorem dX7_oftenness_37 : decode cX7_oftenness 37 = .ok (.iload_n 2, 1) := by decide +kernel
theorem dX7_oftenness_38 : decode cX7_oftenness 38 = .ok (.ireturn, 1) := by decide +kernel
set_option maxRecDepth 20000 in
theorem ggX7_often_X7_in : GoodIn wsX7_often wsX7_in := goodIn_r _ [4] (by decide +kernel) (by decide +kernel)
set_option maxRecDepth 20000 in
theorem gX7_often_X7_in : GoodIn wsX7_often (va_wsS RX7 72 yX7_in wsX7_in) := goodIn_app (goodIn_of _ (by decide +kernel)) ggX7_often_X7_in
set_option maxRecDepth 20000 in
theorem ggX7_often_X7_oftenness : GoodIn wsX7_often wsX7_oftenness := goodIn_ca (goodIn_r _ [8, 9, 19, 20, 21, 22, 23, 24, 25, 26, 27, 28, 29, 30, 31, 32, 33, 34, 35, 36] (by decide +kernel) (by decide +kernel)) (goodIn_sub (fun _ h => List.mem_cons_of_mem _ (List.mem_append_right _ h)) (by decide +kernel))
set_option maxRecDepth 20000 in
theorem gX7_often_X7_oftenness : GoodIn wsX7_often (wsV RX7 141 RX7 yX7_oftenness wsX7_oftenness) := goodIn_app (goodIn_of _ (by decide +kernel)) ggX7_often_X7_oftenness
set_option maxRecDepth 20000 in
theorem ggX7_often_X7_done : GoodIn wsX7_often wsX7_done := goodIn_r _ [13, 14, 19, 20, 21, 22, 23, 24, 25, 26, 27, 28, 29, 30, 31, 32, 33, 34, 35, 36] (by decide +kernel) (by decide +kernel)
set_option maxRecDepth 20000 in
theorem gX7_often_X7_done : GoodIn wsX7_often (wsV RX7 69 RX7 yX7_done wsX7_done) := goodIn_app (goodIn_of _ (by decide +kernel)) ggX7_often_X7_done
set_option maxRecDepth 20000 in
theorem ggX7_often_X7_fails : GoodIn wsX7_often wsX7_fails := goodIn_r _ [18, 14, 19, 20, 21, 22, 23, 24, 25, 26, 27, 28, 29, 30, 31, 32, 33, 34, 35, 36] (by decide +kernel) (by decide +kernel)
set_option maxRecDepth 20000 in
theorem gX7_often_X7_fails : GoodIn wsX7_often (wsV RX7 51 RX7 yX7_fails wsX7_fails) := goodIn_app (goodIn_of _ (by decide +kernel)) ggX7_often_X7_fails
theorem dX7_often_0 : decode cX7_often 0 = .ok (.iload_n 1, 1) := by decide +kernel
theorem dX7_often_1 : decode cX7_often 1 = .ok (.bipush 97, 2) := by decide +kernel
theorem dX7_often_3 : decode cX7_often 3 = .ok (.bipush 122, 2) := by decide +kernel
theorem dX7_often_5 : decode cX7_often 5 = .ok (.invokestatic 72, 3) := by decide +kernel
theorem dX7_often_8 : decode cX7_often 8 = .ok (.ifCond .eq 18, 3) := by decide +kernel
theorem dX7_often_11 : decode cX7_often 11 = .ok (.aload_n 0, 1) := by decide +kernel
theorem dX7_often_12 : decode cX7_often 12 = .ok (.aload_n 0, 1) := by decide +kernel
theorem dX7_often_13 : decode cX7_often 13 = .ok (.iload_n 1, 1) := by decide +kernel
theorem dX7_often_14 : decode cX7_often 14 = .ok (.bipush 97, 2) := by decide +kernel
theorem dX7_often_16 : decode cX7_often 16 = .ok (.isub, 1) := by decide +kernel
theorem dX7_often_17 : decode cX7_often 17 = .ok (.invokevirtual 141, 3) := by decide +kernel
theorem dX7_often_20 : decode cX7_often 20 = .ok (.invokevirtual 69, 3) := by decide +kernel
theorem dX7_often_23 : decode cX7_often 23 = .ok (.goto 8, 3) := by decide +kernel
theorem dX7_often_26 : decode cX7_often 26 = .ok (.aload_n 0, 1) := by decide +kernel
theorem dX7_often_27 : decode cX7_often 27 = .ok (.iconst 1, 1) := by decide +kernel
theorem dX7_often_28 : decode cX7_often 28 = .ok (.invokevirtual 51, 3) := by decide +kernel
theorem dX7_often_31 : decode cX7_often 31 = .ok (.ireturn, 1) := by decide +kernel
set_option maxRecDepth 20000 in
theorem ggX7_agreement_X7_caseOf : GoodIn wsX7_agreement wsX7_caseOf := goodIn_ca (goodIn_r _ [6, 1, 7, 8, 9, 10, 11, 12, 13, 14, 15, 16, 17, 18, 19, 20, 21, 22, 23, 24] (by decide +kernel) (by decide +kernel)) (goodIn_sub (fun _ h => List.mem_cons_of_mem _ (List.mem_append_right _ h)) (by decide +kernel))
set_option maxRecDepth 20000 in
theorem gX7_agreement_X7_caseOf : GoodIn wsX7_agreement (wsV RX7 76 RX7 yX7_caseOf wsX7_caseOf) := goodIn_app (goodIn_of _ (by decide +kernel)) ggX7_agreement_X7_caseOf
theorem dX7_agreement_0 : decode cX7_agreement 0 = .ok (.aload_n 0, 1) := by decide +kernel
theorem dX7_agreement_1 : decode cX7_agreement 1 = .ok (.getfield 7, 3) := by decide +kernel
theorem dX7_agreement_4 : decode cX7_agreement 4 = .ok (.bipush 40, 2) := by decide +kernel
theorem dX7_agreement_6 : decode cX7_agreement 6 = .ok (.iload_n 1, 1) := by decide +kernel
theorem dX7_agreement_7 : decode cX7_agreement 7 = .ok (.iadd, 1) := by decide +kernel
theorem dX7_agreement_8 : decode cX7_agreement 8 = .ok (.iaload, 1) := by decide +kernel
theorem dX7_agreement_9 : decode cX7_agreement 9 = .ok (.iload_n 2, 1) := by decide +kernel
theorem dX7_agreement_10 : decode cX7_agreement 10 = .ok (.if_icmp .ne 7, 3) := by decide +kernel
theorem dX7_agreement_13 : decode cX7_agreement 13 = .ok (.iconst 1, 1) := by decide +kernel
theorem dX7_agreement_14 : decode cX7_agreement 14 = .ok (.goto 4, 3) := by decide +kernel
theorem dX7_agreement_17 : decode cX7_agreement 17 = .ok (.iconst 0, 1) := by decide +kernel
theorem dX7_agreement_18 : decode cX7_agreement 18 = .ok (.aload_n 0, 1) := by decide +kernel
theorem dX7_agreement_19 : decode cX7_agreement 19 = .ok (.getfield 7, 3) := by decide +kernel
theorem dX7_agreement_22 : decode cX7_agreement 22 = .ok (.bipush 48, 2) := by decide +kernel
theorem dX7_agreement_24 : decode cX7_agreement 24 = .ok (.iload_n 1, 1) := by decide +kernel
theorem dX7_agreement_25 : decode cX7_agreement 25 = .ok (.iadd, 1) := by decide +kernel
theorem dX7_agreement_26 : decode cX7_agreement 26 = .ok (.iaload, 1) := by decide +kernel
theorem dX7_agreement_27 : decode cX7_agreement 27 = .ok (.iload_n 3, 1) := by decide +kernel
theorem dX7_agreement_28 : decode cX7_agreement 28 = .ok (.if_icmp .ne 7, 3) := by decide +kernel
theorem dX7_agreement_31 : decode cX7_agreement 31 = .ok (.iconst 1, 1) := by decide +kernel
theorem dX7_agreement_32 : decode cX7_agreement 32 = .ok (.goto 4, 3) := by decide +kernel
theorem dX7_agreement_35 : decode cX7_agreement 35 = .ok (.iconst 0, 1) := by decide +kernel
theorem dX7_agreement_36 : decode cX7_agreement 36 = .ok (.iadd, 1) := by decide +kernel
theorem dX7_agreement_37 : decode cX7_agreement 37 = .ok (.aload_n 0, 1) := by decide +kernel
theorem dX7_agreement_38 : decode cX7_agreement 38 = .ok (.iload_n 1, 1) := by decide +kernel
theorem dX7_agreement_39 : decode cX7_agreement 39 = .ok (.invokevirtual 76, 3) := by decide +kernel
theorem dX7_agreement_42 : decode cX7_agreement 42 = .ok (.iload 4, 2) := by decide +kernel
theorem dX7_agreement_44 : decode cX7_agreement 44 = .ok (.if_icmp .ne 7, 3) := by decide +kernel
theorem dX7_agreement_47 : decode cX7_agreement 47 = .ok (.iconst 1, 1) := by decide +kernel
theorem dX7_agreement_48 : decode cX7_agreement 48 = .ok (.goto 4, 3) := by decide +kernel
theorem dX7_agreement_51 : decode cX7_agreement 51 = .ok (.iconst 0, 1) := by decide +kernel
theorem dX7_agreement_52 : decode cX7_agreement 52 = .ok (.iadd, 1) := by decide +kernel
theorem dX7_agreement_53 : decode cX7_agreement 53 = .ok (.ireturn, 1) := by decide +kernel
theorem dX7_isWrongAt_0 : decode cX7_isWrongAt 0 = .ok (.aload_n 0, 1) := by decide +kernel
theorem dX7_isWrongAt_1 : decode cX7_isWrongAt 1 = .ok (.getfield 7, 3) := by decide +kernel
theorem dX7_isWrongAt_4 : decode cX7_isWrongAt 4 = .ok (.iconst 5, 1) := by decide +kernel
theorem dX7_isWrongAt_5 : decode cX7_isWrongAt 5 = .ok (.dup2, 1) := by decide +kernel
theorem dX7_isWrongAt_6 : decode cX7_isWrongAt 6 = .ok (.iaload, 1) := by decide +kernel
theorem dX7_isWrongAt_7 : decode cX7_isWrongAt 7 = .ok (.iconst 1, 1) := by decide +kernel
theorem dX7_isWrongAt_8 : decode cX7_isWrongAt 8 = .ok (.iadd, 1) := by decide +kernel
theorem dX7_isWrongAt_9 : decode cX7_isWrongAt 9 = .ok (.iastore, 1) := by decide +kernel
theorem dX7_isWrongAt_10 : decode cX7_isWrongAt 10 = .ok (.aload_n 0, 1) := by decide +kernel
theorem dX7_isWrongAt_11 : decode cX7_isWrongAt 11 = .ok (.getfield 7, 3) := by decide +kernel
theorem dX7_isWrongAt_14 : decode cX7_isWrongAt 14 = .ok (.bipush 64, 2) := by decide +kernel
theorem dX7_isWrongAt_16 : decode cX7_isWrongAt 16 = .ok (.iload_n 1, 1) := by decide +kernel
theorem dX7_isWrongAt_17 : decode cX7_isWrongAt 17 = .ok (.iadd, 1) := by decide +kernel
theorem dX7_isWrongAt_18 : decode cX7_isWrongAt 18 = .ok (.dup2, 1) := by decide +kernel
theorem dX7_isWrongAt_19 : decode cX7_isWrongAt 19 = .ok (.iaload, 1) := by decide +kernel
theorem dX7_isWrongAt_20 : decode cX7_isWrongAt 20 = .ok (.iconst 1, 1) := by decide +kernel
theorem dX7_isWrongAt_21 : decode cX7_isWrongAt 21 = .ok (.iadd, 1) := by decide +kernel
theorem dX7_isWrongAt_22 : decode cX7_isWrongAt 22 = .ok (.iastore, 1) := by decide +kernel
theorem dX7_isWrongAt_23 : decode cX7_isWrongAt 23 = .ok (.aload_n 0, 1) := by decide +kernel
theorem dX7_isWrongAt_24 : decode cX7_isWrongAt 24 = .ok (.getfield 7, 3) := by decide +kernel
theorem dX7_isWrongAt_27 : decode cX7_isWrongAt 27 = .ok (.bipush 64, 2) := by decide +kernel
theorem dX7_isWrongAt_29 : decode cX7_isWrongAt 29 = .ok (.iload_n 1, 1) := by decide +kernel
theorem dX7_isWrongAt_30 : decode cX7_isWrongAt 30 = .ok (.iadd, 1) := by decide +kernel
theorem dX7_isWrongAt_31 : decode cX7_isWrongAt 31 = .ok (.iaload, 1) := by decide +kernel
theorem dX7_isWrongAt_32 : decode cX7_isWrongAt 32 = .ok (.iconst 3, 1) := by decide +kernel
theorem dX7_isWrongAt_33 : decode cX7_isWrongAt 33 = .ok (.if_icmp .ne 24, 3) := by decide +kernel
theorem dX7_isWrongAt_36 : decode cX7_isWrongAt 36 = .ok (.aload_n 0, 1) := by decide +kernel
theorem dX7_isWrongAt_37 : decode cX7_isWrongAt 37 = .ok (.getfield 7, 3) := by decide +kernel
theorem dX7_isWrongAt_40 : decode cX7_isWrongAt 40 = .ok (.bipush 72, 2) := by decide +kernel
theorem dX7_isWrongAt_42 : decode cX7_isWrongAt 42 = .ok (.iload_n 1, 1) := by decide +kernel
theorem dX7_isWrongAt_43 : decode cX7_isWrongAt 43 = .ok (.iadd, 1) := by decide +kernel
theorem dX7_isWrongAt_44 : decode cX7_isWrongAt 44 = .ok (.iconst 1, 1) := by decide +kernel
theorem dX7_isWrongAt_45 : decode cX7_isWrongAt 45 = .ok (.iastore, 1) := by decide +kernel
theorem dX7_isWrongAt_46 : decode cX7_isWrongAt 46 = .ok (.aload_n 0, 1) := by decide +kernel
theorem dX7_isWrongAt_47 : decode cX7_isWrongAt 47 = .ok (.getfield 7, 3) := by decide +kernel
theorem dX7_isWrongAt_50 : decode cX7_isWrongAt 50 = .ok (.bipush 6, 2) := by decide +kernel
theorem dX7_isWrongAt_52 : decode cX7_isWrongAt 52 = .ok (.dup2, 1) := by decide +kernel
theorem dX7_isWrongAt_53 : decode cX7_isWrongAt 53 = .ok (.iaload, 1) := by decide +kernel
theorem dX7_isWrongAt_54 : decode cX7_isWrongAt 54 = .ok (.iconst 1, 1) := by decide +kernel
theorem dX7_isWrongAt_55 : decode cX7_isWrongAt 55 = .ok (.iadd, 1) := by decide +kernel
theorem dX7_isWrongAt_56 : decode cX7_isWrongAt 56 = .ok (.iastore, 1) := by decide +kernel
theorem dX7_isWrongAt_57 : decode cX7_isWrongAt 57 = .ok (.return_, 1) := by decide +kernel
set_option maxRecDepth 20000 in
theorem ggX7_knocks_X7_isDoor : GoodIn wsX7_knocks wsX7_isDoor := goodIn_ca (goodIn_r _ [6, 1, 7, 8, 5, 9, 47, 48, 49, 50, 51, 52, 53, 54, 55, 56, 57, 58, 59, 60, 61, 62, 63, 64] (by decide +kernel) (by decide +kernel)) (goodIn_sub (fun _ h => List.mem_cons_of_mem _ (List.mem_append_right _ h)) (by decide +kernel))
set_option maxRecDepth 20000 in
theorem gX7_knocks_X7_isDoor : GoodIn wsX7_knocks (wsV RX7 112 RX7 yX7_isDoor wsX7_isDoor) := goodIn_app (goodIn_of _ (by decide +kernel)) ggX7_knocks_X7_isDoor
set_option maxRecDepth 20000 in
theorem ggX7_knocks_X7_fails : GoodIn wsX7_knocks wsX7_fails := goodIn_r _ [13, 14, 47, 48, 49, 50, 51, 52, 53, 54, 55, 56, 57, 58, 59, 60, 61, 62, 63, 64] (by decide +kernel) (by decide +kernel)
set_option maxRecDepth 20000 in
theorem gX7_knocks_X7_fails : GoodIn wsX7_knocks (wsV RX7 51 RX7 yX7_fails wsX7_fails) := goodIn_app (goodIn_of _ (by decide +kernel)) ggX7_knocks_X7_fails
set_option maxRecDepth 20000 in
theorem ggX7_knocks_X7_isThird : GoodIn wsX7_knocks wsX7_isThird := goodIn_r _ [17, 7, 8, 5, 9] (by decide +kernel) (by decide +kernel)
set_option maxRecDepth 20000 in
theorem gX7_knocks_X7_isThird : GoodIn wsX7_knocks (va_wsS RX7 79 yX7_isThird wsX7_isThird) := goodIn_app (goodIn_of _ (by decide +kernel)) ggX7_knocks_X7_isThird
set_option maxRecDepth 20000 in
theorem ggX7_knocks_X7_isCase : GoodIn wsX7_knocks wsX7_isCase := goodIn_r _ [20, 7, 8, 5, 9] (by decide +kernel) (by decide +kernel)
set_option maxRecDepth 20000 in
theorem gX7_knocks_X7_isCase : GoodIn wsX7_knocks (va_wsS RX7 99 yX7_isCase wsX7_isCase) := goodIn_app (goodIn_of _ (by decide +kernel)) ggX7_knocks_X7_isCase
set_option maxRecDepth 20000 in
theorem ggX7_knocks_X7_many : GoodIn wsX7_knocks wsX7_many := goodIn_ca (goodIn_r _ [24, 1, 47, 48, 49, 50, 51, 52, 53, 54, 55, 56, 57, 58, 59, 60, 61, 62, 63, 64] (by decide +kernel) (by decide +kernel)) (goodIn_sub (fun _ h => List.mem_cons_of_mem _ (List.mem_append_right _ h)) (by decide +kernel))
set_option maxRecDepth 20000 in
theorem gX7_knocks_X7_many : GoodIn wsX7_knocks (wsV RX7 144 RX7 yX7_many wsX7_many) := goodIn_app (goodIn_of _ (by decide +kernel)) ggX7_knocks_X7_many
set_option maxRecDepth 20000 in
theorem ggX7_knocks_X7_refused : GoodIn wsX7_knocks wsX7_refused := goodIn_r _ [28, 29, 30, 10, 11, 12, 5, 13, 14, 47, 48, 49, 50, 51, 52, 53, 54, 55, 56, 57, 58, 59, 60, 61, 62, 63, 64] (by decide +kernel) (by decide +kernel)
set_option maxRecDepth 20000 in
theorem gX7_knocks_X7_refused : GoodIn wsX7_knocks (wsV RX7 86 RX7 yX7_refused wsX7_refused) := goodIn_app (goodIn_of _ (by decide +kernel)) ggX7_knocks_X7_refused
set_option maxRecDepth 20000 in
theorem ggX7_knocks_X7_agreement : GoodIn wsX7_knocks wsX7_agreement := goodIn_ca (goodIn_r _ [34, 1, 35, 36, 37, 5, 38, 47, 48, 49, 50, 51, 52, 53, 54, 55, 56, 57, 58, 59, 60, 61, 62, 63, 64] (by decide +kernel) (by decide +kernel)) (goodIn_sub (fun _ h => List.mem_cons_of_mem _ (List.mem_append_right _ h)) (by decide +kernel))
set_option maxRecDepth 20000 in
theorem gX7_knocks_X7_agreement : GoodIn wsX7_knocks (wsV RX7 147 RX7 yX7_agreement wsX7_agreement) := goodIn_app (goodIn_of _ (by decide +kernel)) ggX7_knocks_X7_agreement
set_option maxRecDepth 20000 in
theorem ggX7_knocks_X7_isWrongAt : GoodIn wsX7_knocks wsX7_isWrongAt := goodIn_ca (goodIn_r _ [42, 1, 47, 48, 49, 50, 51, 52, 53, 54, 55, 56, 57, 58, 59, 60, 61, 62, 63, 64] (by decide +kernel) (by decide +kernel)) (goodIn_sub (fun _ h => List.mem_cons_of_mem _ (List.mem_append_right _ h)) (by decide +kernel))
set_option maxRecDepth 20000 in
theorem gX7_knocks_X7_isWrongAt : GoodIn wsX7_knocks (wsV RX7 150 RX7 yX7_isWrongAt wsX7_isWrongAt) := goodIn_app (goodIn_of _ (by decide +kernel)) ggX7_knocks_X7_isWrongAt
set_option maxRecDepth 20000 in
theorem ggX7_knocks_X7_done : GoodIn wsX7_knocks wsX7_done := goodIn_r _ [46, 14, 47, 48, 49, 50, 51, 52, 53, 54, 55, 56, 57, 58, 59, 60, 61, 62, 63, 64] (by decide +kernel) (by decide +kernel)
set_option maxRecDepth 20000 in
theorem gX7_knocks_X7_done : GoodIn wsX7_knocks (wsV RX7 69 RX7 yX7_done wsX7_done) := goodIn_app (goodIn_of _ (by decide +kernel)) ggX7_knocks_X7_done
theorem dX7_knocks_0 : decode cX7_knocks 0 = .ok (.aload_n 0, 1) := by decide +kernel
theorem dX7_knocks_1 : decode cX7_knocks 1 = .ok (.iload_n 1, 1) := by decide +kernel
theorem dX7_knocks_2 : decode cX7_knocks 2 = .ok (.invokevirtual 112, 3) := by decide +kernel
theorem dX7_knocks_5 : decode cX7_knocks 5 = .ok (.ifCond .ne 9, 3) := by decide +kernel
theorem dX7_knocks_8 : decode cX7_knocks 8 = .ok (.aload_n 0, 1) := by decide +kernel
theorem dX7_knocks_9 : decode cX7_knocks 9 = .ok (.iconst 1, 1) := by decide +kernel
theorem dX7_knocks_10 : decode cX7_knocks 10 = .ok (.invokevirtual 51, 3) := by decide +kernel
theorem dX7_knocks_13 : decode cX7_knocks 13 = .ok (.ireturn, 1) := by decide +kernel
theorem dX7_knocks_14 : decode cX7_knocks 14 = .ok (.iload_n 2, 1) := by decide +kernel
theorem dX7_knocks_15 : decode cX7_knocks 15 = .ok (.invokestatic 79, 3) := by decide +kernel
theorem dX7_knocks_18 : decode cX7_knocks 18 = .ok (.ifCond .eq 11, 3) := by decide +kernel
theorem dX7_knocks_21 : decode cX7_knocks 21 = .ok (.iload 4, 2) := by decide +kernel
theorem dX7_knocks_23 : decode cX7_knocks 23 = .ok (.invokestatic 99, 3) := by decide +kernel
theorem dX7_knocks_26 : decode cX7_knocks 26 = .ok (.ifCond .ne 9, 3) := by decide +kernel
theorem dX7_knocks_29 : decode cX7_knocks 29 = .ok (.aload_n 0, 1) := by decide +kernel
theorem dX7_knocks_30 : decode cX7_knocks 30 = .ok (.iconst 2, 1) := by decide +kernel
theorem dX7_knocks_31 : decode cX7_knocks 31 = .ok (.invokevirtual 51, 3) := by decide +kernel
theorem dX7_knocks_34 : decode cX7_knocks 34 = .ok (.ireturn, 1) := by decide +kernel
theorem dX7_knocks_35 : decode cX7_knocks 35 = .ok (.aload_n 0, 1) := by decide +kernel
theorem dX7_knocks_36 : decode cX7_knocks 36 = .ok (.getfield 7, 3) := by decide +kernel
theorem dX7_knocks_39 : decode cX7_knocks 39 = .ok (.bipush 80, 2) := by decide +kernel
theorem dX7_knocks_41 : decode cX7_knocks 41 = .ok (.iload_n 1, 1) := by decide +kernel
theorem dX7_knocks_42 : decode cX7_knocks 42 = .ok (.iadd, 1) := by decide +kernel
theorem dX7_knocks_43 : decode cX7_knocks 43 = .ok (.iaload, 1) := by decide +kernel
theorem dX7_knocks_44 : decode cX7_knocks 44 = .ok (.iconst 1, 1) := by decide +kernel
theorem dX7_knocks_45 : decode cX7_knocks 45 = .ok (.if_icmp .ne 16, 3) := by decide +kernel
theorem dX7_knocks_48 : decode cX7_knocks 48 = .ok (.aload_n 0, 1) := by decide +kernel
theorem dX7_knocks_49 : decode cX7_knocks 49 = .ok (.iconst 4, 1) := by decide +kernel
theorem dX7_knocks_50 : decode cX7_knocks 50 = .ok (.aload_n 0, 1) := by decide +kernel
theorem dX7_knocks_51 : decode cX7_knocks 51 = .ok (.bipush 80, 2) := by decide +kernel
theorem dX7_knocks_53 : decode cX7_knocks 53 = .ok (.invokevirtual 144, 3) := by decide +kernel
theorem dX7_knocks_56 : decode cX7_knocks 56 = .ok (.iconst 3, 1) := by decide +kernel
theorem dX7_knocks_57 : decode cX7_knocks 57 = .ok (.invokevirtual 86, 3) := by decide +kernel
theorem dX7_knocks_60 : decode cX7_knocks 60 = .ok (.ireturn, 1) := by decide +kernel
theorem dX7_knocks_61 : decode cX7_knocks 61 = .ok (.aload_n 0, 1) := by decide +kernel
theorem dX7_knocks_62 : decode cX7_knocks 62 = .ok (.getfield 7, 3) := by decide +kernel
theorem dX7_knocks_65 : decode cX7_knocks 65 = .ok (.bipush 72, 2) := by decide +kernel
theorem dX7_knocks_67 : decode cX7_knocks 67 = .ok (.iload_n 1, 1) := by decide +kernel
theorem dX7_knocks_68 : decode cX7_knocks 68 = .ok (.iadd, 1) := by decide +kernel
theorem dX7_knocks_69 : decode cX7_knocks 69 = .ok (.iaload, 1) := by decide +kernel
theorem dX7_knocks_70 : decode cX7_knocks 70 = .ok (.iconst 1, 1) := by decide +kernel
theorem dX7_knocks_71 : decode cX7_knocks 71 = .ok (.if_icmp .ne 16, 3) := by decide +kernel
theorem dX7_knocks_74 : decode cX7_knocks 74 = .ok (.aload_n 0, 1) := by decide +kernel
theorem dX7_knocks_75 : decode cX7_knocks 75 = .ok (.iconst 3, 1) := by decide +kernel
theorem dX7_knocks_76 : decode cX7_knocks 76 = .ok (.aload_n 0, 1) := by decide +kernel
theorem dX7_knocks_77 : decode cX7_knocks 77 = .ok (.bipush 72, 2) := by decide +kernel
theorem dX7_knocks_79 : decode cX7_knocks 79 = .ok (.invokevirtual 144, 3) := by decide +kernel
theorem dX7_knocks_82 : decode cX7_knocks 82 = .ok (.iconst 3, 1) := by decide +kernel
theorem dX7_knocks_83 : decode cX7_knocks 83 = .ok (.invokevirtual 86, 3) := by decide +kernel
theorem dX7_knocks_86 : decode cX7_knocks 86 = .ok (.ireturn, 1) := by decide +kernel
theorem dX7_knocks_87 : decode cX7_knocks 87 = .ok (.aload_n 0, 1) := by decide +kernel
theorem dX7_knocks_88 : decode cX7_knocks 88 = .ok (.iload_n 1, 1) := by decide +kernel
theorem dX7_knocks_89 : decode cX7_knocks 89 = .ok (.iload_n 2, 1) := by decide +kernel
theorem dX7_knocks_90 : decode cX7_knocks 90 = .ok (.iload_n 3, 1) := by decide +kernel
theorem dX7_knocks_91 : decode cX7_knocks 91 = .ok (.iload 4, 2) := by decide +kernel
theorem dX7_knocks_93 : decode cX7_knocks 93 = .ok (.invokevirtual 147, 3) := by decide +kernel
theorem dX7_knocks_96 : decode cX7_knocks 96 = .ok (.istore 5, 2) := by decide +kernel
theorem dX7_knocks_98 : decode cX7_knocks 98 = .ok (.aload_n 0, 1) := by decide +kernel
theorem dX7_knocks_99 : decode cX7_knocks 99 = .ok (.getfield 7, 3) := by decide +kernel
theorem dX7_knocks_102 : decode cX7_knocks 102 = .ok (.iconst 3, 1) := by decide +kernel
theorem dX7_knocks_103 : decode cX7_knocks 103 = .ok (.dup2, 1) := by decide +kernel
theorem dX7_knocks_104 : decode cX7_knocks 104 = .ok (.iaload, 1) := by decide +kernel
theorem dX7_knocks_105 : decode cX7_knocks 105 = .ok (.iconst 1, 1) := by decide +kernel
theorem dX7_knocks_106 : decode cX7_knocks 106 = .ok (.iadd, 1) := by decide +kernel
theorem dX7_knocks_107 : decode cX7_knocks 107 = .ok (.iastore, 1) := by decide +kernel
theorem dX7_knocks_108 : decode cX7_knocks 108 = .ok (.aload_n 0, 1) := by decide +kernel
theorem dX7_knocks_109 : decode cX7_knocks 109 = .ok (.getfield 7, 3) := by decide +kernel
theorem dX7_knocks_112 : decode cX7_knocks 112 = .ok (.bipush 104, 2) := by decide +kernel
theorem dX7_knocks_114 : decode cX7_knocks 114 = .ok (.iload_n 1, 1) := by decide +kernel
theorem dX7_knocks_115 : decode cX7_knocks 115 = .ok (.iadd, 1) := by decide +kernel
theorem dX7_knocks_116 : decode cX7_knocks 116 = .ok (.dup2, 1) := by decide +kernel
theorem dX7_knocks_117 : decode cX7_knocks 117 = .ok (.iaload, 1) := by decide +kernel
theorem dX7_knocks_118 : decode cX7_knocks 118 = .ok (.iconst 1, 1) := by decide +kernel
theorem dX7_knocks_119 : decode cX7_knocks 119 = .ok (.iadd, 1) := by decide +kernel
theorem dX7_knocks_120 : decode cX7_knocks 120 = .ok (.iastore, 1) := by decide +kernel
theorem dX7_knocks_121 : decode cX7_knocks 121 = .ok (.iload 5, 2) := by decide +kernel
theorem dX7_knocks_123 : decode cX7_knocks 123 = .ok (.iconst 3, 1) := by decide +kernel
theorem dX7_knocks_124 : decode cX7_knocks 124 = .ok (.if_icmp .ne 36, 3) := by decide +kernel
theorem dX7_knocks_127 : decode cX7_knocks 127 = .ok (.aload_n 0, 1) := by decide +kernel
theorem dX7_knocks_128 : decode cX7_knocks 128 = .ok (.getfield 7, 3) := by decide +kernel
theorem dX7_knocks_131 : decode cX7_knocks 131 = .ok (.iconst 4, 1) := by decide +kernel
theorem dX7_knocks_132 : decode cX7_knocks 132 = .ok (.dup2, 1) := by decide +kernel
theorem dX7_knocks_133 : decode cX7_knocks 133 = .ok (.iaload, 1) := by decide +kernel
theorem dX7_knocks_134 : decode cX7_knocks 134 = .ok (.iconst 1, 1) := by decide +kernel
theorem dX7_knocks_135 : decode cX7_knocks 135 = .ok (.iadd, 1) := by decide +kernel
theorem dX7_knocks_136 : decode cX7_knocks 136 = .ok (.iastore, 1) := by decide +kernel
theorem dX7_knocks_137 : decode cX7_knocks 137 = .ok (.aload_n 0, 1) := by decide +kernel
theorem dX7_knocks_138 : decode cX7_knocks 138 = .ok (.getfield 7, 3) := by decide +kernel
theorem dX7_knocks_141 : decode cX7_knocks 141 = .ok (.bipush 80, 2) := by decide +kernel
theorem dX7_knocks_143 : decode cX7_knocks 143 = .ok (.iload_n 1, 1) := by decide +kernel
theorem dX7_knocks_144 : decode cX7_knocks 144 = .ok (.iadd, 1) := by decide +kernel
theorem dX7_knocks_145 : decode cX7_knocks 145 = .ok (.iconst 1, 1) := by decide +kernel
theorem dX7_knocks_146 : decode cX7_knocks 146 = .ok (.iastore, 1) := by decide +kernel
theorem dX7_knocks_147 : decode cX7_knocks 147 = .ok (.aload_n 0, 1) := by decide +kernel
theorem dX7_knocks_148 : decode cX7_knocks 148 = .ok (.getfield 7, 3) := by decide +kernel
theorem dX7_knocks_151 : decode cX7_knocks 151 = .ok (.bipush 64, 2) := by decide +kernel
theorem dX7_knocks_153 : decode cX7_knocks 153 = .ok (.iload_n 1, 1) := by decide +kernel
theorem dX7_knocks_154 : decode cX7_knocks 154 = .ok (.iadd, 1) := by decide +kernel
theorem dX7_knocks_155 : decode cX7_knocks 155 = .ok (.iconst 0, 1) := by decide +kernel
theorem dX7_knocks_156 : decode cX7_knocks 156 = .ok (.iastore, 1) := by decide +kernel
theorem dX7_knocks_157 : decode cX7_knocks 157 = .ok (.goto 8, 3) := by decide +kernel
theorem dX7_knocks_160 : decode cX7_knocks 160 = .ok (.aload_n 0, 1) := by decide +kernel
theorem dX7_knocks_161 : decode cX7_knocks 161 = .ok (.iload_n 1, 1) := by decide +kernel
theorem dX7_knocks_162 : decode cX7_knocks 162 = .ok (.invokevirtual 150, 3) := by decide +kernel
theorem dX7_knocks_165 : decode cX7_knocks 165 = .ok (.aload_n 0, 1) := by decide +kernel
theorem dX7_knocks_166 : decode cX7_knocks 166 = .ok (.iload 5, 2) := by decide +kernel
theorem dX7_knocks_168 : decode cX7_knocks 168 = .ok (.invokevirtual 69, 3) := by decide +kernel
theorem dX7_knocks_171 : decode cX7_knocks 171 = .ok (.ireturn, 1) := by decide +kernel
set_option maxRecDepth 20000 in
theorem ggX7_knock_X7_looksBack : GoodIn wsX7_knock wsX7_looksBack := goodIn_ca (goodIn_r _ [5, 6, 7, 8, 9, 4, 10, 65, 66, 67, 68, 69, 70, 71, 72, 73, 74, 75, 76, 77, 78, 79, 80, 81, 82] (by decide +kernel) (by decide +kernel)) (goodIn_sub (fun _ h => List.mem_cons_of_mem _ (List.mem_append_right _ h)) (by decide +kernel))
set_option maxRecDepth 20000 in
theorem gX7_knock_X7_looksBack : GoodIn wsX7_knock (wsV RX7 89 RX7 yX7_looksBack wsX7_looksBack) := goodIn_app (goodIn_of _ (by decide +kernel)) ggX7_knock_X7_looksBack
set_option maxRecDepth 20000 in
theorem ggX7_knock_X7_knocks : GoodIn wsX7_knock wsX7_knocks := goodIn_ca (goodIn_r _ [14, 6, 15, 16, 17, 4, 18, 19, 20, 21, 22, 23, 24, 25, 26, 27, 28, 29, 30, 31, 32, 33, 34, 35, 36, 37, 38, 39, 40, 41, 42, 43, 44, 45, 46, 47, 48, 49, 50, 51, 52, 53, 54, 55, 56, 57, 58, 65, 66, 67, 68, 69, 70, 71, 72, 73, 74, 75, 76, 77, 78, 79, 80, 81, 82] (by decide +kernel) (by decide +kernel)) (goodIn_sub (fun _ h => List.mem_cons_of_mem _ (List.mem_append_right _ h)) (by decide +kernel))
set_option maxRecDepth 20000 in
theorem gX7_knock_X7_knocks : GoodIn wsX7_knock (wsV RX7 154 RX7 yX7_knocks wsX7_knocks) := goodIn_app (goodIn_of _ (by decide +kernel)) ggX7_knock_X7_knocks
set_option maxRecDepth 20000 in
theorem ggX7_knock_X7_kept : GoodIn wsX7_knock wsX7_kept := goodIn_ca (goodIn_r _ [62, 26, 7, 6, 63, 64, 8, 9, 4, 10, 65, 66, 67, 68, 69, 70, 71, 72, 73, 74, 75, 76, 77, 78, 79, 80, 81, 82] (by decide +kernel) (by decide +kernel)) (goodIn_sub (fun _ h => List.mem_cons_of_mem _ (List.mem_append_right _ h)) (by decide +kernel))
set_option maxRecDepth 20000 in
theorem gX7_knock_X7_kept : GoodIn wsX7_knock (wsV RX7 96 RX7 yX7_kept wsX7_kept) := goodIn_app (goodIn_of _ (by decide +kernel)) ggX7_knock_X7_kept
theorem dX7_knock_0 : decode cX7_knock 0 = .ok (.aload_n 0, 1) := by decide +kernel
theorem dX7_knock_1 : decode cX7_knock 1 = .ok (.invokevirtual 89, 3) := by decide +kernel
theorem dX7_knock_4 : decode cX7_knock 4 = .ok (.aload_n 0, 1) := by decide +kernel
theorem dX7_knock_5 : decode cX7_knock 5 = .ok (.aload_n 0, 1) := by decide +kernel
theorem dX7_knock_6 : decode cX7_knock 6 = .ok (.iload_n 1, 1) := by decide +kernel
theorem dX7_knock_7 : decode cX7_knock 7 = .ok (.iload_n 2, 1) := by decide +kernel
theorem dX7_knock_8 : decode cX7_knock 8 = .ok (.iload_n 3, 1) := by decide +kernel
theorem dX7_knock_9 : decode cX7_knock 9 = .ok (.ifCond .eq 7, 3) := by decide +kernel
theorem dX7_knock_12 : decode cX7_knock 12 = .ok (.iconst 1, 1) := by decide +kernel
theorem dX7_knock_13 : decode cX7_knock 13 = .ok (.goto 4, 3) := by decide +kernel
theorem dX7_knock_16 : decode cX7_knock 16 = .ok (.iconst 0, 1) := by decide +kernel
theorem dX7_knock_17 : decode cX7_knock 17 = .ok (.iload 4, 2) := by decide +kernel
theorem dX7_knock_19 : decode cX7_knock 19 = .ok (.invokevirtual 154, 3) := by decide +kernel
theorem dX7_knock_22 : decode cX7_knock 22 = .ok (.invokevirtual 96, 3) := by decide +kernel
theorem dX7_knock_25 : decode cX7_knock 25 = .ok (.ireturn, 1) := by decide +kernel
set_option maxRecDepth 20000 in
theorem ggX7_shuts_X7_isDoor : GoodIn wsX7_shuts wsX7_isDoor := goodIn_ca (goodIn_r _ [6, 1, 7, 8, 5, 9, 29, 30, 31, 32, 33, 34, 35, 36, 37, 38, 39, 40, 41, 42, 43, 44, 45, 46] (by decide +kernel) (by decide +kernel)) (goodIn_sub (fun _ h => List.mem_cons_of_mem _ (List.mem_append_right _ h)) (by decide +kernel))
set_option maxRecDepth 20000 in
theorem gX7_shuts_X7_isDoor : GoodIn wsX7_shuts (wsV RX7 112 RX7 yX7_isDoor wsX7_isDoor) := goodIn_app (goodIn_of _ (by decide +kernel)) ggX7_shuts_X7_isDoor
set_option maxRecDepth 20000 in
theorem ggX7_shuts_X7_fails : GoodIn wsX7_shuts wsX7_fails := goodIn_r _ [13, 14, 29, 30, 31, 32, 33, 34, 35, 36, 37, 38, 39, 40, 41, 42, 43, 44, 45, 46] (by decide +kernel) (by decide +kernel)
set_option maxRecDepth 20000 in
theorem gX7_shuts_X7_fails : GoodIn wsX7_shuts (wsV RX7 51 RX7 yX7_fails wsX7_fails) := goodIn_app (goodIn_of _ (by decide +kernel)) ggX7_shuts_X7_fails
set_option maxRecDepth 20000 in
theorem ggX7_shuts_X7_many : GoodIn wsX7_shuts wsX7_many := goodIn_ca (goodIn_r _ [18, 1, 29, 30, 31, 32, 33, 34, 35, 36, 37, 38, 39, 40, 41, 42, 43, 44, 45, 46] (by decide +kernel) (by decide +kernel)) (goodIn_sub (fun _ h => List.mem_cons_of_mem _ (List.mem_append_right _ h)) (by decide +kernel))
set_option maxRecDepth 20000 in
theorem gX7_shuts_X7_many : GoodIn wsX7_shuts (wsV RX7 144 RX7 yX7_many wsX7_many) := goodIn_app (goodIn_of _ (by decide +kernel)) ggX7_shuts_X7_many
set_option maxRecDepth 20000 in
theorem ggX7_shuts_X7_refused : GoodIn wsX7_shuts wsX7_refused := goodIn_r _ [22, 23, 24, 10, 11, 12, 5, 13, 14, 29, 30, 31, 32, 33, 34, 35, 36, 37, 38, 39, 40, 41, 42, 43, 44, 45, 46] (by decide +kernel) (by decide +kernel)
set_option maxRecDepth 20000 in
theorem gX7_shuts_X7_refused : GoodIn wsX7_shuts (wsV RX7 86 RX7 yX7_refused wsX7_refused) := goodIn_app (goodIn_of _ (by decide +kernel)) ggX7_shuts_X7_refused
set_option maxRecDepth 20000 in
theorem ggX7_shuts_X7_done : GoodIn wsX7_shuts wsX7_done := goodIn_r _ [28, 14, 29, 30, 31, 32, 33, 34, 35, 36, 37, 38, 39, 40, 41, 42, 43, 44, 45, 46] (by decide +kernel) (by decide +kernel)
set_option maxRecDepth 20000 in
theorem gX7_shuts_X7_done : GoodIn wsX7_shuts (wsV RX7 69 RX7 yX7_done wsX7_done) := goodIn_app (goodIn_of _ (by decide +kernel)) ggX7_shuts_X7_done
theorem dX7_shuts_0 : decode cX7_shuts 0 = .ok (.aload_n 0, 1) := by decide +kernel
theorem dX7_shuts_1 : decode cX7_shuts 1 = .ok (.iload_n 1, 1) := by decide +kernel
theorem dX7_shuts_2 : decode cX7_shuts 2 = .ok (.invokevirtual 112, 3) := by decide +kernel
theorem dX7_shuts_5 : decode cX7_shuts 5 = .ok (.ifCond .ne 9, 3) := by decide +kernel
theorem dX7_shuts_8 : decode cX7_shuts 8 = .ok (.aload_n 0, 1) := by decide +kernel
theorem dX7_shuts_9 : decode cX7_shuts 9 = .ok (.iconst 1, 1) := by decide +kernel
theorem dX7_shuts_10 : decode cX7_shuts 10 = .ok (.invokevirtual 51, 3) := by decide +kernel
theorem dX7_shuts_13 : decode cX7_shuts 13 = .ok (.ireturn, 1) := by decide +kernel
theorem dX7_shuts_14 : decode cX7_shuts 14 = .ok (.aload_n 0, 1) := by decide +kernel
theorem dX7_shuts_15 : decode cX7_shuts 15 = .ok (.getfield 7, 3) := by decide +kernel
theorem dX7_shuts_18 : decode cX7_shuts 18 = .ok (.bipush 80, 2) := by decide +kernel
theorem dX7_shuts_20 : decode cX7_shuts 20 = .ok (.iload_n 1, 1) := by decide +kernel
theorem dX7_shuts_21 : decode cX7_shuts 21 = .ok (.iadd, 1) := by decide +kernel
theorem dX7_shuts_22 : decode cX7_shuts 22 = .ok (.iaload, 1) := by decide +kernel
theorem dX7_shuts_23 : decode cX7_shuts 23 = .ok (.ifCond .ne 16, 3) := by decide +kernel
theorem dX7_shuts_26 : decode cX7_shuts 26 = .ok (.aload_n 0, 1) := by decide +kernel
theorem dX7_shuts_27 : decode cX7_shuts 27 = .ok (.iconst 5, 1) := by decide +kernel
theorem dX7_shuts_28 : decode cX7_shuts 28 = .ok (.aload_n 0, 1) := by decide +kernel
theorem dX7_shuts_29 : decode cX7_shuts 29 = .ok (.bipush 80, 2) := by decide +kernel
theorem dX7_shuts_31 : decode cX7_shuts 31 = .ok (.invokevirtual 144, 3) := by decide +kernel
theorem dX7_shuts_34 : decode cX7_shuts 34 = .ok (.iconst 2, 1) := by decide +kernel
theorem dX7_shuts_35 : decode cX7_shuts 35 = .ok (.invokevirtual 86, 3) := by decide +kernel
theorem dX7_shuts_38 : decode cX7_shuts 38 = .ok (.ireturn, 1) := by decide +kernel
theorem dX7_shuts_39 : decode cX7_shuts 39 = .ok (.aload_n 0, 1) := by decide +kernel
theorem dX7_shuts_40 : decode cX7_shuts 40 = .ok (.getfield 7, 3) := by decide +kernel
theorem dX7_shuts_43 : decode cX7_shuts 43 = .ok (.bipush 80, 2) := by decide +kernel
theorem dX7_shuts_45 : decode cX7_shuts 45 = .ok (.iload_n 1, 1) := by decide +kernel
theorem dX7_shuts_46 : decode cX7_shuts 46 = .ok (.iadd, 1) := by decide +kernel
theorem dX7_shuts_47 : decode cX7_shuts 47 = .ok (.iconst 0, 1) := by decide +kernel
theorem dX7_shuts_48 : decode cX7_shuts 48 = .ok (.iastore, 1) := by decide +kernel
theorem dX7_shuts_49 : decode cX7_shuts 49 = .ok (.aload_n 0, 1) := by decide +kernel
theorem dX7_shuts_50 : decode cX7_shuts 50 = .ok (.aload_n 0, 1) := by decide +kernel
theorem dX7_shuts_51 : decode cX7_shuts 51 = .ok (.bipush 80, 2) := by decide +kernel
theorem dX7_shuts_53 : decode cX7_shuts 53 = .ok (.invokevirtual 144, 3) := by decide +kernel
theorem dX7_shuts_56 : decode cX7_shuts 56 = .ok (.invokevirtual 69, 3) := by decide +kernel
theorem dX7_shuts_59 : decode cX7_shuts 59 = .ok (.ireturn, 1) := by decide +kernel
set_option maxRecDepth 20000 in
theorem ggX7_shut_X7_looksBack : GoodIn wsX7_shut wsX7_looksBack := goodIn_ca (goodIn_r _ [5, 6, 7, 8, 9, 4, 10, 47, 48, 49, 50, 51, 52, 53, 54, 55, 56, 57, 58, 59, 60, 61, 62, 63, 64] (by decide +kernel) (by decide +kernel)) (goodIn_sub (fun _ h => List.mem_cons_of_mem _ (List.mem_append_right _ h)) (by decide +kernel))
set_option maxRecDepth 20000 in
theorem gX7_shut_X7_looksBack : GoodIn wsX7_shut (wsV RX7 89 RX7 yX7_looksBack wsX7_looksBack) := goodIn_app (goodIn_of _ (by decide +kernel)) ggX7_shut_X7_looksBack
set_option maxRecDepth 20000 in
theorem ggX7_shut_X7_shuts : GoodIn wsX7_shut wsX7_shuts := goodIn_ca (goodIn_r _ [14, 6, 15, 16, 17, 4, 18, 19, 20, 21, 22, 23, 24, 25, 26, 27, 28, 29, 30, 31, 32, 33, 34, 35, 36, 37, 38, 39, 40, 47, 48, 49, 50, 51, 52, 53, 54, 55, 56, 57, 58, 59, 60, 61, 62, 63, 64] (by decide +kernel) (by decide +kernel)) (goodIn_sub (fun _ h => List.mem_cons_of_mem _ (List.mem_append_right _ h)) (by decide +kernel))
set_option maxRecDepth 20000 in
theorem gX7_shut_X7_shuts : GoodIn wsX7_shut (wsV RX7 157 RX7 yX7_shuts wsX7_shuts) := goodIn_app (goodIn_of _ (by decide +kernel)) ggX7_shut_X7_shuts
set_option maxRecDepth 20000 in
theorem ggX7_shut_X7_kept : GoodIn wsX7_shut wsX7_kept := goodIn_ca (goodIn_r _ [44, 26, 7, 6, 45, 46, 8, 9, 4, 10, 47, 48, 49, 50, 51, 52, 53, 54, 55, 56, 57, 58, 59, 60, 61, 62, 63, 64] (by decide +kernel) (by decide +kernel)) (goodIn_sub (fun _ h => List.mem_cons_of_mem _ (List.mem_append_right _ h)) (by decide +kernel))
set_option maxRecDepth 20000 in
theorem gX7_shut_X7_kept : GoodIn wsX7_shut (wsV RX7 96 RX7 yX7_kept wsX7_kept) := goodIn_app (goodIn_of _ (by decide +kernel)) ggX7_shut_X7_kept
theorem dX7_shut_0 : decode cX7_shut 0 = .ok (.aload_n 0, 1) := by decide +kernel
theorem dX7_shut_1 : decode cX7_shut 1 = .ok (.invokevirtual 89, 3) := by decide +kernel
theorem dX7_shut_4 : decode cX7_shut 4 = .ok (.aload_n 0, 1) := by decide +kernel
theorem dX7_shut_5 : decode cX7_shut 5 = .ok (.aload_n 0, 1) := by decide +kernel
theorem dX7_shut_6 : decode cX7_shut 6 = .ok (.iload_n 1, 1) := by decide +kernel
theorem dX7_shut_7 : decode cX7_shut 7 = .ok (.invokevirtual 157, 3) := by decide +kernel
theorem dX7_shut_10 : decode cX7_shut 10 = .ok (.invokevirtual 96, 3) := by decide +kernel
theorem dX7_shut_13 : decode cX7_shut 13 = .ok (.ireturn, 1) := by decide +kernel
set_option maxRecDepth 20000 in
theorem ggX7_frees_X7_isKey : GoodIn wsX7_frees wsX7_isKey := goodIn_ca (goodIn_r _ [6, 1, 7, 8, 5, 9, 37, 38, 39, 40, 41, 42, 43, 44, 45, 46, 47, 48, 49, 50, 51, 52, 53, 54] (by decide +kernel) (by decide +kernel)) (goodIn_sub (fun _ h => List.mem_cons_of_mem _ (List.mem_append_right _ h)) (by decide +kernel))
set_option maxRecDepth 20000 in
theorem gX7_frees_X7_isKey : GoodIn wsX7_frees (wsV RX7 160 RX7 yX7_isKey wsX7_isKey) := goodIn_app (goodIn_of _ (by decide +kernel)) ggX7_frees_X7_isKey
set_option maxRecDepth 20000 in
theorem ggX7_frees_X7_isDoor : GoodIn wsX7_frees wsX7_isDoor := goodIn_ca (goodIn_r _ [13, 1, 7, 8, 5, 9, 37, 38, 39, 40, 41, 42, 43, 44, 45, 46, 47, 48, 49, 50, 51, 52, 53, 54] (by decide +kernel) (by decide +kernel)) (goodIn_sub (fun _ h => List.mem_cons_of_mem _ (List.mem_append_right _ h)) (by decide +kernel))
set_option maxRecDepth 20000 in
theorem gX7_frees_X7_isDoor : GoodIn wsX7_frees (wsV RX7 112 RX7 yX7_isDoor wsX7_isDoor) := goodIn_app (goodIn_of _ (by decide +kernel)) ggX7_frees_X7_isDoor
set_option maxRecDepth 20000 in
theorem ggX7_frees_X7_fails : GoodIn wsX7_frees wsX7_fails := goodIn_r _ [17, 18, 37, 38, 39, 40, 41, 42, 43, 44, 45, 46, 47, 48, 49, 50, 51, 52, 53, 54] (by decide +kernel) (by decide +kernel)
set_option maxRecDepth 20000 in
theorem gX7_frees_X7_fails : GoodIn wsX7_frees (wsV RX7 51 RX7 yX7_fails wsX7_fails) := goodIn_app (goodIn_of _ (by decide +kernel)) ggX7_frees_X7_fails
set_option maxRecDepth 20000 in
theorem ggX7_frees_X7_refused : GoodIn wsX7_frees wsX7_refused := goodIn_r _ [22, 23, 24, 14, 15, 16, 5, 17, 18, 37, 38, 39, 40, 41, 42, 43, 44, 45, 46, 47, 48, 49, 50, 51, 52, 53, 54] (by decide +kernel) (by decide +kernel)
set_option maxRecDepth 20000 in
theorem gX7_frees_X7_refused : GoodIn wsX7_frees (wsV RX7 86 RX7 yX7_refused wsX7_refused) := goodIn_app (goodIn_of _ (by decide +kernel)) ggX7_frees_X7_refused
set_option maxRecDepth 20000 in
theorem ggX7_frees_X7_fits : GoodIn wsX7_frees wsX7_fits := goodIn_ca (goodIn_r _ [28, 1, 37, 38, 39, 40, 41, 42, 43, 44, 45, 46, 47, 48, 49, 50, 51, 52, 53, 54] (by decide +kernel) (by decide +kernel)) (goodIn_sub (fun _ h => List.mem_cons_of_mem _ (List.mem_append_right _ h)) (by decide +kernel))
set_option maxRecDepth 20000 in
theorem gX7_frees_X7_fits : GoodIn wsX7_frees (wsV RX7 122 RX7 yX7_fits wsX7_fits) := goodIn_app (goodIn_of _ (by decide +kernel)) ggX7_frees_X7_fits
set_option maxRecDepth 20000 in
theorem ggX7_frees_X7_many : GoodIn wsX7_frees wsX7_many := goodIn_ca (goodIn_r _ [32, 1, 37, 38, 39, 40, 41, 42, 43, 44, 45, 46, 47, 48, 49, 50, 51, 52, 53, 54] (by decide +kernel) (by decide +kernel)) (goodIn_sub (fun _ h => List.mem_cons_of_mem _ (List.mem_append_right _ h)) (by decide +kernel))
set_option maxRecDepth 20000 in
theorem gX7_frees_X7_many : GoodIn wsX7_frees (wsV RX7 144 RX7 yX7_many wsX7_many) := goodIn_app (goodIn_of _ (by decide +kernel)) ggX7_frees_X7_many
set_option maxRecDepth 20000 in
theorem ggX7_frees_X7_done : GoodIn wsX7_frees wsX7_done := goodIn_r _ [36, 18, 37, 38, 39, 40, 41, 42, 43, 44, 45, 46, 47, 48, 49, 50, 51, 52, 53, 54] (by decide +kernel) (by decide +kernel)
set_option maxRecDepth 20000 in
theorem gX7_frees_X7_done : GoodIn wsX7_frees (wsV RX7 69 RX7 yX7_done wsX7_done) := goodIn_app (goodIn_of _ (by decide +kernel)) ggX7_frees_X7_done
theorem dX7_frees_0 : decode cX7_frees 0 = .ok (.aload_n 0, 1) := by decide +kernel
theorem dX7_frees_1 : decode cX7_frees 1 = .ok (.iload_n 1, 1) := by decide +kernel
theorem dX7_frees_2 : decode cX7_frees 2 = .ok (.invokevirtual 160, 3) := by decide +kernel
theorem dX7_frees_5 : decode cX7_frees 5 = .ok (.ifCond .eq 11, 3) := by decide +kernel
theorem dX7_frees_8 : decode cX7_frees 8 = .ok (.aload_n 0, 1) := by decide +kernel
theorem dX7_frees_9 : decode cX7_frees 9 = .ok (.iload_n 2, 1) := by decide +kernel
theorem dX7_frees_10 : decode cX7_frees 10 = .ok (.invokevirtual 112, 3) := by decide +kernel
theorem dX7_frees_13 : decode cX7_frees 13 = .ok (.ifCond .ne 9, 3) := by decide +kernel
theorem dX7_frees_16 : decode cX7_frees 16 = .ok (.aload_n 0, 1) := by decide +kernel
theorem dX7_frees_17 : decode cX7_frees 17 = .ok (.iconst 1, 1) := by decide +kernel
theorem dX7_frees_18 : decode cX7_frees 18 = .ok (.invokevirtual 51, 3) := by decide +kernel
theorem dX7_frees_21 : decode cX7_frees 21 = .ok (.ireturn, 1) := by decide +kernel
theorem dX7_frees_22 : decode cX7_frees 22 = .ok (.aload_n 0, 1) := by decide +kernel
theorem dX7_frees_23 : decode cX7_frees 23 = .ok (.getfield 7, 3) := by decide +kernel
theorem dX7_frees_26 : decode cX7_frees 26 = .ok (.bipush 72, 2) := by decide +kernel
theorem dX7_frees_28 : decode cX7_frees 28 = .ok (.iload_n 2, 1) := by decide +kernel
theorem dX7_frees_29 : decode cX7_frees 29 = .ok (.iadd, 1) := by decide +kernel
theorem dX7_frees_30 : decode cX7_frees 30 = .ok (.iaload, 1) := by decide +kernel
theorem dX7_frees_31 : decode cX7_frees 31 = .ok (.ifCond .ne 20, 3) := by decide +kernel
theorem dX7_frees_34 : decode cX7_frees 34 = .ok (.aload_n 0, 1) := by decide +kernel
theorem dX7_frees_35 : decode cX7_frees 35 = .ok (.bipush 6, 2) := by decide +kernel
theorem dX7_frees_37 : decode cX7_frees 37 = .ok (.aload_n 0, 1) := by decide +kernel
theorem dX7_frees_38 : decode cX7_frees 38 = .ok (.getfield 7, 3) := by decide +kernel
theorem dX7_frees_41 : decode cX7_frees 41 = .ok (.bipush 64, 2) := by decide +kernel
theorem dX7_frees_43 : decode cX7_frees 43 = .ok (.iload_n 2, 1) := by decide +kernel
theorem dX7_frees_44 : decode cX7_frees 44 = .ok (.iadd, 1) := by decide +kernel
theorem dX7_frees_45 : decode cX7_frees 45 = .ok (.iaload, 1) := by decide +kernel
theorem dX7_frees_46 : decode cX7_frees 46 = .ok (.iconst 2, 1) := by decide +kernel
theorem dX7_frees_47 : decode cX7_frees 47 = .ok (.invokevirtual 86, 3) := by decide +kernel
theorem dX7_frees_50 : decode cX7_frees 50 = .ok (.ireturn, 1) := by decide +kernel
theorem dX7_frees_51 : decode cX7_frees 51 = .ok (.aload_n 0, 1) := by decide +kernel
theorem dX7_frees_52 : decode cX7_frees 52 = .ok (.iload_n 1, 1) := by decide +kernel
theorem dX7_frees_53 : decode cX7_frees 53 = .ok (.aload_n 0, 1) := by decide +kernel
theorem dX7_frees_54 : decode cX7_frees 54 = .ok (.getfield 7, 3) := by decide +kernel
theorem dX7_frees_57 : decode cX7_frees 57 = .ok (.bipush 32, 2) := by decide +kernel
theorem dX7_frees_59 : decode cX7_frees 59 = .ok (.iload_n 2, 1) := by decide +kernel
theorem dX7_frees_60 : decode cX7_frees 60 = .ok (.iadd, 1) := by decide +kernel
theorem dX7_frees_61 : decode cX7_frees 61 = .ok (.iaload, 1) := by decide +kernel
theorem dX7_frees_62 : decode cX7_frees 62 = .ok (.aload_n 0, 1) := by decide +kernel
theorem dX7_frees_63 : decode cX7_frees 63 = .ok (.getfield 7, 3) := by decide +kernel
theorem dX7_frees_66 : decode cX7_frees 66 = .ok (.bipush 40, 2) := by decide +kernel
theorem dX7_frees_68 : decode cX7_frees 68 = .ok (.iload_n 2, 1) := by decide +kernel
theorem dX7_frees_69 : decode cX7_frees 69 = .ok (.iadd, 1) := by decide +kernel
theorem dX7_frees_70 : decode cX7_frees 70 = .ok (.iaload, 1) := by decide +kernel
theorem dX7_frees_71 : decode cX7_frees 71 = .ok (.invokevirtual 122, 3) := by decide +kernel
theorem dX7_frees_74 : decode cX7_frees 74 = .ok (.istore_n 3, 1) := by decide +kernel
theorem dX7_frees_75 : decode cX7_frees 75 = .ok (.iload_n 3, 1) := by decide +kernel
theorem dX7_frees_76 : decode cX7_frees 76 = .ok (.iconst 2, 1) := by decide +kernel
theorem dX7_frees_77 : decode cX7_frees 77 = .ok (.if_icmp .ge 12, 3) := by decide +kernel
theorem dX7_frees_80 : decode cX7_frees 80 = .ok (.aload_n 0, 1) := by decide +kernel
theorem dX7_frees_81 : decode cX7_frees 81 = .ok (.bipush 7, 2) := by decide +kernel
theorem dX7_frees_83 : decode cX7_frees 83 = .ok (.iload_n 3, 1) := by decide +kernel
theorem dX7_frees_84 : decode cX7_frees 84 = .ok (.iconst 2, 1) := by decide +kernel
theorem dX7_frees_85 : decode cX7_frees 85 = .ok (.invokevirtual 86, 3) := by decide +kernel
theorem dX7_frees_88 : decode cX7_frees 88 = .ok (.ireturn, 1) := by decide +kernel
theorem dX7_frees_89 : decode cX7_frees 89 = .ok (.aload_n 0, 1) := by decide +kernel
theorem dX7_frees_90 : decode cX7_frees 90 = .ok (.getfield 7, 3) := by decide +kernel
theorem dX7_frees_93 : decode cX7_frees 93 = .ok (.bipush 72, 2) := by decide +kernel
theorem dX7_frees_95 : decode cX7_frees 95 = .ok (.iload_n 2, 1) := by decide +kernel
theorem dX7_frees_96 : decode cX7_frees 96 = .ok (.iadd, 1) := by decide +kernel
theorem dX7_frees_97 : decode cX7_frees 97 = .ok (.iconst 0, 1) := by decide +kernel
theorem dX7_frees_98 : decode cX7_frees 98 = .ok (.iastore, 1) := by decide +kernel
theorem dX7_frees_99 : decode cX7_frees 99 = .ok (.aload_n 0, 1) := by decide +kernel
theorem dX7_frees_100 : decode cX7_frees 100 = .ok (.getfield 7, 3) := by decide +kernel
theorem dX7_frees_103 : decode cX7_frees 103 = .ok (.bipush 64, 2) := by decide +kernel
theorem dX7_frees_105 : decode cX7_frees 105 = .ok (.iload_n 2, 1) := by decide +kernel
theorem dX7_frees_106 : decode cX7_frees 106 = .ok (.iadd, 1) := by decide +kernel
theorem dX7_frees_107 : decode cX7_frees 107 = .ok (.iconst 0, 1) := by decide +kernel
theorem dX7_frees_108 : decode cX7_frees 108 = .ok (.iastore, 1) := by decide +kernel
theorem dX7_frees_109 : decode cX7_frees 109 = .ok (.aload_n 0, 1) := by decide +kernel
theorem dX7_frees_110 : decode cX7_frees 110 = .ok (.getfield 7, 3) := by decide +kernel
theorem dX7_frees_113 : decode cX7_frees 113 = .ok (.bipush 7, 2) := by decide +kernel
theorem dX7_frees_115 : decode cX7_frees 115 = .ok (.dup2, 1) := by decide +kernel
theorem dX7_frees_116 : decode cX7_frees 116 = .ok (.iaload, 1) := by decide +kernel
theorem dX7_frees_117 : decode cX7_frees 117 = .ok (.iconst 1, 1) := by decide +kernel
theorem dX7_frees_118 : decode cX7_frees 118 = .ok (.iadd, 1) := by decide +kernel
theorem dX7_frees_119 : decode cX7_frees 119 = .ok (.iastore, 1) := by decide +kernel
theorem dX7_frees_120 : decode cX7_frees 120 = .ok (.aload_n 0, 1) := by decide +kernel
theorem dX7_frees_121 : decode cX7_frees 121 = .ok (.aload_n 0, 1) := by decide +kernel
theorem dX7_frees_122 : decode cX7_frees 122 = .ok (.bipush 72, 2) := by decide +kernel
theorem dX7_frees_124 : decode cX7_frees 124 = .ok (.invokevirtual 144, 3) := by decide +kernel
theorem dX7_frees_127 : decode cX7_frees 127 = .ok (.invokevirtual 69, 3) := by decide +kernel
theorem dX7_frees_130 : decode cX7_frees 130 = .ok (.ireturn, 1) := by decide +kernel
set_option maxRecDepth 20000 in
theorem ggX7_free_X7_looksBack : GoodIn wsX7_free wsX7_looksBack := goodIn_ca (goodIn_r _ [5, 6, 7, 8, 9, 4, 10, 55, 56, 57, 58, 59, 60, 61, 62, 63, 64, 65, 66, 67, 68, 69, 70, 71, 72] (by decide +kernel) (by decide +kernel)) (goodIn_sub (fun _ h => List.mem_cons_of_mem _ (List.mem_append_right _ h)) (by decide +kernel))
set_option maxRecDepth 20000 in
theorem gX7_free_X7_looksBack : GoodIn wsX7_free (wsV RX7 89 RX7 yX7_looksBack wsX7_looksBack) := goodIn_app (goodIn_of _ (by decide +kernel)) ggX7_free_X7_looksBack
set_option maxRecDepth 20000 in
theorem ggX7_free_X7_frees : GoodIn wsX7_free wsX7_frees := goodIn_ca (goodIn_r _ [14, 6, 15, 16, 17, 4, 18, 19, 20, 21, 22, 23, 24, 25, 26, 27, 28, 29, 30, 31, 32, 33, 34, 35, 36, 37, 38, 39, 40, 41, 42, 43, 44, 45, 46, 47, 48, 55, 56, 57, 58, 59, 60, 61, 62, 63, 64, 65, 66, 67, 68, 69, 70, 71, 72] (by decide +kernel) (by decide +kernel)) (goodIn_sub (fun _ h => List.mem_cons_of_mem _ (List.mem_append_right _ h)) (by decide +kernel))
set_option maxRecDepth 20000 in
theorem gX7_free_X7_frees : GoodIn wsX7_free (wsV RX7 163 RX7 yX7_frees wsX7_frees) := goodIn_app (goodIn_of _ (by decide +kernel)) ggX7_free_X7_frees
set_option maxRecDepth 20000 in
theorem ggX7_free_X7_kept : GoodIn wsX7_free wsX7_kept := goodIn_ca (goodIn_r _ [52, 30, 7, 6, 53, 54, 8, 9, 4, 10, 55, 56, 57, 58, 59, 60, 61, 62, 63, 64, 65, 66, 67, 68, 69, 70, 71, 72] (by decide +kernel) (by decide +kernel)) (goodIn_sub (fun _ h => List.mem_cons_of_mem _ (List.mem_append_right _ h)) (by decide +kernel))
set_option maxRecDepth 20000 in
theorem gX7_free_X7_kept : GoodIn wsX7_free (wsV RX7 96 RX7 yX7_kept wsX7_kept) := goodIn_app (goodIn_of _ (by decide +kernel)) ggX7_free_X7_kept
theorem dX7_free_0 : decode cX7_free 0 = .ok (.aload_n 0, 1) := by decide +kernel
theorem dX7_free_1 : decode cX7_free 1 = .ok (.invokevirtual 89, 3) := by decide +kernel
theorem dX7_free_4 : decode cX7_free 4 = .ok (.aload_n 0, 1) := by decide +kernel
theorem dX7_free_5 : decode cX7_free 5 = .ok (.aload_n 0, 1) := by decide +kernel
theorem dX7_free_6 : decode cX7_free 6 = .ok (.iload_n 1, 1) := by decide +kernel
theorem dX7_free_7 : decode cX7_free 7 = .ok (.iload_n 2, 1) := by decide +kernel
theorem dX7_free_8 : decode cX7_free 8 = .ok (.invokevirtual 163, 3) := by decide +kernel
theorem dX7_free_11 : decode cX7_free 11 = .ok (.invokevirtual 96, 3) := by decide +kernel
theorem dX7_free_14 : decode cX7_free 14 = .ok (.ireturn, 1) := by decide +kernel
set_option maxRecDepth 20000 in
theorem ggX7_agrees_X7_isDoor : GoodIn wsX7_agrees wsX7_isDoor := goodIn_ca (goodIn_r _ [5, 6, 7, 8, 4, 9, 33, 34, 35, 36, 37, 38, 39, 40, 41, 42, 43, 44, 45, 46, 47, 48, 49, 50] (by decide +kernel) (by decide +kernel)) (goodIn_sub (fun _ h => List.mem_cons_of_mem _ (List.mem_append_right _ h)) (by decide +kernel))
set_option maxRecDepth 20000 in
theorem gX7_agrees_X7_isDoor : GoodIn wsX7_agrees (wsV RX7 112 RX7 yX7_isDoor wsX7_isDoor) := goodIn_app (goodIn_of _ (by decide +kernel)) ggX7_agrees_X7_isDoor
set_option maxRecDepth 20000 in
theorem ggX7_agrees_X7_fails : GoodIn wsX7_agrees wsX7_fails := goodIn_r _ [13, 14, 33, 34, 35, 36, 37, 38, 39, 40, 41, 42, 43, 44, 45, 46, 47, 48, 49, 50] (by decide +kernel) (by decide +kernel)
set_option maxRecDepth 20000 in
theorem gX7_agrees_X7_fails : GoodIn wsX7_agrees (wsV RX7 51 RX7 yX7_fails wsX7_fails) := goodIn_app (goodIn_of _ (by decide +kernel)) ggX7_agrees_X7_fails
set_option maxRecDepth 20000 in
theorem ggX7_agrees_X7_isThird : GoodIn wsX7_agrees wsX7_isThird := goodIn_r _ [17, 7, 8, 4, 9] (by decide +kernel) (by decide +kernel)
set_option maxRecDepth 20000 in
theorem gX7_agrees_X7_isThird : GoodIn wsX7_agrees (va_wsS RX7 79 yX7_isThird wsX7_isThird) := goodIn_app (goodIn_of _ (by decide +kernel)) ggX7_agrees_X7_isThird
set_option maxRecDepth 20000 in
theorem ggX7_agrees_X7_isCase : GoodIn wsX7_agrees wsX7_isCase := goodIn_r _ [20, 7, 8, 4, 9] (by decide +kernel) (by decide +kernel)
set_option maxRecDepth 20000 in
theorem gX7_agrees_X7_isCase : GoodIn wsX7_agrees (va_wsS RX7 99 yX7_isCase wsX7_isCase) := goodIn_app (goodIn_of _ (by decide +kernel)) ggX7_agrees_X7_isCase
set_option maxRecDepth 20000 in
theorem ggX7_agrees_X7_agreement : GoodIn wsX7_agrees wsX7_agreement := goodIn_ca (goodIn_r _ [24, 6, 25, 26, 27, 4, 28, 33, 34, 35, 36, 37, 38, 39, 40, 41, 42, 43, 44, 45, 46, 47, 48, 49, 50] (by decide +kernel) (by decide +kernel)) (goodIn_sub (fun _ h => List.mem_cons_of_mem _ (List.mem_append_right _ h)) (by decide +kernel))
set_option maxRecDepth 20000 in
theorem gX7_agrees_X7_agreement : GoodIn wsX7_agrees (wsV RX7 147 RX7 yX7_agreement wsX7_agreement) := goodIn_app (goodIn_of _ (by decide +kernel)) ggX7_agrees_X7_agreement
set_option maxRecDepth 20000 in
theorem ggX7_agrees_X7_done : GoodIn wsX7_agrees wsX7_done := goodIn_r _ [32, 14, 33, 34, 35, 36, 37, 38, 39, 40, 41, 42, 43, 44, 45, 46, 47, 48, 49, 50] (by decide +kernel) (by decide +kernel)
set_option maxRecDepth 20000 in
theorem gX7_agrees_X7_done : GoodIn wsX7_agrees (wsV RX7 69 RX7 yX7_done wsX7_done) := goodIn_app (goodIn_of _ (by decide +kernel)) ggX7_agrees_X7_done
theorem dX7_agrees_0 : decode cX7_agrees 0 = .ok (.aload_n 0, 1) := by decide +kernel
theorem dX7_agrees_1 : decode cX7_agrees 1 = .ok (.iload_n 1, 1) := by decide +kernel
theorem dX7_agrees_2 : decode cX7_agrees 2 = .ok (.invokevirtual 112, 3) := by decide +kernel
theorem dX7_agrees_5 : decode cX7_agrees 5 = .ok (.ifCond .ne 9, 3) := by decide +kernel
theorem dX7_agrees_8 : decode cX7_agrees 8 = .ok (.aload_n 0, 1) := by decide +kernel
theorem dX7_agrees_9 : decode cX7_agrees 9 = .ok (.iconst 1, 1) := by decide +kernel
theorem dX7_agrees_10 : decode cX7_agrees 10 = .ok (.invokevirtual 51, 3) := by decide +kernel
theorem dX7_agrees_13 : decode cX7_agrees 13 = .ok (.ireturn, 1) := by decide +kernel
theorem dX7_agrees_14 : decode cX7_agrees 14 = .ok (.iload_n 2, 1) := by decide +kernel
theorem dX7_agrees_15 : decode cX7_agrees 15 = .ok (.invokestatic 79, 3) := by decide +kernel
theorem dX7_agrees_18 : decode cX7_agrees 18 = .ok (.ifCond .eq 35, 3) := by decide +kernel
theorem dX7_agrees_21 : decode cX7_agrees 21 = .ok (.iload 4, 2) := by decide +kernel
theorem dX7_agrees_23 : decode cX7_agrees 23 = .ok (.invokestatic 99, 3) := by decide +kernel
theorem dX7_agrees_26 : decode cX7_agrees 26 = .ok (.ifCond .eq 27, 3) := by decide +kernel
theorem dX7_agrees_29 : decode cX7_agrees 29 = .ok (.aload_n 0, 1) := by decide +kernel
theorem dX7_agrees_30 : decode cX7_agrees 30 = .ok (.aload_n 0, 1) := by decide +kernel
theorem dX7_agrees_31 : decode cX7_agrees 31 = .ok (.iload_n 1, 1) := by decide +kernel
theorem dX7_agrees_32 : decode cX7_agrees 32 = .ok (.iload_n 2, 1) := by decide +kernel
theorem dX7_agrees_33 : decode cX7_agrees 33 = .ok (.iload_n 3, 1) := by decide +kernel
theorem dX7_agrees_34 : decode cX7_agrees 34 = .ok (.ifCond .eq 7, 3) := by decide +kernel
theorem dX7_agrees_37 : decode cX7_agrees 37 = .ok (.iconst 1, 1) := by decide +kernel
theorem dX7_agrees_38 : decode cX7_agrees 38 = .ok (.goto 4, 3) := by decide +kernel
theorem dX7_agrees_41 : decode cX7_agrees 41 = .ok (.iconst 0, 1) := by decide +kernel
theorem dX7_agrees_42 : decode cX7_agrees 42 = .ok (.iload 4, 2) := by decide +kernel
theorem dX7_agrees_44 : decode cX7_agrees 44 = .ok (.invokevirtual 147, 3) := by decide +kernel
theorem dX7_agrees_47 : decode cX7_agrees 47 = .ok (.invokevirtual 69, 3) := by decide +kernel
theorem dX7_agrees_50 : decode cX7_agrees 50 = .ok (.goto 8, 3) := by decide +kernel
theorem dX7_agrees_53 : decode cX7_agrees 53 = .ok (.aload_n 0, 1) := by decide +kernel
theorem dX7_agrees_54 : decode cX7_agrees 54 = .ok (.iconst 2, 1) := by decide +kernel
theorem dX7_agrees_55 : decode cX7_agrees 55 = .ok (.invokevirtual 51, 3) := by decide +kernel
theorem dX7_agrees_58 : decode cX7_agrees 58 = .ok (.ireturn, 1) := by decide +kernel
set_option maxRecDepth 20000 in
theorem ggX7_keysFor_X7_isDoor : GoodIn wsX7_keysFor wsX7_isDoor := goodIn_ca (goodIn_r _ [6, 1, 7, 8, 5, 9, 23, 24, 25, 26, 27, 28, 29, 30, 31, 32, 33, 34, 35, 36, 37, 38, 39, 40] (by decide +kernel) (by decide +kernel)) (goodIn_sub (fun _ h => List.mem_cons_of_mem _ (List.mem_append_right _ h)) (by decide +kernel))
set_option maxRecDepth 20000 in
theorem gX7_keysFor_X7_isDoor : GoodIn wsX7_keysFor (wsV RX7 112 RX7 yX7_isDoor wsX7_isDoor) := goodIn_app (goodIn_of _ (by decide +kernel)) ggX7_keysFor_X7_isDoor
set_option maxRecDepth 20000 in
theorem ggX7_keysFor_X7_fails : GoodIn wsX7_keysFor wsX7_fails := goodIn_r _ [13, 14, 23, 24, 25, 26, 27, 28, 29, 30, 31, 32, 33, 34, 35, 36, 37, 38, 39, 40] (by decide +kernel) (by decide +kernel)
set_option maxRecDepth 20000 in
theorem gX7_keysFor_X7_fails : GoodIn wsX7_keysFor (wsV RX7 51 RX7 yX7_fails wsX7_fails) := goodIn_app (goodIn_of _ (by decide +kernel)) ggX7_keysFor_X7_fails
set_option maxRecDepth 20000 in
theorem ggX7_keysFor_X7_fits : GoodIn wsX7_keysFor wsX7_fits := goodIn_ca (goodIn_r _ [18, 1, 23, 24, 25, 26, 27, 28, 29, 30, 31, 32, 33, 34, 35, 36, 37, 38, 39, 40] (by decide +kernel) (by decide +kernel)) (goodIn_sub (fun _ h => List.mem_cons_of_mem _ (List.mem_append_right _ h)) (by decide +kernel))
set_option maxRecDepth 20000 in
theorem gX7_keysFor_X7_fits : GoodIn wsX7_keysFor (wsV RX7 122 RX7 yX7_fits wsX7_fits) := goodIn_app (goodIn_of _ (by decide +kernel)) ggX7_keysFor_X7_fits
set_option maxRecDepth 20000 in
theorem ggX7_keysFor_X7_done : GoodIn wsX7_keysFor wsX7_done := goodIn_r _ [22, 14, 23, 24, 25, 26, 27, 28, 29, 30, 31, 32, 33, 34, 35, 36, 37, 38, 39, 40] (by decide +kernel) (by decide +kernel)
set_option maxRecDepth 20000 in
theorem gX7_keysFor_X7_done : GoodIn wsX7_keysFor (wsV RX7 69 RX7 yX7_done wsX7_done) := goodIn_app (goodIn_of _ (by decide +kernel)) ggX7_keysFor_X7_done
theorem dX7_keysFor_0 : decode cX7_keysFor 0 = .ok (.aload_n 0, 1) := by decide +kernel
theorem dX7_keysFor_1 : decode cX7_keysFor 1 = .ok (.iload_n 1, 1) := by decide +kernel
theorem dX7_keysFor_2 : decode cX7_keysFor 2 = .ok (.invokevirtual 112, 3) := by decide +kernel
theorem dX7_keysFor_5 : decode cX7_keysFor 5 = .ok (.ifCond .ne 9, 3) := by decide +kernel
theorem dX7_keysFor_8 : decode cX7_keysFor 8 = .ok (.aload_n 0, 1) := by decide +kernel
theorem dX7_keysFor_9 : decode cX7_keysFor 9 = .ok (.iconst 1, 1) := by decide +kernel
theorem dX7_keysFor_10 : decode cX7_keysFor 10 = .ok (.invokevirtual 51, 3) := by decide +kernel
theorem dX7_keysFor_13 : decode cX7_keysFor 13 = .ok (.ireturn, 1) := by decide +kernel
theorem dX7_keysFor_14 : decode cX7_keysFor 14 = .ok (.iconst 0, 1) := by decide +kernel
theorem dX7_keysFor_15 : decode cX7_keysFor 15 = .ok (.istore_n 2, 1) := by decide +kernel
theorem dX7_keysFor_16 : decode cX7_keysFor 16 = .ok (.iconst 0, 1) := by decide +kernel
theorem dX7_keysFor_17 : decode cX7_keysFor 17 = .ok (.istore_n 3, 1) := by decide +kernel
theorem dX7_keysFor_18 : decode cX7_keysFor 18 = .ok (.iload_n 3, 1) := by decide +kernel
theorem dX7_keysFor_19 : decode cX7_keysFor 19 = .ok (.aload_n 0, 1) := by decide +kernel
theorem dX7_keysFor_20 : decode cX7_keysFor 20 = .ok (.getfield 7, 3) := by decide +kernel
theorem dX7_keysFor_23 : decode cX7_keysFor 23 = .ok (.iconst 2, 1) := by decide +kernel
theorem dX7_keysFor_24 : decode cX7_keysFor 24 = .ok (.iaload, 1) := by decide +kernel
theorem dX7_keysFor_25 : decode cX7_keysFor 25 = .ok (.if_icmp .ge 46, 3) := by decide +kernel
theorem dX7_keysFor_28 : decode cX7_keysFor 28 = .ok (.iload_n 2, 1) := by decide +kernel
theorem dX7_keysFor_29 : decode cX7_keysFor 29 = .ok (.aload_n 0, 1) := by decide +kernel
theorem dX7_keysFor_30 : decode cX7_keysFor 30 = .ok (.iload_n 3, 1) := by decide +kernel
theorem dX7_keysFor_31 : decode cX7_keysFor 31 = .ok (.aload_n 0, 1) := by decide +kernel
theorem dX7_keysFor_32 : decode cX7_keysFor 32 = .ok (.getfield 7, 3) := by decide +kernel
theorem dX7_keysFor_35 : decode cX7_keysFor 35 = .ok (.bipush 32, 2) := by decide +kernel
theorem dX7_keysFor_37 : decode cX7_keysFor 37 = .ok (.iload_n 1, 1) := by decide +kernel
theorem dX7_keysFor_38 : decode cX7_keysFor 38 = .ok (.iadd, 1) := by decide +kernel
theorem dX7_keysFor_39 : decode cX7_keysFor 39 = .ok (.iaload, 1) := by decide +kernel
theorem dX7_keysFor_40 : decode cX7_keysFor 40 = .ok (.aload_n 0, 1) := by decide +kernel
theorem dX7_keysFor_41 : decode cX7_keysFor 41 = .ok (.getfield 7, 3) := by decide +kernel
theorem dX7_keysFor_44 : decode cX7_keysFor 44 = .ok (.bipush 40, 2) := by decide +kernel
theorem dX7_keysFor_46 : decode cX7_keysFor 46 = .ok (.iload_n 1, 1) := by decide +kernel
theorem dX7_keysFor_47 : decode cX7_keysFor 47 = .ok (.iadd, 1) := by decide +kernel
theorem dX7_keysFor_48 : decode cX7_keysFor 48 = .ok (.iaload, 1) := by decide +kernel
theorem dX7_keysFor_49 : decode cX7_keysFor 49 = .ok (.invokevirtual 122, 3) := by decide +kernel
theorem dX7_keysFor_52 : decode cX7_keysFor 52 = .ok (.iconst 2, 1) := by decide +kernel
theorem dX7_keysFor_53 : decode cX7_keysFor 53 = .ok (.if_icmp .ne 9, 3) := by decide +kernel
theorem dX7_keysFor_56 : decode cX7_keysFor 56 = .ok (.iconst 1, 1) := by decide +kernel
theorem dX7_keysFor_57 : decode cX7_keysFor 57 = .ok (.iload_n 3, 1) := by decide +kernel
theorem dX7_keysFor_58 : decode cX7_keysFor 58 = .ok (.ishl, 1) := by decide +kernel
theorem dX7_keysFor_59 : decode cX7_keysFor 59 = .ok (.goto 4, 3) := by decide +kernel
theorem dX7_keysFor_62 : decode cX7_keysFor 62 = .ok (.iconst 0, 1) := by decide +kernel
theorem dX7_keysFor_63 : decode cX7_keysFor 63 = .ok (.ior, 1) := by decide +kernel
theorem dX7_keysFor_64 : decode cX7_keysFor 64 = .ok (.istore_n 2, 1) := by decide +kernel
theorem dX7_keysFor_65 : decode cX7_keysFor 65 = .ok (.iinc 3 1, 3) := by decide +kernel
theorem dX7_keysFor_68 : decode cX7_keysFor 68 = .ok (.goto (-50), 3) := by decide +kernel
theorem dX7_keysFor_71 : decode cX7_keysFor 71 = .ok (.aload_n 0, 1) := by decide +kernel
theorem dX7_keysFor_72 : decode cX7_keysFor 72 = .ok (.iload_n 2, 1) := by decide +kernel
theorem dX7_keysFor_73 : decode cX7_keysFor 73 = .ok (.invokevirtual 69, 3) := by decide +kernel
theorem dX7_keysFor_76 : decode cX7_keysFor 76 = .ok (.ireturn, 1) := by decide +kernel
theorem dX7_next_0 : decode cX7_next 0 = .ok (.iload_n 1, 1) := by decide +kernel
theorem dX7_next_1 : decode cX7_next 1 = .ok (.istore_n 3, 1) := by decide +kernel
theorem dX7_next_2 : decode cX7_next 2 = .ok (.iconst 0, 1) := by decide +kernel
theorem dX7_next_3 : decode cX7_next 3 = .ok (.istore 4, 2) := by decide +kernel
theorem dX7_next_5 : decode cX7_next 5 = .ok (.iload 4, 2) := by decide +kernel
theorem dX7_next_7 : decode cX7_next 7 = .ok (.aload_n 0, 1) := by decide +kernel
theorem dX7_next_8 : decode cX7_next 8 = .ok (.getfield 7, 3) := by decide +kernel
theorem dX7_next_11 : decode cX7_next 11 = .ok (.iconst 0, 1) := by decide +kernel
theorem dX7_next_12 : decode cX7_next 12 = .ok (.iaload, 1) := by decide +kernel
theorem dX7_next_13 : decode cX7_next 13 = .ok (.if_icmp .ge 85, 3) := by decide +kernel
theorem dX7_next_16 : decode cX7_next 16 = .ok (.aload_n 0, 1) := by decide +kernel
theorem dX7_next_17 : decode cX7_next 17 = .ok (.getfield 7, 3) := by decide +kernel
theorem dX7_next_20 : decode cX7_next 20 = .ok (.bipush 80, 2) := by decide +kernel
theorem dX7_next_22 : decode cX7_next 22 = .ok (.iload 4, 2) := by decide +kernel
theorem dX7_next_24 : decode cX7_next 24 = .ok (.iadd, 1) := by decide +kernel
theorem dX7_next_25 : decode cX7_next 25 = .ok (.iaload, 1) := by decide +kernel
theorem dX7_next_26 : decode cX7_next 26 = .ok (.iconst 1, 1) := by decide +kernel
theorem dX7_next_27 : decode cX7_next 27 = .ok (.if_icmp .eq 9, 3) := by decide +kernel
theorem dX7_next_30 : decode cX7_next 30 = .ok (.iload 4, 2) := by decide +kernel
theorem dX7_next_32 : decode cX7_next 32 = .ok (.iload_n 2, 1) := by decide +kernel
theorem dX7_next_33 : decode cX7_next 33 = .ok (.if_icmp .ne 59, 3) := by decide +kernel
theorem dX7_next_36 : decode cX7_next 36 = .ok (.iload_n 3, 1) := by decide +kernel
theorem dX7_next_37 : decode cX7_next 37 = .ok (.iload_n 1, 1) := by decide +kernel
theorem dX7_next_38 : decode cX7_next 38 = .ok (.aload_n 0, 1) := by decide +kernel
theorem dX7_next_39 : decode cX7_next 39 = .ok (.getfield 7, 3) := by decide +kernel
theorem dX7_next_42 : decode cX7_next 42 = .ok (.bipush 88, 2) := by decide +kernel
theorem dX7_next_44 : decode cX7_next 44 = .ok (.iload 4, 2) := by decide +kernel
theorem dX7_next_46 : decode cX7_next 46 = .ok (.iadd, 1) := by decide +kernel
theorem dX7_next_47 : decode cX7_next 47 = .ok (.iaload, 1) := by decide +kernel
theorem dX7_next_48 : decode cX7_next 48 = .ok (.ishr, 1) := by decide +kernel
theorem dX7_next_49 : decode cX7_next 49 = .ok (.iconst 1, 1) := by decide +kernel
theorem dX7_next_50 : decode cX7_next 50 = .ok (.iand, 1) := by decide +kernel
theorem dX7_next_51 : decode cX7_next 51 = .ok (.aload_n 0, 1) := by decide +kernel
theorem dX7_next_52 : decode cX7_next 52 = .ok (.getfield 7, 3) := by decide +kernel
theorem dX7_next_55 : decode cX7_next 55 = .ok (.bipush 96, 2) := by decide +kernel
theorem dX7_next_57 : decode cX7_next 57 = .ok (.iload 4, 2) := by decide +kernel
theorem dX7_next_59 : decode cX7_next 59 = .ok (.iadd, 1) := by decide +kernel
theorem dX7_next_60 : decode cX7_next 60 = .ok (.iaload, 1) := by decide +kernel
theorem dX7_next_61 : decode cX7_next 61 = .ok (.ishl, 1) := by decide +kernel
theorem dX7_next_62 : decode cX7_next 62 = .ok (.ior, 1) := by decide +kernel
theorem dX7_next_63 : decode cX7_next 63 = .ok (.istore_n 3, 1) := by decide +kernel
theorem dX7_next_64 : decode cX7_next 64 = .ok (.iload_n 3, 1) := by decide +kernel
theorem dX7_next_65 : decode cX7_next 65 = .ok (.iload_n 1, 1) := by decide +kernel
theorem dX7_next_66 : decode cX7_next 66 = .ok (.aload_n 0, 1) := by decide +kernel
theorem dX7_next_67 : decode cX7_next 67 = .ok (.getfield 7, 3) := by decide +kernel
theorem dX7_next_70 : decode cX7_next 70 = .ok (.bipush 96, 2) := by decide +kernel
theorem dX7_next_72 : decode cX7_next 72 = .ok (.iload 4, 2) := by decide +kernel
theorem dX7_next_74 : decode cX7_next 74 = .ok (.iadd, 1) := by decide +kernel
theorem dX7_next_75 : decode cX7_next 75 = .ok (.iaload, 1) := by decide +kernel
theorem dX7_next_76 : decode cX7_next 76 = .ok (.ishr, 1) := by decide +kernel
theorem dX7_next_77 : decode cX7_next 77 = .ok (.iconst 1, 1) := by decide +kernel
theorem dX7_next_78 : decode cX7_next 78 = .ok (.iand, 1) := by decide +kernel
theorem dX7_next_79 : decode cX7_next 79 = .ok (.aload_n 0, 1) := by decide +kernel
theorem dX7_next_80 : decode cX7_next 80 = .ok (.getfield 7, 3) := by decide +kernel
theorem dX7_next_83 : decode cX7_next 83 = .ok (.bipush 88, 2) := by decide +kernel
theorem dX7_next_85 : decode cX7_next 85 = .ok (.iload 4, 2) := by decide +kernel
theorem dX7_next_87 : decode cX7_next 87 = .ok (.iadd, 1) := by decide +kernel
theorem dX7_next_88 : decode cX7_next 88 = .ok (.iaload, 1) := by decide +kernel
theorem dX7_next_89 : decode cX7_next 89 = .ok (.ishl, 1) := by decide +kernel
theorem dX7_next_90 : decode cX7_next 90 = .ok (.ior, 1) := by decide +kernel
theorem dX7_next_91 : decode cX7_next 91 = .ok (.istore_n 3, 1) := by decide +kernel
theorem dX7_next_92 : decode cX7_next 92 = .ok (.iinc 4 1, 3) := by decide +kernel
theorem dX7_next_95 : decode cX7_next 95 = .ok (.goto (-90), 3) := by decide +kernel
theorem dX7_next_98 : decode cX7_next 98 = .ok (.iload_n 3, 1) := by decide +kernel
theorem dX7_next_99 : decode cX7_next 99 = .ok (.ireturn, 1) := by decide +kernel
set_option maxRecDepth 20000 in
theorem ggX7_reachedWith_X7_next : GoodIn wsX7_reachedWith wsX7_next := goodIn_ca (goodIn_r _ [5, 6, 7, 8, 9, 10, 11, 12, 13, 14, 15, 16, 17, 18, 19, 20, 21, 22, 23, 24] (by decide +kernel) (by decide +kernel)) (goodIn_sub (fun _ h => List.mem_cons_of_mem _ (List.mem_append_right _ h)) (by decide +kernel))
set_option maxRecDepth 20000 in
theorem gX7_reachedWith_X7_next : GoodIn wsX7_reachedWith (wsV RX7 166 RX7 yX7_next wsX7_next) := goodIn_app (goodIn_of _ (by decide +kernel)) ggX7_reachedWith_X7_next
theorem dX7_reachedWith_0 : decode cX7_reachedWith 0 = .ok (.iconst 1, 1) := by decide +kernel
theorem dX7_reachedWith_1 : decode cX7_reachedWith 1 = .ok (.iload_n 1, 1) := by decide +kernel
theorem dX7_reachedWith_2 : decode cX7_reachedWith 2 = .ok (.ishl, 1) := by decide +kernel
theorem dX7_reachedWith_3 : decode cX7_reachedWith 3 = .ok (.istore_n 3, 1) := by decide +kernel
theorem dX7_reachedWith_4 : decode cX7_reachedWith 4 = .ok (.iconst 0, 1) := by decide +kernel
theorem dX7_reachedWith_5 : decode cX7_reachedWith 5 = .ok (.istore 4, 2) := by decide +kernel
theorem dX7_reachedWith_7 : decode cX7_reachedWith 7 = .ok (.iload 4, 2) := by decide +kernel
theorem dX7_reachedWith_9 : decode cX7_reachedWith 9 = .ok (.bipush 6, 2) := by decide +kernel
theorem dX7_reachedWith_11 : decode cX7_reachedWith 11 = .ok (.if_icmp .ge 16, 3) := by decide +kernel
theorem dX7_reachedWith_14 : decode cX7_reachedWith 14 = .ok (.aload_n 0, 1) := by decide +kernel
theorem dX7_reachedWith_15 : decode cX7_reachedWith 15 = .ok (.iload_n 3, 1) := by decide +kernel
theorem dX7_reachedWith_16 : decode cX7_reachedWith 16 = .ok (.iload_n 2, 1) := by decide +kernel
theorem dX7_reachedWith_17 : decode cX7_reachedWith 17 = .ok (.invokevirtual 166, 3) := by decide +kernel
theorem dX7_reachedWith_20 : decode cX7_reachedWith 20 = .ok (.istore_n 3, 1) := by decide +kernel
theorem dX7_reachedWith_21 : decode cX7_reachedWith 21 = .ok (.iinc 4 1, 3) := by decide +kernel
theorem dX7_reachedWith_24 : decode cX7_reachedWith 24 = .ok (.goto (-17), 3) := by decide +kernel
theorem dX7_reachedWith_27 : decode cX7_reachedWith 27 = .ok (.iload_n 3, 1) := by decide +kernel
theorem dX7_reachedWith_28 : decode cX7_reachedWith 28 = .ok (.ireturn, 1) := by decide +kernel
set_option maxRecDepth 20000 in
theorem ggX7_way_X7_isRoom : GoodIn wsX7_way wsX7_isRoom := goodIn_r _ [4, 5, 6, 3, 7] (by decide +kernel) (by decide +kernel)
set_option maxRecDepth 20000 in
theorem gX7_way_X7_isRoom : GoodIn wsX7_way (va_wsS RX7 83 yX7_isRoom wsX7_isRoom) := goodIn_app (goodIn_of _ (by decide +kernel)) ggX7_way_X7_isRoom
set_option maxRecDepth 20000 in
theorem ggX7_way_X7_fails : GoodIn wsX7_way wsX7_fails := goodIn_r _ [11, 12, 22, 23, 24, 25, 26, 27, 28, 29, 30, 31, 32, 33, 34, 35, 36, 37, 38, 39] (by decide +kernel) (by decide +kernel)
set_option maxRecDepth 20000 in
theorem gX7_way_X7_fails : GoodIn wsX7_way (wsV RX7 51 RX7 yX7_fails wsX7_fails) := goodIn_app (goodIn_of _ (by decide +kernel)) ggX7_way_X7_fails
set_option maxRecDepth 20000 in
theorem ggX7_way_X7_next : GoodIn wsX7_way wsX7_next := goodIn_ca (goodIn_r _ [16, 17, 22, 23, 24, 25, 26, 27, 28, 29, 30, 31, 32, 33, 34, 35, 36, 37, 38, 39] (by decide +kernel) (by decide +kernel)) (goodIn_sub (fun _ h => List.mem_cons_of_mem _ (List.mem_append_right _ h)) (by decide +kernel))
set_option maxRecDepth 20000 in
theorem gX7_way_X7_next : GoodIn wsX7_way (wsV RX7 166 RX7 yX7_next wsX7_next) := goodIn_app (goodIn_of _ (by decide +kernel)) ggX7_way_X7_next
set_option maxRecDepth 20000 in
theorem ggX7_way_X7_done : GoodIn wsX7_way wsX7_done := goodIn_r _ [21, 12, 22, 23, 24, 25, 26, 27, 28, 29, 30, 31, 32, 33, 34, 35, 36, 37, 38, 39] (by decide +kernel) (by decide +kernel)
set_option maxRecDepth 20000 in
theorem gX7_way_X7_done : GoodIn wsX7_way (wsV RX7 69 RX7 yX7_done wsX7_done) := goodIn_app (goodIn_of _ (by decide +kernel)) ggX7_way_X7_done
theorem dX7_way_0 : decode cX7_way 0 = .ok (.iload_n 1, 1) := by decide +kernel
theorem dX7_way_1 : decode cX7_way 1 = .ok (.invokestatic 83, 3) := by decide +kernel
theorem dX7_way_4 : decode cX7_way 4 = .ok (.ifCond .eq 10, 3) := by decide +kernel
theorem dX7_way_7 : decode cX7_way 7 = .ok (.iload_n 2, 1) := by decide +kernel
theorem dX7_way_8 : decode cX7_way 8 = .ok (.invokestatic 83, 3) := by decide +kernel
theorem dX7_way_11 : decode cX7_way 11 = .ok (.ifCond .ne 9, 3) := by decide +kernel
theorem dX7_way_14 : decode cX7_way 14 = .ok (.aload_n 0, 1) := by decide +kernel
theorem dX7_way_15 : decode cX7_way 15 = .ok (.iconst 1, 1) := by decide +kernel
theorem dX7_way_16 : decode cX7_way 16 = .ok (.invokevirtual 51, 3) := by decide +kernel
theorem dX7_way_19 : decode cX7_way 19 = .ok (.ireturn, 1) := by decide +kernel
theorem dX7_way_20 : decode cX7_way 20 = .ok (.iconst 1, 1) := by decide +kernel
theorem dX7_way_21 : decode cX7_way 21 = .ok (.iload_n 1, 1) := by decide +kernel
theorem dX7_way_22 : decode cX7_way 22 = .ok (.ishl, 1) := by decide +kernel
theorem dX7_way_23 : decode cX7_way 23 = .ok (.istore 4, 2) := by decide +kernel
theorem dX7_way_25 : decode cX7_way 25 = .ok (.iconst 0, 1) := by decide +kernel
theorem dX7_way_26 : decode cX7_way 26 = .ok (.istore 5, 2) := by decide +kernel
theorem dX7_way_28 : decode cX7_way 28 = .ok (.iload 5, 2) := by decide +kernel
theorem dX7_way_30 : decode cX7_way 30 = .ok (.bipush 6, 2) := by decide +kernel
theorem dX7_way_32 : decode cX7_way 32 = .ok (.if_icmp .ge 27, 3) := by decide +kernel
theorem dX7_way_35 : decode cX7_way 35 = .ok (.iload 4, 2) := by decide +kernel
theorem dX7_way_37 : decode cX7_way 37 = .ok (.iload_n 2, 1) := by decide +kernel
theorem dX7_way_38 : decode cX7_way 38 = .ok (.ishr, 1) := by decide +kernel
theorem dX7_way_39 : decode cX7_way 39 = .ok (.iconst 1, 1) := by decide +kernel
theorem dX7_way_40 : decode cX7_way 40 = .ok (.iand, 1) := by decide +kernel
theorem dX7_way_41 : decode cX7_way 41 = .ok (.ifCond .ne 18, 3) := by decide +kernel
theorem dX7_way_44 : decode cX7_way 44 = .ok (.aload_n 0, 1) := by decide +kernel
theorem dX7_way_45 : decode cX7_way 45 = .ok (.iload 4, 2) := by decide +kernel
theorem dX7_way_47 : decode cX7_way 47 = .ok (.iconst (-1), 1) := by decide +kernel
theorem dX7_way_48 : decode cX7_way 48 = .ok (.invokevirtual 166, 3) := by decide +kernel
theorem dX7_way_51 : decode cX7_way 51 = .ok (.istore 4, 2) := by decide +kernel
theorem dX7_way_53 : decode cX7_way 53 = .ok (.iinc 5 1, 3) := by decide +kernel
theorem dX7_way_56 : decode cX7_way 56 = .ok (.goto (-28), 3) := by decide +kernel
theorem dX7_way_59 : decode cX7_way 59 = .ok (.iload 5, 2) := by decide +kernel
theorem dX7_way_61 : decode cX7_way 61 = .ok (.bipush 6, 2) := by decide +kernel
theorem dX7_way_63 : decode cX7_way 63 = .ok (.if_icmp .ne 11, 3) := by decide +kernel
theorem dX7_way_66 : decode cX7_way 66 = .ok (.aload_n 0, 1) := by decide +kernel
theorem dX7_way_67 : decode cX7_way 67 = .ok (.iconst 2, 1) := by decide +kernel
theorem dX7_way_68 : decode cX7_way 68 = .ok (.invokevirtual 51, 3) := by decide +kernel
theorem dX7_way_71 : decode cX7_way 71 = .ok (.goto 9, 3) := by decide +kernel
theorem dX7_way_74 : decode cX7_way 74 = .ok (.aload_n 0, 1) := by decide +kernel
theorem dX7_way_75 : decode cX7_way 75 = .ok (.iload 5, 2) := by decide +kernel
theorem dX7_way_77 : decode cX7_way 77 = .ok (.invokevirtual 69, 3) := by decide +kernel
theorem dX7_way_80 : decode cX7_way 80 = .ok (.ireturn, 1) := by decide +kernel
set_option maxRecDepth 20000 in
theorem ggX7_reached_X7_isRoom : GoodIn wsX7_reached wsX7_isRoom := goodIn_r _ [4, 5, 6, 3, 7] (by decide +kernel) (by decide +kernel)
set_option maxRecDepth 20000 in
theorem gX7_reached_X7_isRoom : GoodIn wsX7_reached (va_wsS RX7 83 yX7_isRoom wsX7_isRoom) := goodIn_app (goodIn_of _ (by decide +kernel)) ggX7_reached_X7_isRoom
set_option maxRecDepth 20000 in
theorem ggX7_reached_X7_reachedWith : GoodIn wsX7_reached wsX7_reachedWith := goodIn_ca (goodIn_r _ [11, 12, 13, 14, 3, 15, 16, 26, 27, 28, 29, 30, 31, 32, 33, 34, 35, 36, 37, 38, 39, 40, 41, 42, 43] (by decide +kernel) (by decide +kernel)) (goodIn_sub (fun _ h => List.mem_cons_of_mem _ (List.mem_append_right _ h)) (by decide +kernel))
set_option maxRecDepth 20000 in
theorem gX7_reached_X7_reachedWith : GoodIn wsX7_reached (wsV RX7 169 RX7 yX7_reachedWith wsX7_reachedWith) := goodIn_app (goodIn_of _ (by decide +kernel)) ggX7_reached_X7_reachedWith
set_option maxRecDepth 20000 in
theorem ggX7_reached_X7_done : GoodIn wsX7_reached wsX7_done := goodIn_r _ [20, 21, 26, 27, 28, 29, 30, 31, 32, 33, 34, 35, 36, 37, 38, 39, 40, 41, 42, 43] (by decide +kernel) (by decide +kernel)
set_option maxRecDepth 20000 in
theorem gX7_reached_X7_done : GoodIn wsX7_reached (wsV RX7 69 RX7 yX7_done wsX7_done) := goodIn_app (goodIn_of _ (by decide +kernel)) ggX7_reached_X7_done
set_option maxRecDepth 20000 in
theorem ggX7_reached_X7_fails : GoodIn wsX7_reached wsX7_fails := goodIn_r _ [25, 21, 26, 27, 28, 29, 30, 31, 32, 33, 34, 35, 36, 37, 38, 39, 40, 41, 42, 43] (by decide +kernel) (by decide +kernel)
set_option maxRecDepth 20000 in
theorem gX7_reached_X7_fails : GoodIn wsX7_reached (wsV RX7 51 RX7 yX7_fails wsX7_fails) := goodIn_app (goodIn_of _ (by decide +kernel)) ggX7_reached_X7_fails
theorem dX7_reached_0 : decode cX7_reached 0 = .ok (.iload_n 1, 1) := by decide +kernel
theorem dX7_reached_1 : decode cX7_reached 1 = .ok (.invokestatic 83, 3) := by decide +kernel
theorem dX7_reached_4 : decode cX7_reached 4 = .ok (.ifCond .eq 16, 3) := by decide +kernel
theorem dX7_reached_7 : decode cX7_reached 7 = .ok (.aload_n 0, 1) := by decide +kernel
theorem dX7_reached_8 : decode cX7_reached 8 = .ok (.aload_n 0, 1) := by decide +kernel
theorem dX7_reached_9 : decode cX7_reached 9 = .ok (.iload_n 1, 1) := by decide +kernel
theorem dX7_reached_10 : decode cX7_reached 10 = .ok (.iconst (-1), 1) := by decide +kernel
theorem dX7_reached_11 : decode cX7_reached 11 = .ok (.invokevirtual 169, 3) := by decide +kernel
theorem dX7_reached_14 : decode cX7_reached 14 = .ok (.invokevirtual 69, 3) := by decide +kernel
theorem dX7_reached_17 : decode cX7_reached 17 = .ok (.goto 8, 3) := by decide +kernel
theorem dX7_reached_20 : decode cX7_reached 20 = .ok (.aload_n 0, 1) := by decide +kernel
theorem dX7_reached_21 : decode cX7_reached 21 = .ok (.iconst 1, 1) := by decide +kernel
theorem dX7_reached_22 : decode cX7_reached 22 = .ok (.invokevirtual 51, 3) := by decide +kernel
theorem dX7_reached_25 : decode cX7_reached 25 = .ok (.ireturn, 1) := by decide +kernel
theorem dX7_bits_0 : decode cX7_bits 0 = .ok (.iconst 0, 1) := by decide +kernel
theorem dX7_bits_1 : decode cX7_bits 1 = .ok (.istore_n 1, 1) := by decide +kernel
theorem dX7_bits_2 : decode cX7_bits 2 = .ok (.iconst 0, 1) := by decide +kernel
theorem dX7_bits_3 : decode cX7_bits 3 = .ok (.istore_n 2, 1) := by decide +kernel
theorem dX7_bits_4 : decode cX7_bits 4 = .ok (.iload_n 2, 1) := by decide +kernel
theorem dX7_bits_5 : decode cX7_bits 5 = .ok (.bipush 6, 2) := by decide +kernel
theorem dX7_bits_7 : decode cX7_bits 7 = .ok (.if_icmp .ge 17, 3) := by decide +kernel
theorem dX7_bits_10 : decode cX7_bits 10 = .ok (.iload_n 1, 1) := by decide +kernel
theorem dX7_bits_11 : decode cX7_bits 11 = .ok (.iload_n 0, 1) := by decide +kernel
theorem dX7_bits_12 : decode cX7_bits 12 = .ok (.iload_n 2, 1) := by decide +kernel
theorem dX7_bits_13 : decode cX7_bits 13 = .ok (.ishr, 1) := by decide +kernel
theorem dX7_bits_14 : decode cX7_bits 14 = .ok (.iconst 1, 1) := by decide +kernel
theorem dX7_bits_15 : decode cX7_bits 15 = .ok (.iand, 1) := by decide +kernel
theorem dX7_bits_16 : decode cX7_bits 16 = .ok (.iadd, 1) := by decide +kernel
theorem dX7_bits_17 : decode cX7_bits 17 = .ok (.istore_n 1, 1) := by decide +kernel
theorem dX7_bits_18 : decode cX7_bits 18 = .ok (.iinc 2 1, 3) := by decide +kernel
theorem dX7_bits_21 : decode cX7_bits 21 = .ok (.goto (-17), 3) := by decide +kernel
theorem dX7_bits_24 : decode cX7_bits 24 = .ok (.iload_n 1, 1) := by decide +kernel
theorem dX7_bits_25 : decode cX7_bits 25 = .ok (.ireturn, 1) := by decide +kernel
set_option maxRecDepth 20000 in
theorem ggX7_best_X7_isRoom : GoodIn wsX7_best wsX7_isRoom := goodIn_r _ [5, 6, 7, 4, 8] (by decide +kernel) (by decide +kernel)
set_option maxRecDepth 20000 in
theorem gX7_best_X7_isRoom : GoodIn wsX7_best (va_wsS RX7 83 yX7_isRoom wsX7_isRoom) := goodIn_app (goodIn_of _ (by decide +kernel)) ggX7_best_X7_isRoom
set_option maxRecDepth 20000 in
theorem ggX7_best_X7_fails : GoodIn wsX7_best wsX7_fails := goodIn_r _ [12, 13, 29, 30, 31, 32, 33, 34, 35, 36, 37, 38, 39, 40, 41, 42, 43, 44, 45, 46] (by decide +kernel) (by decide +kernel)
set_option maxRecDepth 20000 in
theorem gX7_best_X7_fails : GoodIn wsX7_best (wsV RX7 51 RX7 yX7_fails wsX7_fails) := goodIn_app (goodIn_of _ (by decide +kernel)) ggX7_best_X7_fails
set_option maxRecDepth 20000 in
theorem ggX7_best_X7_reachedWith : GoodIn wsX7_best wsX7_reachedWith := goodIn_ca (goodIn_r _ [17, 18, 19, 20, 4, 21, 1, 29, 30, 31, 32, 33, 34, 35, 36, 37, 38, 39, 40, 41, 42, 43, 44, 45, 46] (by decide +kernel) (by decide +kernel)) (goodIn_sub (fun _ h => List.mem_cons_of_mem _ (List.mem_append_right _ h)) (by decide +kernel))
set_option maxRecDepth 20000 in
theorem gX7_best_X7_reachedWith : GoodIn wsX7_best (wsV RX7 169 RX7 yX7_reachedWith wsX7_reachedWith) := goodIn_app (goodIn_of _ (by decide +kernel)) ggX7_best_X7_reachedWith
set_option maxRecDepth 20000 in
theorem ggX7_best_X7_bits : GoodIn wsX7_best wsX7_bits := goodIn_r _ [24] (by decide +kernel) (by decide +kernel)
set_option maxRecDepth 20000 in
theorem gX7_best_X7_bits : GoodIn wsX7_best (va_wsS RX7 172 yX7_bits wsX7_bits) := goodIn_app (goodIn_of _ (by decide +kernel)) ggX7_best_X7_bits
set_option maxRecDepth 20000 in
theorem ggX7_best_X7_done : GoodIn wsX7_best wsX7_done := goodIn_r _ [28, 13, 29, 30, 31, 32, 33, 34, 35, 36, 37, 38, 39, 40, 41, 42, 43, 44, 45, 46] (by decide +kernel) (by decide +kernel)
set_option maxRecDepth 20000 in
theorem gX7_best_X7_done : GoodIn wsX7_best (wsV RX7 69 RX7 yX7_done wsX7_done) := goodIn_app (goodIn_of _ (by decide +kernel)) ggX7_best_X7_done
theorem dX7_best_0 : decode cX7_best 0 = .ok (.iload_n 1, 1) := by decide +kernel
theorem dX7_best_1 : decode cX7_best 1 = .ok (.invokestatic 83, 3) := by decide +kernel
theorem dX7_best_4 : decode cX7_best 4 = .ok (.ifCond .ne 9, 3) := by decide +kernel
theorem dX7_best_7 : decode cX7_best 7 = .ok (.aload_n 0, 1) := by decide +kernel
theorem dX7_best_8 : decode cX7_best 8 = .ok (.iconst 1, 1) := by decide +kernel
theorem dX7_best_9 : decode cX7_best 9 = .ok (.invokevirtual 51, 3) := by decide +kernel
theorem dX7_best_12 : decode cX7_best 12 = .ok (.ireturn, 1) := by decide +kernel
theorem dX7_best_13 : decode cX7_best 13 = .ok (.iconst (-1), 1) := by decide +kernel
theorem dX7_best_14 : decode cX7_best 14 = .ok (.istore_n 2, 1) := by decide +kernel
theorem dX7_best_15 : decode cX7_best 15 = .ok (.aload_n 0, 1) := by decide +kernel
theorem dX7_best_16 : decode cX7_best 16 = .ok (.iload_n 1, 1) := by decide +kernel
theorem dX7_best_17 : decode cX7_best 17 = .ok (.iconst (-1), 1) := by decide +kernel
theorem dX7_best_18 : decode cX7_best 18 = .ok (.invokevirtual 169, 3) := by decide +kernel
theorem dX7_best_21 : decode cX7_best 21 = .ok (.invokestatic 172, 3) := by decide +kernel
theorem dX7_best_24 : decode cX7_best 24 = .ok (.istore_n 3, 1) := by decide +kernel
theorem dX7_best_25 : decode cX7_best 25 = .ok (.iconst 0, 1) := by decide +kernel
theorem dX7_best_26 : decode cX7_best 26 = .ok (.istore 4, 2) := by decide +kernel
theorem dX7_best_28 : decode cX7_best 28 = .ok (.iload 4, 2) := by decide +kernel
theorem dX7_best_30 : decode cX7_best 30 = .ok (.aload_n 0, 1) := by decide +kernel
theorem dX7_best_31 : decode cX7_best 31 = .ok (.getfield 7, 3) := by decide +kernel
theorem dX7_best_34 : decode cX7_best 34 = .ok (.iconst 0, 1) := by decide +kernel
theorem dX7_best_35 : decode cX7_best 35 = .ok (.iaload, 1) := by decide +kernel
theorem dX7_best_36 : decode cX7_best 36 = .ok (.if_icmp .ge 47, 3) := by decide +kernel
theorem dX7_best_39 : decode cX7_best 39 = .ok (.aload_n 0, 1) := by decide +kernel
theorem dX7_best_40 : decode cX7_best 40 = .ok (.iload_n 1, 1) := by decide +kernel
theorem dX7_best_41 : decode cX7_best 41 = .ok (.iload 4, 2) := by decide +kernel
theorem dX7_best_43 : decode cX7_best 43 = .ok (.invokevirtual 169, 3) := by decide +kernel
theorem dX7_best_46 : decode cX7_best 46 = .ok (.invokestatic 172, 3) := by decide +kernel
theorem dX7_best_49 : decode cX7_best 49 = .ok (.istore 5, 2) := by decide +kernel
theorem dX7_best_51 : decode cX7_best 51 = .ok (.iload 5, 2) := by decide +kernel
theorem dX7_best_53 : decode cX7_best 53 = .ok (.iload_n 3, 1) := by decide +kernel
theorem dX7_best_54 : decode cX7_best 54 = .ok (.if_icmp .le 8, 3) := by decide +kernel
theorem dX7_best_57 : decode cX7_best 57 = .ok (.iload 4, 2) := by decide +kernel
theorem dX7_best_59 : decode cX7_best 59 = .ok (.goto 4, 3) := by decide +kernel
theorem dX7_best_62 : decode cX7_best 62 = .ok (.iload_n 2, 1) := by decide +kernel
theorem dX7_best_63 : decode cX7_best 63 = .ok (.istore_n 2, 1) := by decide +kernel
theorem dX7_best_64 : decode cX7_best 64 = .ok (.iload 5, 2) := by decide +kernel
theorem dX7_best_66 : decode cX7_best 66 = .ok (.iload_n 3, 1) := by decide +kernel
theorem dX7_best_67 : decode cX7_best 67 = .ok (.if_icmp .le 8, 3) := by decide +kernel
theorem dX7_best_70 : decode cX7_best 70 = .ok (.iload 5, 2) := by decide +kernel
theorem dX7_best_72 : decode cX7_best 72 = .ok (.goto 4, 3) := by decide +kernel
theorem dX7_best_75 : decode cX7_best 75 = .ok (.iload_n 3, 1) := by decide +kernel
theorem dX7_best_76 : decode cX7_best 76 = .ok (.istore_n 3, 1) := by decide +kernel
theorem dX7_best_77 : decode cX7_best 77 = .ok (.iinc 4 1, 3) := by decide +kernel
theorem dX7_best_80 : decode cX7_best 80 = .ok (.goto (-52), 3) := by decide +kernel
theorem dX7_best_83 : decode cX7_best 83 = .ok (.iload_n 2, 1) := by decide +kernel
theorem dX7_best_84 : decode cX7_best 84 = .ok (.iconst (-1), 1) := by decide +kernel
theorem dX7_best_85 : decode cX7_best 85 = .ok (.if_icmp .ne 11, 3) := by decide +kernel
theorem dX7_best_88 : decode cX7_best 88 = .ok (.aload_n 0, 1) := by decide +kernel
theorem dX7_best_89 : decode cX7_best 89 = .ok (.iconst 2, 1) := by decide +kernel
theorem dX7_best_90 : decode cX7_best 90 = .ok (.invokevirtual 51, 3) := by decide +kernel
theorem dX7_best_93 : decode cX7_best 93 = .ok (.goto 8, 3) := by decide +kernel
theorem dX7_best_96 : decode cX7_best 96 = .ok (.aload_n 0, 1) := by decide +kernel
theorem dX7_best_97 : decode cX7_best 97 = .ok (.iload_n 2, 1) := by decide +kernel
theorem dX7_best_98 : decode cX7_best 98 = .ok (.invokevirtual 69, 3) := by decide +kernel
theorem dX7_best_101 : decode cX7_best 101 = .ok (.ireturn, 1) := by decide +kernel
set_option maxRecDepth 20000 in
theorem ggX7_ranked_X7_in : GoodIn wsX7_ranked wsX7_in := goodIn_r _ [5] (by decide +kernel) (by decide +kernel)
set_option maxRecDepth 20000 in
theorem gX7_ranked_X7_in : GoodIn wsX7_ranked (va_wsS RX7 72 yX7_in wsX7_in) := goodIn_app (goodIn_of _ (by decide +kernel)) ggX7_ranked_X7_in
set_option maxRecDepth 20000 in
theorem ggX7_ranked_X7_fails : GoodIn wsX7_ranked wsX7_fails := goodIn_r _ [9, 10, 15, 16, 17, 18, 19, 20, 21, 22, 23, 24, 25, 26, 27, 28, 29, 30, 31, 32] (by decide +kernel) (by decide +kernel)
set_option maxRecDepth 20000 in
theorem gX7_ranked_X7_fails : GoodIn wsX7_ranked (wsV RX7 51 RX7 yX7_fails wsX7_fails) := goodIn_app (goodIn_of _ (by decide +kernel)) ggX7_ranked_X7_fails
set_option maxRecDepth 20000 in
theorem ggX7_ranked_X7_done : GoodIn wsX7_ranked wsX7_done := goodIn_r _ [14, 10, 15, 16, 17, 18, 19, 20, 21, 22, 23, 24, 25, 26, 27, 28, 29, 30, 31, 32] (by decide +kernel) (by decide +kernel)
set_option maxRecDepth 20000 in
theorem gX7_ranked_X7_done : GoodIn wsX7_ranked (wsV RX7 69 RX7 yX7_done wsX7_done) := goodIn_app (goodIn_of _ (by decide +kernel)) ggX7_ranked_X7_done
theorem dX7_ranked_0 : decode cX7_ranked 0 = .ok (.iload_n 1, 1) := by decide +kernel
theorem dX7_ranked_1 : decode cX7_ranked 1 = .ok (.iconst 0, 1) := by decide +kernel
theorem dX7_ranked_2 : decode cX7_ranked 2 = .ok (.iconst 1, 1) := by decide +kernel
theorem dX7_ranked_3 : decode cX7_ranked 3 = .ok (.invokestatic 72, 3) := by decide +kernel
theorem dX7_ranked_6 : decode cX7_ranked 6 = .ok (.ifCond .ne 9, 3) := by decide +kernel
theorem dX7_ranked_9 : decode cX7_ranked 9 = .ok (.aload_n 0, 1) := by decide +kernel
theorem dX7_ranked_10 : decode cX7_ranked 10 = .ok (.iconst 1, 1) := by decide +kernel
theorem dX7_ranked_11 : decode cX7_ranked 11 = .ok (.invokevirtual 51, 3) := by decide +kernel
theorem dX7_ranked_14 : decode cX7_ranked 14 = .ok (.ireturn, 1) := by decide +kernel
theorem dX7_ranked_15 : decode cX7_ranked 15 = .ok (.iload_n 1, 1) := by decide +kernel
theorem dX7_ranked_16 : decode cX7_ranked 16 = .ok (.ifCond .ne 8, 3) := by decide +kernel
theorem dX7_ranked_19 : decode cX7_ranked 19 = .ok (.bipush 104, 2) := by decide +kernel
theorem dX7_ranked_21 : decode cX7_ranked 21 = .ok (.goto 5, 3) := by decide +kernel
theorem dX7_ranked_24 : decode cX7_ranked 24 = .ok (.bipush 64, 2) := by decide +kernel
theorem dX7_ranked_26 : decode cX7_ranked 26 = .ok (.istore_n 3, 1) := by decide +kernel
theorem dX7_ranked_27 : decode cX7_ranked 27 = .ok (.iconst 0, 1) := by decide +kernel
theorem dX7_ranked_28 : decode cX7_ranked 28 = .ok (.istore 4, 2) := by decide +kernel
theorem dX7_ranked_30 : decode cX7_ranked 30 = .ok (.iload 4, 2) := by decide +kernel
theorem dX7_ranked_32 : decode cX7_ranked 32 = .ok (.aload_n 0, 1) := by decide +kernel
theorem dX7_ranked_33 : decode cX7_ranked 33 = .ok (.getfield 7, 3) := by decide +kernel
theorem dX7_ranked_36 : decode cX7_ranked 36 = .ok (.iconst 0, 1) := by decide +kernel
theorem dX7_ranked_37 : decode cX7_ranked 37 = .ok (.iaload, 1) := by decide +kernel
theorem dX7_ranked_38 : decode cX7_ranked 38 = .ok (.if_icmp .ge 93, 3) := by decide +kernel
theorem dX7_ranked_41 : decode cX7_ranked 41 = .ok (.iconst 0, 1) := by decide +kernel
theorem dX7_ranked_42 : decode cX7_ranked 42 = .ok (.istore 5, 2) := by decide +kernel
theorem dX7_ranked_44 : decode cX7_ranked 44 = .ok (.iconst 0, 1) := by decide +kernel
theorem dX7_ranked_45 : decode cX7_ranked 45 = .ok (.istore 6, 2) := by decide +kernel
theorem dX7_ranked_47 : decode cX7_ranked 47 = .ok (.iload 6, 2) := by decide +kernel
theorem dX7_ranked_49 : decode cX7_ranked 49 = .ok (.aload_n 0, 1) := by decide +kernel
theorem dX7_ranked_50 : decode cX7_ranked 50 = .ok (.getfield 7, 3) := by decide +kernel
theorem dX7_ranked_53 : decode cX7_ranked 53 = .ok (.iconst 0, 1) := by decide +kernel
theorem dX7_ranked_54 : decode cX7_ranked 54 = .ok (.iaload, 1) := by decide +kernel
theorem dX7_ranked_55 : decode cX7_ranked 55 = .ok (.if_icmp .ge 57, 3) := by decide +kernel
theorem dX7_ranked_58 : decode cX7_ranked 58 = .ok (.aload_n 0, 1) := by decide +kernel
theorem dX7_ranked_59 : decode cX7_ranked 59 = .ok (.getfield 7, 3) := by decide +kernel
theorem dX7_ranked_62 : decode cX7_ranked 62 = .ok (.iload_n 3, 1) := by decide +kernel
theorem dX7_ranked_63 : decode cX7_ranked 63 = .ok (.iload 6, 2) := by decide +kernel
theorem dX7_ranked_65 : decode cX7_ranked 65 = .ok (.iadd, 1) := by decide +kernel
theorem dX7_ranked_66 : decode cX7_ranked 66 = .ok (.iaload, 1) := by decide +kernel
theorem dX7_ranked_67 : decode cX7_ranked 67 = .ok (.aload_n 0, 1) := by decide +kernel
theorem dX7_ranked_68 : decode cX7_ranked 68 = .ok (.getfield 7, 3) := by decide +kernel
theorem dX7_ranked_71 : decode cX7_ranked 71 = .ok (.iload_n 3, 1) := by decide +kernel
theorem dX7_ranked_72 : decode cX7_ranked 72 = .ok (.iload 4, 2) := by decide +kernel
theorem dX7_ranked_74 : decode cX7_ranked 74 = .ok (.iadd, 1) := by decide +kernel
theorem dX7_ranked_75 : decode cX7_ranked 75 = .ok (.iaload, 1) := by decide +kernel
theorem dX7_ranked_76 : decode cX7_ranked 76 = .ok (.isub, 1) := by decide +kernel
theorem dX7_ranked_77 : decode cX7_ranked 77 = .ok (.istore 7, 2) := by decide +kernel
theorem dX7_ranked_79 : decode cX7_ranked 79 = .ok (.iload 5, 2) := by decide +kernel
theorem dX7_ranked_81 : decode cX7_ranked 81 = .ok (.iload 7, 2) := by decide +kernel
theorem dX7_ranked_83 : decode cX7_ranked 83 = .ok (.ifCond .gt 15, 3) := by decide +kernel
theorem dX7_ranked_86 : decode cX7_ranked 86 = .ok (.iload 7, 2) := by decide +kernel
theorem dX7_ranked_88 : decode cX7_ranked 88 = .ok (.ifCond .ne 14, 3) := by decide +kernel
theorem dX7_ranked_91 : decode cX7_ranked 91 = .ok (.iload 6, 2) := by decide +kernel
theorem dX7_ranked_93 : decode cX7_ranked 93 = .ok (.iload 4, 2) := by decide +kernel
theorem dX7_ranked_95 : decode cX7_ranked 95 = .ok (.if_icmp .ge 7, 3) := by decide +kernel
theorem dX7_ranked_98 : decode cX7_ranked 98 = .ok (.iconst 1, 1) := by decide +kernel
theorem dX7_ranked_99 : decode cX7_ranked 99 = .ok (.goto 4, 3) := by decide +kernel
theorem dX7_ranked_102 : decode cX7_ranked 102 = .ok (.iconst 0, 1) := by decide +kernel
theorem dX7_ranked_103 : decode cX7_ranked 103 = .ok (.iadd, 1) := by decide +kernel
theorem dX7_ranked_104 : decode cX7_ranked 104 = .ok (.istore 5, 2) := by decide +kernel
theorem dX7_ranked_106 : decode cX7_ranked 106 = .ok (.iinc 6 1, 3) := by decide +kernel
theorem dX7_ranked_109 : decode cX7_ranked 109 = .ok (.goto (-62), 3) := by decide +kernel
theorem dX7_ranked_112 : decode cX7_ranked 112 = .ok (.iload 5, 2) := by decide +kernel
theorem dX7_ranked_114 : decode cX7_ranked 114 = .ok (.iload_n 2, 1) := by decide +kernel
theorem dX7_ranked_115 : decode cX7_ranked 115 = .ok (.if_icmp .ne 10, 3) := by decide +kernel
theorem dX7_ranked_118 : decode cX7_ranked 118 = .ok (.aload_n 0, 1) := by decide +kernel
theorem dX7_ranked_119 : decode cX7_ranked 119 = .ok (.iload 4, 2) := by decide +kernel
theorem dX7_ranked_121 : decode cX7_ranked 121 = .ok (.invokevirtual 69, 3) := by decide +kernel
theorem dX7_ranked_124 : decode cX7_ranked 124 = .ok (.ireturn, 1) := by decide +kernel
theorem dX7_ranked_125 : decode cX7_ranked 125 = .ok (.iinc 4 1, 3) := by decide +kernel
theorem dX7_ranked_128 : decode cX7_ranked 128 = .ok (.goto (-98), 3) := by decide +kernel
theorem dX7_ranked_131 : decode cX7_ranked 131 = .ok (.aload_n 0, 1) := by decide +kernel
theorem dX7_ranked_132 : decode cX7_ranked 132 = .ok (.iconst 2, 1) := by decide +kernel
theorem dX7_ranked_133 : decode cX7_ranked 133 = .ok (.invokevirtual 51, 3) := by decide +kernel
theorem dX7_ranked_136 : decode cX7_ranked 136 = .ok (.ireturn, 1) := by decide +kernel
theorem dX7_isRight_0 : decode cX7_isRight 0 = .ok (.aload_n 0, 1) := by decide +kernel
theorem dX7_isRight_1 : decode cX7_isRight 1 = .ok (.iconst 0, 1) := by decide +kernel
theorem dX7_isRight_2 : decode cX7_isRight 2 = .ok (.putfield 42, 3) := by decide +kernel
theorem dX7_isRight_5 : decode cX7_isRight 5 = .ok (.iconst 1, 1) := by decide +kernel
theorem dX7_isRight_6 : decode cX7_isRight 6 = .ok (.ireturn, 1) := by decide +kernel
theorem dX7_writes_0 : decode cX7_writes 0 = .ok (.aload_n 0, 1) := by decide +kernel
theorem dX7_writes_1 : decode cX7_writes 1 = .ok (.getfield 32, 3) := by decide +kernel
theorem dX7_writes_4 : decode cX7_writes 4 = .ok (.aload_n 0, 1) := by decide +kernel
theorem dX7_writes_5 : decode cX7_writes 5 = .ok (.getfield 175, 3) := by decide +kernel
theorem dX7_writes_8 : decode cX7_writes 8 = .ok (.iload_n 1, 1) := by decide +kernel
theorem dX7_writes_9 : decode cX7_writes 9 = .ok (.i2c, 1) := by decide +kernel
theorem dX7_writes_10 : decode cX7_writes 10 = .ok (.castore, 1) := by decide +kernel
theorem dX7_writes_11 : decode cX7_writes 11 = .ok (.aload_n 0, 1) := by decide +kernel
theorem dX7_writes_12 : decode cX7_writes 12 = .ok (.dup, 1) := by decide +kernel
theorem dX7_writes_13 : decode cX7_writes 13 = .ok (.getfield 175, 3) := by decide +kernel
theorem dX7_writes_16 : decode cX7_writes 16 = .ok (.iconst 1, 1) := by decide +kernel
theorem dX7_writes_17 : decode cX7_writes 17 = .ok (.iadd, 1) := by decide +kernel
theorem dX7_writes_18 : decode cX7_writes 18 = .ok (.putfield 175, 3) := by decide +kernel
theorem dX7_writes_21 : decode cX7_writes 21 = .ok (.return_, 1) := by decide +kernel
set_option maxRecDepth 20000 in
theorem ggX7_writesBehind_X7_writes : GoodIn wsX7_writesBehind wsX7_writes := goodIn_ca (goodIn_r _ [5, 6, 7, 8, 9, 10, 11, 12, 13, 14, 15, 16, 17, 18, 19, 20, 21, 22, 23, 24, 25] (by decide +kernel) (by decide +kernel)) (goodIn_sub (fun _ h => List.mem_cons_of_mem _ (List.mem_append_right _ h)) (by decide +kernel))
set_option maxRecDepth 20000 in
theorem gX7_writesBehind_X7_writes : GoodIn wsX7_writesBehind (wsV RX7 178 RX7 yX7_writes wsX7_writes) := goodIn_app (goodIn_of _ (by decide +kernel)) ggX7_writesBehind_X7_writes
theorem dX7_writesBehind_0 : decode cX7_writesBehind 0 = .ok (.aload_n 0, 1) := by decide +kernel
theorem dX7_writesBehind_1 : decode cX7_writesBehind 1 = .ok (.iload_n 1, 1) := by decide +kernel
theorem dX7_writesBehind_2 : decode cX7_writesBehind 2 = .ok (.invokevirtual 178, 3) := by decide +kernel
theorem dX7_writesBehind_5 : decode cX7_writesBehind 5 = .ok (.aload_n 0, 1) := by decide +kernel
theorem dX7_writesBehind_6 : decode cX7_writesBehind 6 = .ok (.bipush 48, 2) := by decide +kernel
theorem dX7_writesBehind_8 : decode cX7_writesBehind 8 = .ok (.iload_n 2, 1) := by decide +kernel
theorem dX7_writesBehind_9 : decode cX7_writesBehind 9 = .ok (.iadd, 1) := by decide +kernel
theorem dX7_writesBehind_10 : decode cX7_writesBehind 10 = .ok (.invokevirtual 178, 3) := by decide +kernel
theorem dX7_writesBehind_13 : decode cX7_writesBehind 13 = .ok (.return_, 1) := by decide +kernel
set_option maxRecDepth 20000 in
theorem ggX7_line_X7_isDoor : GoodIn wsX7_line wsX7_isDoor := goodIn_ca (goodIn_r _ [7, 2, 8, 9, 6, 10, 40, 41, 42, 43, 44, 45, 46, 47, 48, 49, 50, 51, 52, 53, 54, 55, 56, 57] (by decide +kernel) (by decide +kernel)) (goodIn_sub (fun _ h => List.mem_cons_of_mem _ (List.mem_append_right _ h)) (by decide +kernel))
set_option maxRecDepth 20000 in
theorem gX7_line_X7_isDoor : GoodIn wsX7_line (wsV RX7 112 RX7 yX7_isDoor wsX7_isDoor) := goodIn_app (goodIn_of _ (by decide +kernel)) ggX7_line_X7_isDoor
set_option maxRecDepth 20000 in
theorem ggX7_line_X7_fails : GoodIn wsX7_line wsX7_fails := goodIn_r _ [14, 15, 40, 41, 42, 43, 44, 45, 46, 47, 48, 49, 50, 51, 52, 53, 54, 55, 56, 57] (by decide +kernel) (by decide +kernel)
set_option maxRecDepth 20000 in
theorem gX7_line_X7_fails : GoodIn wsX7_line (wsV RX7 51 RX7 yX7_fails wsX7_fails) := goodIn_app (goodIn_of _ (by decide +kernel)) ggX7_line_X7_fails
set_option maxRecDepth 20000 in
theorem ggX7_line_X7_writes : GoodIn wsX7_line wsX7_writes := goodIn_ca (goodIn_r _ [19, 20, 1, 40, 41, 42, 43, 44, 45, 46, 47, 48, 49, 50, 51, 52, 53, 54, 55, 56, 57] (by decide +kernel) (by decide +kernel)) (goodIn_sub (fun _ h => List.mem_cons_of_mem _ (List.mem_append_right _ h)) (by decide +kernel))
set_option maxRecDepth 20000 in
theorem gX7_line_X7_writes : GoodIn wsX7_line (wsV RX7 178 RX7 yX7_writes wsX7_writes) := goodIn_app (goodIn_of _ (by decide +kernel)) ggX7_line_X7_writes
set_option maxRecDepth 20000 in
theorem ggX7_line_X7_endingOf : GoodIn wsX7_line wsX7_endingOf := goodIn_ca (goodIn_r _ [24, 2, 25, 26, 27, 6, 28, 29, 30, 31, 40, 41, 42, 43, 44, 45, 46, 47, 48, 49, 50, 51, 52, 53, 54, 55, 56, 57] (by decide +kernel) (by decide +kernel)) (goodIn_sub (fun _ h => List.mem_cons_of_mem _ (List.mem_append_right _ h)) (by decide +kernel))
set_option maxRecDepth 20000 in
theorem gX7_line_X7_endingOf : GoodIn wsX7_line (wsV RX7 134 RX7 yX7_endingOf wsX7_endingOf) := goodIn_app (goodIn_of _ (by decide +kernel)) ggX7_line_X7_endingOf
set_option maxRecDepth 20000 in
theorem ggX7_line_X7_writesBehind : GoodIn wsX7_line wsX7_writesBehind := goodIn_ca (goodIn_r _ [35, 16, 17, 18, 6, 19, 20, 1, 40, 41, 42, 43, 44, 45, 46, 47, 48, 49, 50, 51, 52, 53, 54, 55, 56, 57] (by decide +kernel) (by decide +kernel)) (goodIn_sub (fun _ h => List.mem_cons_of_mem _ (List.mem_append_right _ h)) (by decide +kernel))
set_option maxRecDepth 20000 in
theorem gX7_line_X7_writesBehind : GoodIn wsX7_line (wsV RX7 181 RX7 yX7_writesBehind wsX7_writesBehind) := goodIn_app (goodIn_of _ (by decide +kernel)) ggX7_line_X7_writesBehind
set_option maxRecDepth 20000 in
theorem ggX7_line_X7_done : GoodIn wsX7_line wsX7_done := goodIn_r _ [39, 15, 40, 41, 42, 43, 44, 45, 46, 47, 48, 49, 50, 51, 52, 53, 54, 55, 56, 57] (by decide +kernel) (by decide +kernel)
set_option maxRecDepth 20000 in
theorem gX7_line_X7_done : GoodIn wsX7_line (wsV RX7 69 RX7 yX7_done wsX7_done) := goodIn_app (goodIn_of _ (by decide +kernel)) ggX7_line_X7_done
theorem dX7_line_0 : decode cX7_line 0 = .ok (.aload_n 0, 1) := by decide +kernel
theorem dX7_line_1 : decode cX7_line 1 = .ok (.iload_n 1, 1) := by decide +kernel
theorem dX7_line_2 : decode cX7_line 2 = .ok (.invokevirtual 112, 3) := by decide +kernel
theorem dX7_line_5 : decode cX7_line 5 = .ok (.ifCond .ne 9, 3) := by decide +kernel
theorem dX7_line_8 : decode cX7_line 8 = .ok (.aload_n 0, 1) := by decide +kernel
theorem dX7_line_9 : decode cX7_line 9 = .ok (.iconst 1, 1) := by decide +kernel
theorem dX7_line_10 : decode cX7_line 10 = .ok (.invokevirtual 51, 3) := by decide +kernel
theorem dX7_line_13 : decode cX7_line 13 = .ok (.ireturn, 1) := by decide +kernel
theorem dX7_line_14 : decode cX7_line 14 = .ok (.aload_n 0, 1) := by decide +kernel
theorem dX7_line_15 : decode cX7_line 15 = .ok (.iconst 0, 1) := by decide +kernel
theorem dX7_line_16 : decode cX7_line 16 = .ok (.putfield 175, 3) := by decide +kernel
theorem dX7_line_19 : decode cX7_line 19 = .ok (.aload_n 0, 1) := by decide +kernel
theorem dX7_line_20 : decode cX7_line 20 = .ok (.getfield 7, 3) := by decide +kernel
theorem dX7_line_23 : decode cX7_line 23 = .ok (.bipush 40, 2) := by decide +kernel
theorem dX7_line_25 : decode cX7_line 25 = .ok (.iload_n 1, 1) := by decide +kernel
theorem dX7_line_26 : decode cX7_line 26 = .ok (.iadd, 1) := by decide +kernel
theorem dX7_line_27 : decode cX7_line 27 = .ok (.iaload, 1) := by decide +kernel
theorem dX7_line_28 : decode cX7_line 28 = .ok (.istore_n 2, 1) := by decide +kernel
theorem dX7_line_29 : decode cX7_line 29 = .ok (.aload_n 0, 1) := by decide +kernel
theorem dX7_line_30 : decode cX7_line 30 = .ok (.iload_n 2, 1) := by decide +kernel
theorem dX7_line_31 : decode cX7_line 31 = .ok (.ifCond .ne 8, 3) := by decide +kernel
theorem dX7_line_34 : decode cX7_line 34 = .ok (.bipush 111, 2) := by decide +kernel
theorem dX7_line_36 : decode cX7_line 36 = .ok (.goto 15, 3) := by decide +kernel
theorem dX7_line_39 : decode cX7_line 39 = .ok (.iload_n 2, 1) := by decide +kernel
theorem dX7_line_40 : decode cX7_line 40 = .ok (.iconst 1, 1) := by decide +kernel
theorem dX7_line_41 : decode cX7_line 41 = .ok (.if_icmp .ne 8, 3) := by decide +kernel
theorem dX7_line_44 : decode cX7_line 44 = .ok (.bipush 105, 2) := by decide +kernel
theorem dX7_line_46 : decode cX7_line 46 = .ok (.goto 5, 3) := by decide +kernel
theorem dX7_line_49 : decode cX7_line 49 = .ok (.bipush 103, 2) := by decide +kernel
theorem dX7_line_51 : decode cX7_line 51 = .ok (.invokevirtual 178, 3) := by decide +kernel
theorem dX7_line_54 : decode cX7_line 54 = .ok (.aload_n 0, 1) := by decide +kernel
theorem dX7_line_55 : decode cX7_line 55 = .ok (.aload_n 0, 1) := by decide +kernel
theorem dX7_line_56 : decode cX7_line 56 = .ok (.getfield 7, 3) := by decide +kernel
theorem dX7_line_59 : decode cX7_line 59 = .ok (.bipush 48, 2) := by decide +kernel
theorem dX7_line_61 : decode cX7_line 61 = .ok (.iload_n 1, 1) := by decide +kernel
theorem dX7_line_62 : decode cX7_line 62 = .ok (.iadd, 1) := by decide +kernel
theorem dX7_line_63 : decode cX7_line 63 = .ok (.iaload, 1) := by decide +kernel
theorem dX7_line_64 : decode cX7_line 64 = .ok (.iconst 1, 1) := by decide +kernel
theorem dX7_line_65 : decode cX7_line 65 = .ok (.if_icmp .ne 8, 3) := by decide +kernel
theorem dX7_line_68 : decode cX7_line 68 = .ok (.bipush 100, 2) := by decide +kernel
theorem dX7_line_70 : decode cX7_line 70 = .ok (.goto 5, 3) := by decide +kernel
theorem dX7_line_73 : decode cX7_line 73 = .ok (.bipush 115, 2) := by decide +kernel
theorem dX7_line_75 : decode cX7_line 75 = .ok (.invokevirtual 178, 3) := by decide +kernel
theorem dX7_line_78 : decode cX7_line 78 = .ok (.aload_n 0, 1) := by decide +kernel
theorem dX7_line_79 : decode cX7_line 79 = .ok (.bipush 97, 2) := by decide +kernel
theorem dX7_line_81 : decode cX7_line 81 = .ok (.aload_n 0, 1) := by decide +kernel
theorem dX7_line_82 : decode cX7_line 82 = .ok (.iload_n 1, 1) := by decide +kernel
theorem dX7_line_83 : decode cX7_line 83 = .ok (.invokevirtual 134, 3) := by decide +kernel
theorem dX7_line_86 : decode cX7_line 86 = .ok (.iadd, 1) := by decide +kernel
theorem dX7_line_87 : decode cX7_line 87 = .ok (.aload_n 0, 1) := by decide +kernel
theorem dX7_line_88 : decode cX7_line 88 = .ok (.getfield 7, 3) := by decide +kernel
theorem dX7_line_91 : decode cX7_line 91 = .ok (.bipush 88, 2) := by decide +kernel
theorem dX7_line_93 : decode cX7_line 93 = .ok (.iload_n 1, 1) := by decide +kernel
theorem dX7_line_94 : decode cX7_line 94 = .ok (.iadd, 1) := by decide +kernel
theorem dX7_line_95 : decode cX7_line 95 = .ok (.iaload, 1) := by decide +kernel
theorem dX7_line_96 : decode cX7_line 96 = .ok (.invokevirtual 181, 3) := by decide +kernel
theorem dX7_line_99 : decode cX7_line 99 = .ok (.aload_n 0, 1) := by decide +kernel
theorem dX7_line_100 : decode cX7_line 100 = .ok (.bipush 45, 2) := by decide +kernel
theorem dX7_line_102 : decode cX7_line 102 = .ok (.aload_n 0, 1) := by decide +kernel
theorem dX7_line_103 : decode cX7_line 103 = .ok (.getfield 7, 3) := by decide +kernel
theorem dX7_line_106 : decode cX7_line 106 = .ok (.bipush 96, 2) := by decide +kernel
theorem dX7_line_108 : decode cX7_line 108 = .ok (.iload_n 1, 1) := by decide +kernel
theorem dX7_line_109 : decode cX7_line 109 = .ok (.iadd, 1) := by decide +kernel
theorem dX7_line_110 : decode cX7_line 110 = .ok (.iaload, 1) := by decide +kernel
theorem dX7_line_111 : decode cX7_line 111 = .ok (.invokevirtual 181, 3) := by decide +kernel
theorem dX7_line_114 : decode cX7_line 114 = .ok (.aload_n 0, 1) := by decide +kernel
theorem dX7_line_115 : decode cX7_line 115 = .ok (.getfield 7, 3) := by decide +kernel
theorem dX7_line_118 : decode cX7_line 118 = .ok (.bipush 56, 2) := by decide +kernel
theorem dX7_line_120 : decode cX7_line 120 = .ok (.iload_n 1, 1) := by decide +kernel
theorem dX7_line_121 : decode cX7_line 121 = .ok (.iadd, 1) := by decide +kernel
theorem dX7_line_122 : decode cX7_line 122 = .ok (.iaload, 1) := by decide +kernel
theorem dX7_line_123 : decode cX7_line 123 = .ok (.ifCond .le 20, 3) := by decide +kernel
theorem dX7_line_126 : decode cX7_line 126 = .ok (.aload_n 0, 1) := by decide +kernel
theorem dX7_line_127 : decode cX7_line 127 = .ok (.bipush 64, 2) := by decide +kernel
theorem dX7_line_129 : decode cX7_line 129 = .ok (.aload_n 0, 1) := by decide +kernel
theorem dX7_line_130 : decode cX7_line 130 = .ok (.getfield 7, 3) := by decide +kernel
theorem dX7_line_133 : decode cX7_line 133 = .ok (.bipush 56, 2) := by decide +kernel
theorem dX7_line_135 : decode cX7_line 135 = .ok (.iload_n 1, 1) := by decide +kernel
theorem dX7_line_136 : decode cX7_line 136 = .ok (.iadd, 1) := by decide +kernel
theorem dX7_line_137 : decode cX7_line 137 = .ok (.iaload, 1) := by decide +kernel
theorem dX7_line_138 : decode cX7_line 138 = .ok (.iconst 1, 1) := by decide +kernel
theorem dX7_line_139 : decode cX7_line 139 = .ok (.isub, 1) := by decide +kernel
theorem dX7_line_140 : decode cX7_line 140 = .ok (.invokevirtual 181, 3) := by decide +kernel
theorem dX7_line_143 : decode cX7_line 143 = .ok (.aload_n 0, 1) := by decide +kernel
theorem dX7_line_144 : decode cX7_line 144 = .ok (.getfield 7, 3) := by decide +kernel
theorem dX7_line_147 : decode cX7_line 147 = .ok (.bipush 80, 2) := by decide +kernel
theorem dX7_line_149 : decode cX7_line 149 = .ok (.iload_n 1, 1) := by decide +kernel
theorem dX7_line_150 : decode cX7_line 150 = .ok (.iadd, 1) := by decide +kernel
theorem dX7_line_151 : decode cX7_line 151 = .ok (.iaload, 1) := by decide +kernel
theorem dX7_line_152 : decode cX7_line 152 = .ok (.iconst 1, 1) := by decide +kernel
theorem dX7_line_153 : decode cX7_line 153 = .ok (.if_icmp .ne 12, 3) := by decide +kernel
theorem dX7_line_156 : decode cX7_line 156 = .ok (.aload_n 0, 1) := by decide +kernel
theorem dX7_line_157 : decode cX7_line 157 = .ok (.bipush 43, 2) := by decide +kernel
theorem dX7_line_159 : decode cX7_line 159 = .ok (.invokevirtual 178, 3) := by decide +kernel
theorem dX7_line_162 : decode cX7_line 162 = .ok (.goto 30, 3) := by decide +kernel
theorem dX7_line_165 : decode cX7_line 165 = .ok (.aload_n 0, 1) := by decide +kernel
theorem dX7_line_166 : decode cX7_line 166 = .ok (.getfield 7, 3) := by decide +kernel
theorem dX7_line_169 : decode cX7_line 169 = .ok (.bipush 64, 2) := by decide +kernel
theorem dX7_line_171 : decode cX7_line 171 = .ok (.iload_n 1, 1) := by decide +kernel
theorem dX7_line_172 : decode cX7_line 172 = .ok (.iadd, 1) := by decide +kernel
theorem dX7_line_173 : decode cX7_line 173 = .ok (.iaload, 1) := by decide +kernel
theorem dX7_line_174 : decode cX7_line 174 = .ok (.ifCond .le 18, 3) := by decide +kernel
theorem dX7_line_177 : decode cX7_line 177 = .ok (.aload_n 0, 1) := by decide +kernel
theorem dX7_line_178 : decode cX7_line 178 = .ok (.bipush 33, 2) := by decide +kernel
theorem dX7_line_180 : decode cX7_line 180 = .ok (.aload_n 0, 1) := by decide +kernel
theorem dX7_line_181 : decode cX7_line 181 = .ok (.getfield 7, 3) := by decide +kernel
theorem dX7_line_184 : decode cX7_line 184 = .ok (.bipush 64, 2) := by decide +kernel
theorem dX7_line_186 : decode cX7_line 186 = .ok (.iload_n 1, 1) := by decide +kernel
theorem dX7_line_187 : decode cX7_line 187 = .ok (.iadd, 1) := by decide +kernel
theorem dX7_line_188 : decode cX7_line 188 = .ok (.iaload, 1) := by decide +kernel
theorem dX7_line_189 : decode cX7_line 189 = .ok (.invokevirtual 181, 3) := by decide +kernel
theorem dX7_line_192 : decode cX7_line 192 = .ok (.aload_n 0, 1) := by decide +kernel
theorem dX7_line_193 : decode cX7_line 193 = .ok (.aload_n 0, 1) := by decide +kernel
theorem dX7_line_194 : decode cX7_line 194 = .ok (.getfield 175, 3) := by decide +kernel
theorem dX7_line_197 : decode cX7_line 197 = .ok (.invokevirtual 69, 3) := by decide +kernel
theorem dX7_line_200 : decode cX7_line 200 = .ok (.ireturn, 1) := by decide +kernel
set_option maxRecDepth 20000 in
theorem ggX7_writesEndings_X7_endingAt : GoodIn wsX7_writesEndings wsX7_endingAt := goodIn_r _ [5] (by decide +kernel) (by decide +kernel)
set_option maxRecDepth 20000 in
theorem gX7_writesEndings_X7_endingAt : GoodIn wsX7_writesEndings (va_wsS RX7 62 yX7_endingAt wsX7_endingAt) := goodIn_app (goodIn_of _ (by decide +kernel)) ggX7_writesEndings_X7_endingAt
set_option maxRecDepth 20000 in
theorem ggX7_writesEndings_X7_writes : GoodIn wsX7_writesEndings wsX7_writes := goodIn_ca (goodIn_r _ [9, 10, 11, 12, 13, 14, 15, 16, 17, 18, 19, 20, 21, 22, 23, 24, 25, 26, 27, 28, 29] (by decide +kernel) (by decide +kernel)) (goodIn_sub (fun _ h => List.mem_cons_of_mem _ (List.mem_append_right _ h)) (by decide +kernel))
set_option maxRecDepth 20000 in
theorem gX7_writesEndings_X7_writes : GoodIn wsX7_writesEndings (wsV RX7 178 RX7 yX7_writes wsX7_writes) := goodIn_app (goodIn_of _ (by decide +kernel)) ggX7_writesEndings_X7_writes
theorem dX7_writesEndings_0 : decode cX7_writesEndings 0 = .ok (.iconst 0, 1) := by decide +kernel
theorem dX7_writesEndings_1 : decode cX7_writesEndings 1 = .ok (.istore_n 3, 1) := by decide +kernel
theorem dX7_writesEndings_2 : decode cX7_writesEndings 2 = .ok (.iload_n 3, 1) := by decide +kernel
theorem dX7_writesEndings_3 : decode cX7_writesEndings 3 = .ok (.iconst 4, 1) := by decide +kernel
theorem dX7_writesEndings_4 : decode cX7_writesEndings 4 = .ok (.if_icmp .ge 27, 3) := by decide +kernel
theorem dX7_writesEndings_7 : decode cX7_writesEndings 7 = .ok (.aload_n 0, 1) := by decide +kernel
theorem dX7_writesEndings_8 : decode cX7_writesEndings 8 = .ok (.bipush 97, 2) := by decide +kernel
theorem dX7_writesEndings_10 : decode cX7_writesEndings 10 = .ok (.aload_n 0, 1) := by decide +kernel
theorem dX7_writesEndings_11 : decode cX7_writesEndings 11 = .ok (.getfield 7, 3) := by decide +kernel
theorem dX7_writesEndings_14 : decode cX7_writesEndings 14 = .ok (.iload_n 1, 1) := by decide +kernel
theorem dX7_writesEndings_15 : decode cX7_writesEndings 15 = .ok (.iload_n 3, 1) := by decide +kernel
theorem dX7_writesEndings_16 : decode cX7_writesEndings 16 = .ok (.iload_n 2, 1) := by decide +kernel
theorem dX7_writesEndings_17 : decode cX7_writesEndings 17 = .ok (.invokestatic 62, 3) := by decide +kernel
theorem dX7_writesEndings_20 : decode cX7_writesEndings 20 = .ok (.iaload, 1) := by decide +kernel
theorem dX7_writesEndings_21 : decode cX7_writesEndings 21 = .ok (.iadd, 1) := by decide +kernel
theorem dX7_writesEndings_22 : decode cX7_writesEndings 22 = .ok (.invokevirtual 178, 3) := by decide +kernel
theorem dX7_writesEndings_25 : decode cX7_writesEndings 25 = .ok (.iinc 3 1, 3) := by decide +kernel
theorem dX7_writesEndings_28 : decode cX7_writesEndings 28 = .ok (.goto (-26), 3) := by decide +kernel
theorem dX7_writesEndings_31 : decode cX7_writesEndings 31 = .ok (.return_, 1) := by decide +kernel
set_option maxRecDepth 20000 in
theorem ggX7_endings_X7_isThird : GoodIn wsX7_endings wsX7_isThird := goodIn_r _ [5, 6, 7, 4, 8] (by decide +kernel) (by decide +kernel)
set_option maxRecDepth 20000 in
theorem gX7_endings_X7_isThird : GoodIn wsX7_endings (va_wsS RX7 79 yX7_isThird wsX7_isThird) := goodIn_app (goodIn_of _ (by decide +kernel)) ggX7_endings_X7_isThird
set_option maxRecDepth 20000 in
theorem ggX7_endings_X7_fails : GoodIn wsX7_endings wsX7_fails := goodIn_r _ [12, 13, 31, 32, 33, 34, 35, 36, 37, 38, 39, 40, 41, 42, 43, 44, 45, 46, 47, 48] (by decide +kernel) (by decide +kernel)
set_option maxRecDepth 20000 in
theorem gX7_endings_X7_fails : GoodIn wsX7_endings (wsV RX7 51 RX7 yX7_fails wsX7_fails) := goodIn_app (goodIn_of _ (by decide +kernel)) ggX7_endings_X7_fails
set_option maxRecDepth 20000 in
theorem ggX7_endings_X7_writesEndings : GoodIn wsX7_endings wsX7_writesEndings := goodIn_ca (goodIn_r _ [17, 18, 19, 20, 4, 21, 22, 23, 24, 25, 26, 1, 31, 32, 33, 34, 35, 36, 37, 38, 39, 40, 41, 42, 43, 44, 45, 46, 47, 48] (by decide +kernel) (by decide +kernel)) (goodIn_sub (fun _ h => List.mem_cons_of_mem _ (List.mem_append_right _ h)) (by decide +kernel))
set_option maxRecDepth 20000 in
theorem gX7_endings_X7_writesEndings : GoodIn wsX7_endings (wsV RX7 185 RX7 yX7_writesEndings wsX7_writesEndings) := goodIn_app (goodIn_of _ (by decide +kernel)) ggX7_endings_X7_writesEndings
set_option maxRecDepth 20000 in
theorem ggX7_endings_X7_writes : GoodIn wsX7_endings wsX7_writes := goodIn_ca (goodIn_r _ [25, 26, 1, 31, 32, 33, 34, 35, 36, 37, 38, 39, 40, 41, 42, 43, 44, 45, 46, 47, 48] (by decide +kernel) (by decide +kernel)) (goodIn_sub (fun _ h => List.mem_cons_of_mem _ (List.mem_append_right _ h)) (by decide +kernel))
set_option maxRecDepth 20000 in
theorem gX7_endings_X7_writes : GoodIn wsX7_endings (wsV RX7 178 RX7 yX7_writes wsX7_writes) := goodIn_app (goodIn_of _ (by decide +kernel)) ggX7_endings_X7_writes
set_option maxRecDepth 20000 in
theorem ggX7_endings_X7_done : GoodIn wsX7_endings wsX7_done := goodIn_r _ [30, 13, 31, 32, 33, 34, 35, 36, 37, 38, 39, 40, 41, 42, 43, 44, 45, 46, 47, 48] (by decide +kernel) (by decide +kernel)
set_option maxRecDepth 20000 in
theorem gX7_endings_X7_done : GoodIn wsX7_endings (wsV RX7 69 RX7 yX7_done wsX7_done) := goodIn_app (goodIn_of _ (by decide +kernel)) ggX7_endings_X7_done
theorem dX7_endings_0 : decode cX7_endings 0 = .ok (.iload_n 1, 1) := by decide +kernel
theorem dX7_endings_1 : decode cX7_endings 1 = .ok (.invokestatic 79, 3) := by decide +kernel
theorem dX7_endings_4 : decode cX7_endings 4 = .ok (.ifCond .ne 9, 3) := by decide +kernel
theorem dX7_endings_7 : decode cX7_endings 7 = .ok (.aload_n 0, 1) := by decide +kernel
theorem dX7_endings_8 : decode cX7_endings 8 = .ok (.iconst 1, 1) := by decide +kernel
theorem dX7_endings_9 : decode cX7_endings 9 = .ok (.invokevirtual 51, 3) := by decide +kernel
theorem dX7_endings_12 : decode cX7_endings 12 = .ok (.ireturn, 1) := by decide +kernel
theorem dX7_endings_13 : decode cX7_endings 13 = .ok (.aload_n 0, 1) := by decide +kernel
theorem dX7_endings_14 : decode cX7_endings 14 = .ok (.iconst 0, 1) := by decide +kernel
theorem dX7_endings_15 : decode cX7_endings 15 = .ok (.putfield 175, 3) := by decide +kernel
theorem dX7_endings_18 : decode cX7_endings 18 = .ok (.aload_n 0, 1) := by decide +kernel
theorem dX7_endings_19 : decode cX7_endings 19 = .ok (.iload_n 1, 1) := by decide +kernel
theorem dX7_endings_20 : decode cX7_endings 20 = .ok (.iconst 0, 1) := by decide +kernel
theorem dX7_endings_21 : decode cX7_endings 21 = .ok (.invokevirtual 185, 3) := by decide +kernel
theorem dX7_endings_24 : decode cX7_endings 24 = .ok (.aload_n 0, 1) := by decide +kernel
theorem dX7_endings_25 : decode cX7_endings 25 = .ok (.bipush 47, 2) := by decide +kernel
theorem dX7_endings_27 : decode cX7_endings 27 = .ok (.invokevirtual 178, 3) := by decide +kernel
theorem dX7_endings_30 : decode cX7_endings 30 = .ok (.aload_n 0, 1) := by decide +kernel
theorem dX7_endings_31 : decode cX7_endings 31 = .ok (.iload_n 1, 1) := by decide +kernel
theorem dX7_endings_32 : decode cX7_endings 32 = .ok (.iconst 1, 1) := by decide +kernel
theorem dX7_endings_33 : decode cX7_endings 33 = .ok (.invokevirtual 185, 3) := by decide +kernel
theorem dX7_endings_36 : decode cX7_endings 36 = .ok (.aload_n 0, 1) := by decide +kernel
theorem dX7_endings_37 : decode cX7_endings 37 = .ok (.aload_n 0, 1) := by decide +kernel
theorem dX7_endings_38 : decode cX7_endings 38 = .ok (.getfield 175, 3) := by decide +kernel
theorem dX7_endings_41 : decode cX7_endings 41 = .ok (.invokevirtual 69, 3) := by decide +kernel
theorem dX7_endings_44 : decode cX7_endings 44 = .ok (.ireturn, 1) := by decide +kernel
set_option maxRecDepth 20000 in
theorem ggX7_character_X7_in : GoodIn wsX7_character wsX7_in := goodIn_r _ [7] (by decide +kernel) (by decide +kernel)
set_option maxRecDepth 20000 in
theorem gX7_character_X7_in : GoodIn wsX7_character (va_wsS RX7 72 yX7_in wsX7_in) := goodIn_app (goodIn_of _ (by decide +kernel)) ggX7_character_X7_in
theorem dX7_character_0 : decode cX7_character 0 = .ok (.aload_n 0, 1) := by decide +kernel
theorem dX7_character_1 : decode cX7_character 1 = .ok (.iload_n 1, 1) := by decide +kernel
theorem dX7_character_2 : decode cX7_character 2 = .ok (.iconst 0, 1) := by decide +kernel
theorem dX7_character_3 : decode cX7_character 3 = .ok (.aload_n 0, 1) := by decide +kernel
theorem dX7_character_4 : decode cX7_character 4 = .ok (.getfield 175, 3) := by decide +kernel
theorem dX7_character_7 : decode cX7_character 7 = .ok (.iconst 1, 1) := by decide +kernel
theorem dX7_character_8 : decode cX7_character 8 = .ok (.isub, 1) := by decide +kernel
theorem dX7_character_9 : decode cX7_character 9 = .ok (.invokestatic 72, 3) := by decide +kernel
theorem dX7_character_12 : decode cX7_character 12 = .ok (.ifCond .eq 7, 3) := by decide +kernel
theorem dX7_character_15 : decode cX7_character 15 = .ok (.iconst 0, 1) := by decide +kernel
theorem dX7_character_16 : decode cX7_character 16 = .ok (.goto 4, 3) := by decide +kernel
theorem dX7_character_19 : decode cX7_character 19 = .ok (.iconst 1, 1) := by decide +kernel
theorem dX7_character_20 : decode cX7_character 20 = .ok (.putfield 42, 3) := by decide +kernel
theorem dX7_character_23 : decode cX7_character 23 = .ok (.aload_n 0, 1) := by decide +kernel
theorem dX7_character_24 : decode cX7_character 24 = .ok (.getfield 42, 3) := by decide +kernel
theorem dX7_character_27 : decode cX7_character 27 = .ok (.ifCond .ne 12, 3) := by decide +kernel
theorem dX7_character_30 : decode cX7_character 30 = .ok (.aload_n 0, 1) := by decide +kernel
theorem dX7_character_31 : decode cX7_character 31 = .ok (.getfield 32, 3) := by decide +kernel
theorem dX7_character_34 : decode cX7_character 34 = .ok (.iload_n 1, 1) := by decide +kernel
theorem dX7_character_35 : decode cX7_character 35 = .ok (.caload, 1) := by decide +kernel
theorem dX7_character_36 : decode cX7_character 36 = .ok (.goto 4, 3) := by decide +kernel
theorem dX7_character_39 : decode cX7_character 39 = .ok (.iconst 0, 1) := by decide +kernel
theorem dX7_character_40 : decode cX7_character 40 = .ok (.ireturn, 1) := by decide +kernel
set_option maxRecDepth 20000 in
theorem ggX7_refusal_X7_fails : GoodIn wsX7_refusal wsX7_fails := goodIn_r _ [7, 8, 13, 14, 15, 16, 17, 18, 19, 20, 21, 22, 23, 24, 25, 26, 27, 28, 29, 30] (by decide +kernel) (by decide +kernel)
set_option maxRecDepth 20000 in
theorem gX7_refusal_X7_fails : GoodIn wsX7_refusal (wsV RX7 51 RX7 yX7_fails wsX7_fails) := goodIn_app (goodIn_of _ (by decide +kernel)) ggX7_refusal_X7_fails
set_option maxRecDepth 20000 in
theorem ggX7_refusal_X7_done : GoodIn wsX7_refusal wsX7_done := goodIn_r _ [12, 8, 13, 14, 15, 16, 17, 18, 19, 20, 21, 22, 23, 24, 25, 26, 27, 28, 29, 30] (by decide +kernel) (by decide +kernel)
set_option maxRecDepth 20000 in
theorem gX7_refusal_X7_done : GoodIn wsX7_refusal (wsV RX7 69 RX7 yX7_done wsX7_done) := goodIn_app (goodIn_of _ (by decide +kernel)) ggX7_refusal_X7_done
theorem dX7_refusal_0 : decode cX7_refusal 0 = .ok (.aload_n 0, 1) := by decide +kernel
theorem dX7_refusal_1 : decode cX7_refusal 1 = .ok (.getfield 45, 3) := by decide +kernel
theorem dX7_refusal_4 : decode cX7_refusal 4 = .ok (.ifCond .ne 11, 3) := by decide +kernel
theorem dX7_refusal_7 : decode cX7_refusal 7 = .ok (.aload_n 0, 1) := by decide +kernel
theorem dX7_refusal_8 : decode cX7_refusal 8 = .ok (.iconst 1, 1) := by decide +kernel
theorem dX7_refusal_9 : decode cX7_refusal 9 = .ok (.invokevirtual 51, 3) := by decide +kernel
theorem dX7_refusal_12 : decode cX7_refusal 12 = .ok (.goto 22, 3) := by decide +kernel
theorem dX7_refusal_15 : decode cX7_refusal 15 = .ok (.aload_n 0, 1) := by decide +kernel
theorem dX7_refusal_16 : decode cX7_refusal 16 = .ok (.iload_n 1, 1) := by decide +kernel
theorem dX7_refusal_17 : decode cX7_refusal 17 = .ok (.ifCond .eq 10, 3) := by decide +kernel
theorem dX7_refusal_20 : decode cX7_refusal 20 = .ok (.aload_n 0, 1) := by decide +kernel
theorem dX7_refusal_21 : decode cX7_refusal 21 = .ok (.getfield 48, 3) := by decide +kernel
theorem dX7_refusal_24 : decode cX7_refusal 24 = .ok (.goto 7, 3) := by decide +kernel
theorem dX7_refusal_27 : decode cX7_refusal 27 = .ok (.aload_n 0, 1) := by decide +kernel
theorem dX7_refusal_28 : decode cX7_refusal 28 = .ok (.getfield 45, 3) := by decide +kernel
theorem dX7_refusal_31 : decode cX7_refusal 31 = .ok (.invokevirtual 69, 3) := by decide +kernel
theorem dX7_refusal_34 : decode cX7_refusal 34 = .ok (.ireturn, 1) := by decide +kernel
set_option maxRecDepth 20000 in
theorem ggX7_unlike_X7_oftenness : GoodIn wsX7_unlike wsX7_oftenness := goodIn_ca (goodIn_r _ [5, 6, 7, 8, 9, 10, 11, 12, 13, 14, 15, 16, 17, 18, 19, 20, 21, 22, 23, 24] (by decide +kernel) (by decide +kernel)) (goodIn_sub (fun _ h => List.mem_cons_of_mem _ (List.mem_append_right _ h)) (by decide +kernel))
set_option maxRecDepth 20000 in
theorem gX7_unlike_X7_oftenness : GoodIn wsX7_unlike (wsV RX7 141 RX7 yX7_oftenness wsX7_oftenness) := goodIn_app (goodIn_of _ (by decide +kernel)) ggX7_unlike_X7_oftenness
theorem dX7_unlike_0 : decode cX7_unlike 0 = .ok (.iconst 0, 1) := by decide +kernel
theorem dX7_unlike_1 : decode cX7_unlike 1 = .ok (.istore_n 1, 1) := by decide +kernel
theorem dX7_unlike_2 : decode cX7_unlike 2 = .ok (.iconst 0, 1) := by decide +kernel
theorem dX7_unlike_3 : decode cX7_unlike 3 = .ok (.istore_n 2, 1) := by decide +kernel
theorem dX7_unlike_4 : decode cX7_unlike 4 = .ok (.iload_n 2, 1) := by decide +kernel
theorem dX7_unlike_5 : decode cX7_unlike 5 = .ok (.bipush 26, 2) := by decide +kernel
theorem dX7_unlike_7 : decode cX7_unlike 7 = .ok (.if_icmp .ge 25, 3) := by decide +kernel
theorem dX7_unlike_10 : decode cX7_unlike 10 = .ok (.iload_n 1, 1) := by decide +kernel
theorem dX7_unlike_11 : decode cX7_unlike 11 = .ok (.aload_n 0, 1) := by decide +kernel
theorem dX7_unlike_12 : decode cX7_unlike 12 = .ok (.iload_n 2, 1) := by decide +kernel
theorem dX7_unlike_13 : decode cX7_unlike 13 = .ok (.invokevirtual 141, 3) := by decide +kernel
theorem dX7_unlike_16 : decode cX7_unlike 16 = .ok (.ifCond .le 7, 3) := by decide +kernel
theorem dX7_unlike_19 : decode cX7_unlike 19 = .ok (.iconst 1, 1) := by decide +kernel
theorem dX7_unlike_20 : decode cX7_unlike 20 = .ok (.goto 4, 3) := by decide +kernel
theorem dX7_unlike_23 : decode cX7_unlike 23 = .ok (.iconst 0, 1) := by decide +kernel
theorem dX7_unlike_24 : decode cX7_unlike 24 = .ok (.iadd, 1) := by decide +kernel
theorem dX7_unlike_25 : decode cX7_unlike 25 = .ok (.istore_n 1, 1) := by decide +kernel
theorem dX7_unlike_26 : decode cX7_unlike 26 = .ok (.iinc 2 1, 3) := by decide +kernel
theorem dX7_unlike_29 : decode cX7_unlike 29 = .ok (.goto (-25), 3) := by decide +kernel
theorem dX7_unlike_32 : decode cX7_unlike 32 = .ok (.iload_n 1, 1) := by decide +kernel
theorem dX7_unlike_33 : decode cX7_unlike 33 = .ok (.ireturn, 1) := by decide +kernel
set_option maxRecDepth 20000 in
theorem ggX7_account_X7_done : GoodIn wsX7_account wsX7_done := goodIn_r _ [8, 9, 26, 27, 28, 29, 30, 31, 32, 33, 34, 35, 36, 37, 38, 39, 40, 41, 42, 43] (by decide +kernel) (by decide +kernel)
set_option maxRecDepth 20000 in
theorem gX7_account_X7_done : GoodIn wsX7_account (wsV RX7 69 RX7 yX7_done wsX7_done) := goodIn_app (goodIn_of _ (by decide +kernel)) ggX7_account_X7_done
set_option maxRecDepth 20000 in
theorem ggX7_account_X7_many : GoodIn wsX7_account wsX7_many := goodIn_ca (goodIn_r _ [13, 1, 26, 27, 28, 29, 30, 31, 32, 33, 34, 35, 36, 37, 38, 39, 40, 41, 42, 43] (by decide +kernel) (by decide +kernel)) (goodIn_sub (fun _ h => List.mem_cons_of_mem _ (List.mem_append_right _ h)) (by decide +kernel))
set_option maxRecDepth 20000 in
theorem gX7_account_X7_many : GoodIn wsX7_account (wsV RX7 144 RX7 yX7_many wsX7_many) := goodIn_app (goodIn_of _ (by decide +kernel)) ggX7_account_X7_many
set_option maxRecDepth 20000 in
theorem ggX7_account_X7_unlike : GoodIn wsX7_account wsX7_unlike := goodIn_ca (goodIn_r _ [17, 18, 19, 20, 7, 21, 1, 26, 27, 28, 29, 30, 31, 32, 33, 34, 35, 36, 37, 38, 39, 40, 41, 42, 43] (by decide +kernel) (by decide +kernel)) (goodIn_sub (fun _ h => List.mem_cons_of_mem _ (List.mem_append_right _ h)) (by decide +kernel))
set_option maxRecDepth 20000 in
theorem gX7_account_X7_unlike : GoodIn wsX7_account (wsV RX7 188 RX7 yX7_unlike wsX7_unlike) := goodIn_app (goodIn_of _ (by decide +kernel)) ggX7_account_X7_unlike
set_option maxRecDepth 20000 in
theorem ggX7_account_X7_fails : GoodIn wsX7_account wsX7_fails := goodIn_r _ [25, 9, 26, 27, 28, 29, 30, 31, 32, 33, 34, 35, 36, 37, 38, 39, 40, 41, 42, 43] (by decide +kernel) (by decide +kernel)
set_option maxRecDepth 20000 in
theorem gX7_account_X7_fails : GoodIn wsX7_account (wsV RX7 51 RX7 yX7_fails wsX7_fails) := goodIn_app (goodIn_of _ (by decide +kernel)) ggX7_account_X7_fails
theorem dX7_account_0 : decode cX7_account 0 = .ok (.iload_n 1, 1) := by decide +kernel
theorem dX7_account_1 : decode cX7_account 1 = .ok (.tableswitch 142 0 12 #[67, 67, 67, 78, 89, 100, 100, 100, 100, 100, 115, 124, 133], 67) := by decide +kernel
theorem dX7_account_68 : decode cX7_account 68 = .ok (.aload_n 0, 1) := by decide +kernel
theorem dX7_account_69 : decode cX7_account 69 = .ok (.aload_n 0, 1) := by decide +kernel
theorem dX7_account_70 : decode cX7_account 70 = .ok (.getfield 7, 3) := by decide +kernel
theorem dX7_account_73 : decode cX7_account 73 = .ok (.iload_n 1, 1) := by decide +kernel
theorem dX7_account_74 : decode cX7_account 74 = .ok (.iaload, 1) := by decide +kernel
theorem dX7_account_75 : decode cX7_account 75 = .ok (.invokevirtual 69, 3) := by decide +kernel
theorem dX7_account_78 : decode cX7_account 78 = .ok (.ireturn, 1) := by decide +kernel
theorem dX7_account_79 : decode cX7_account 79 = .ok (.aload_n 0, 1) := by decide +kernel
theorem dX7_account_80 : decode cX7_account 80 = .ok (.aload_n 0, 1) := by decide +kernel
theorem dX7_account_81 : decode cX7_account 81 = .ok (.bipush 80, 2) := by decide +kernel
theorem dX7_account_83 : decode cX7_account 83 = .ok (.invokevirtual 144, 3) := by decide +kernel
theorem dX7_account_86 : decode cX7_account 86 = .ok (.invokevirtual 69, 3) := by decide +kernel
theorem dX7_account_89 : decode cX7_account 89 = .ok (.ireturn, 1) := by decide +kernel
theorem dX7_account_90 : decode cX7_account 90 = .ok (.aload_n 0, 1) := by decide +kernel
theorem dX7_account_91 : decode cX7_account 91 = .ok (.aload_n 0, 1) := by decide +kernel
theorem dX7_account_92 : decode cX7_account 92 = .ok (.bipush 72, 2) := by decide +kernel
theorem dX7_account_94 : decode cX7_account 94 = .ok (.invokevirtual 144, 3) := by decide +kernel
theorem dX7_account_97 : decode cX7_account 97 = .ok (.invokevirtual 69, 3) := by decide +kernel
theorem dX7_account_100 : decode cX7_account 100 = .ok (.ireturn, 1) := by decide +kernel
theorem dX7_account_101 : decode cX7_account 101 = .ok (.aload_n 0, 1) := by decide +kernel
theorem dX7_account_102 : decode cX7_account 102 = .ok (.aload_n 0, 1) := by decide +kernel
theorem dX7_account_103 : decode cX7_account 103 = .ok (.getfield 7, 3) := by decide +kernel
theorem dX7_account_106 : decode cX7_account 106 = .ok (.iconst 3, 1) := by decide +kernel
theorem dX7_account_107 : decode cX7_account 107 = .ok (.iload_n 1, 1) := by decide +kernel
theorem dX7_account_108 : decode cX7_account 108 = .ok (.iadd, 1) := by decide +kernel
theorem dX7_account_109 : decode cX7_account 109 = .ok (.iconst 5, 1) := by decide +kernel
theorem dX7_account_110 : decode cX7_account 110 = .ok (.isub, 1) := by decide +kernel
theorem dX7_account_111 : decode cX7_account 111 = .ok (.iaload, 1) := by decide +kernel
theorem dX7_account_112 : decode cX7_account 112 = .ok (.invokevirtual 69, 3) := by decide +kernel
theorem dX7_account_115 : decode cX7_account 115 = .ok (.ireturn, 1) := by decide +kernel
theorem dX7_account_116 : decode cX7_account 116 = .ok (.aload_n 0, 1) := by decide +kernel
theorem dX7_account_117 : decode cX7_account 117 = .ok (.aload_n 0, 1) := by decide +kernel
theorem dX7_account_118 : decode cX7_account 118 = .ok (.invokevirtual 188, 3) := by decide +kernel
theorem dX7_account_121 : decode cX7_account 121 = .ok (.invokevirtual 69, 3) := by decide +kernel
theorem dX7_account_124 : decode cX7_account 124 = .ok (.ireturn, 1) := by decide +kernel
theorem dX7_account_125 : decode cX7_account 125 = .ok (.aload_n 0, 1) := by decide +kernel
theorem dX7_account_126 : decode cX7_account 126 = .ok (.aload_n 0, 1) := by decide +kernel
theorem dX7_account_127 : decode cX7_account 127 = .ok (.getfield 192, 3) := by decide +kernel
theorem dX7_account_130 : decode cX7_account 130 = .ok (.invokevirtual 69, 3) := by decide +kernel
theorem dX7_account_133 : decode cX7_account 133 = .ok (.ireturn, 1) := by decide +kernel
theorem dX7_account_134 : decode cX7_account 134 = .ok (.aload_n 0, 1) := by decide +kernel
theorem dX7_account_135 : decode cX7_account 135 = .ok (.aload_n 0, 1) := by decide +kernel
theorem dX7_account_136 : decode cX7_account 136 = .ok (.getfield 59, 3) := by decide +kernel
theorem dX7_account_139 : decode cX7_account 139 = .ok (.invokevirtual 69, 3) := by decide +kernel
theorem dX7_account_142 : decode cX7_account 142 = .ok (.ireturn, 1) := by decide +kernel
theorem dX7_account_143 : decode cX7_account 143 = .ok (.aload_n 0, 1) := by decide +kernel
theorem dX7_account_144 : decode cX7_account 144 = .ok (.iconst 1, 1) := by decide +kernel
theorem dX7_account_145 : decode cX7_account 145 = .ok (.invokevirtual 51, 3) := by decide +kernel
theorem dX7_account_148 : decode cX7_account 148 = .ok (.ireturn, 1) := by decide +kernel
theorem dX7_meanKnocks_0 : decode cX7_meanKnocks 0 = .ok (.aload_n 0, 1) := by decide +kernel
theorem dX7_meanKnocks_1 : decode cX7_meanKnocks 1 = .ok (.aload_n 0, 1) := by decide +kernel
theorem dX7_meanKnocks_2 : decode cX7_meanKnocks 2 = .ok (.getfield 7, 3) := by decide +kernel
theorem dX7_meanKnocks_5 : decode cX7_meanKnocks 5 = .ok (.iconst 0, 1) := by decide +kernel
theorem dX7_meanKnocks_6 : decode cX7_meanKnocks 6 = .ok (.iaload, 1) := by decide +kernel
theorem dX7_meanKnocks_7 : decode cX7_meanKnocks 7 = .ok (.ifCond .ne 7, 3) := by decide +kernel
theorem dX7_meanKnocks_10 : decode cX7_meanKnocks 10 = .ok (.iconst 1, 1) := by decide +kernel
theorem dX7_meanKnocks_11 : decode cX7_meanKnocks 11 = .ok (.goto 4, 3) := by decide +kernel
theorem dX7_meanKnocks_14 : decode cX7_meanKnocks 14 = .ok (.iconst 0, 1) := by decide +kernel
theorem dX7_meanKnocks_15 : decode cX7_meanKnocks 15 = .ok (.putfield 42, 3) := by decide +kernel
theorem dX7_meanKnocks_18 : decode cX7_meanKnocks 18 = .ok (.aload_n 0, 1) := by decide +kernel
theorem dX7_meanKnocks_19 : decode cX7_meanKnocks 19 = .ok (.getfield 42, 3) := by decide +kernel
theorem dX7_meanKnocks_22 : decode cX7_meanKnocks 22 = .ok (.ifCond .ne 21, 3) := by decide +kernel
theorem dX7_meanKnocks_25 : decode cX7_meanKnocks 25 = .ok (.aload_n 0, 1) := by decide +kernel
theorem dX7_meanKnocks_26 : decode cX7_meanKnocks 26 = .ok (.getfield 7, 3) := by decide +kernel
theorem dX7_meanKnocks_29 : decode cX7_meanKnocks 29 = .ok (.iconst 3, 1) := by decide +kernel
theorem dX7_meanKnocks_30 : decode cX7_meanKnocks 30 = .ok (.iaload, 1) := by decide +kernel
theorem dX7_meanKnocks_31 : decode cX7_meanKnocks 31 = .ok (.i2d, 1) := by decide +kernel
theorem dX7_meanKnocks_32 : decode cX7_meanKnocks 32 = .ok (.aload_n 0, 1) := by decide +kernel
