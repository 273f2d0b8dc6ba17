theorem dX6_throwFault_18 : decode cX6_throwFault 18 = .ok (.if_icmp .ne 14, 3) := by decide +kernel
theorem dX6_throwFault_21 : decode cX6_throwFault 21 = .ok (.new 182, 3) := by decide +kernel
theorem dX6_throwFault_24 : decode cX6_throwFault 24 = .ok (.dup, 1) := by decide +kernel
theorem dX6_throwFault_25 : decode cX6_throwFault 25 = .ok (.ldc_w 421, 3) := by decide +kernel
theorem dX6_throwFault_28 : decode cX6_throwFault 28 = .ok (.invokespecial 186, 3) := by decide +kernel
theorem dX6_throwFault_31 : decode cX6_throwFault 31 = .ok (.athrow, 1) := by decide +kernel
theorem dX6_throwFault_32 : decode cX6_throwFault 32 = .ok (.iload_n 0, 1) := by decide +kernel
theorem dX6_throwFault_33 : decode cX6_throwFault 33 = .ok (.iconst 3, 1) := by decide +kernel
theorem dX6_throwFault_34 : decode cX6_throwFault 34 = .ok (.if_icmp .ne 14, 3) := by decide +kernel
theorem dX6_throwFault_37 : decode cX6_throwFault 37 = .ok (.new 390, 3) := by decide +kernel
theorem dX6_throwFault_40 : decode cX6_throwFault 40 = .ok (.dup, 1) := by decide +kernel
theorem dX6_throwFault_41 : decode cX6_throwFault 41 = .ok (.ldc_w 423, 3) := by decide +kernel
theorem dX6_throwFault_44 : decode cX6_throwFault 44 = .ok (.invokespecial 394, 3) := by decide +kernel
theorem dX6_throwFault_47 : decode cX6_throwFault 47 = .ok (.athrow, 1) := by decide +kernel
theorem dX6_throwFault_48 : decode cX6_throwFault 48 = .ok (.return_, 1) := by decide +kernel
theorem dX6_refuse_0 : decode cX6_refuse 0 = .ok (.aload_n 0, 1) := by decide +kernel
theorem dX6_refuse_1 : decode cX6_refuse 1 = .ok (.iload_n 1, 1) := by decide +kernel
theorem dX6_refuse_2 : decode cX6_refuse 2 = .ok (.putfield 51, 3) := by decide +kernel
theorem dX6_refuse_5 : decode cX6_refuse 5 = .ok (.aload_n 0, 1) := by decide +kernel
theorem dX6_refuse_6 : decode cX6_refuse 6 = .ok (.iload_n 2, 1) := by decide +kernel
theorem dX6_refuse_7 : decode cX6_refuse 7 = .ok (.putfield 55, 3) := by decide +kernel
theorem dX6_refuse_10 : decode cX6_refuse 10 = .ok (.iconst 3, 1) := by decide +kernel
theorem dX6_refuse_11 : decode cX6_refuse 11 = .ok (.ireturn, 1) := by decide +kernel
set_option maxRecDepth 20000 in
theorem ggX6_faultOfDoor_X6_isBelow : GoodIn wsX6_faultOfDoor wsX6_isBelow := goodIn_r _ [6] (by decide +kernel) (by decide +kernel)
set_option maxRecDepth 20000 in
theorem gX6_faultOfDoor_X6_isBelow : GoodIn wsX6_faultOfDoor (va_wsS RX6 178 yX6_isBelow wsX6_isBelow) := goodIn_app (goodIn_of _ (by decide +kernel)) ggX6_faultOfDoor_X6_isBelow
set_option maxRecDepth 20000 in
theorem ggX6_faultOfDoor_X6_refuse : GoodIn wsX6_faultOfDoor wsX6_refuse := goodIn_r _ [10, 11, 12, 13, 14, 15, 16, 17, 18, 19, 20, 21, 22, 23] (by decide +kernel) (by decide +kernel)
set_option maxRecDepth 20000 in
theorem gX6_faultOfDoor_X6_refuse : GoodIn wsX6_faultOfDoor (wsV RX6 425 RX6 yX6_refuse wsX6_refuse) := goodIn_app (goodIn_of _ (by decide +kernel)) ggX6_faultOfDoor_X6_refuse
theorem dX6_faultOfDoor_0 : decode cX6_faultOfDoor 0 = .ok (.iload_n 1, 1) := by decide +kernel
theorem dX6_faultOfDoor_1 : decode cX6_faultOfDoor 1 = .ok (.iconst 3, 1) := by decide +kernel
theorem dX6_faultOfDoor_2 : decode cX6_faultOfDoor 2 = .ok (.invokestatic 178, 3) := by decide +kernel
theorem dX6_faultOfDoor_5 : decode cX6_faultOfDoor 5 = .ok (.ifCond .eq 17, 3) := by decide +kernel
theorem dX6_faultOfDoor_8 : decode cX6_faultOfDoor 8 = .ok (.iload_n 2, 1) := by decide +kernel
theorem dX6_faultOfDoor_9 : decode cX6_faultOfDoor 9 = .ok (.iconst 3, 1) := by decide +kernel
theorem dX6_faultOfDoor_10 : decode cX6_faultOfDoor 10 = .ok (.invokestatic 178, 3) := by decide +kernel
theorem dX6_faultOfDoor_13 : decode cX6_faultOfDoor 13 = .ok (.ifCond .eq 9, 3) := by decide +kernel
theorem dX6_faultOfDoor_16 : decode cX6_faultOfDoor 16 = .ok (.iload_n 3, 1) := by decide +kernel
theorem dX6_faultOfDoor_17 : decode cX6_faultOfDoor 17 = .ok (.iload 4, 2) := by decide +kernel
theorem dX6_faultOfDoor_19 : decode cX6_faultOfDoor 19 = .ok (.if_icmp .ne 5, 3) := by decide +kernel
theorem dX6_faultOfDoor_22 : decode cX6_faultOfDoor 22 = .ok (.iconst 1, 1) := by decide +kernel
theorem dX6_faultOfDoor_23 : decode cX6_faultOfDoor 23 = .ok (.ireturn, 1) := by decide +kernel
theorem dX6_faultOfDoor_24 : decode cX6_faultOfDoor 24 = .ok (.iload_n 3, 1) := by decide +kernel
theorem dX6_faultOfDoor_25 : decode cX6_faultOfDoor 25 = .ok (.bipush 6, 2) := by decide +kernel
theorem dX6_faultOfDoor_27 : decode cX6_faultOfDoor 27 = .ok (.invokestatic 178, 3) := by decide +kernel
theorem dX6_faultOfDoor_30 : decode cX6_faultOfDoor 30 = .ok (.ifCond .eq 13, 3) := by decide +kernel
theorem dX6_faultOfDoor_33 : decode cX6_faultOfDoor 33 = .ok (.iload 4, 2) := by decide +kernel
theorem dX6_faultOfDoor_35 : decode cX6_faultOfDoor 35 = .ok (.bipush 6, 2) := by decide +kernel
theorem dX6_faultOfDoor_37 : decode cX6_faultOfDoor 37 = .ok (.invokestatic 178, 3) := by decide +kernel
theorem dX6_faultOfDoor_40 : decode cX6_faultOfDoor 40 = .ok (.ifCond .ne 5, 3) := by decide +kernel
theorem dX6_faultOfDoor_43 : decode cX6_faultOfDoor 43 = .ok (.iconst 2, 1) := by decide +kernel
theorem dX6_faultOfDoor_44 : decode cX6_faultOfDoor 44 = .ok (.ireturn, 1) := by decide +kernel
theorem dX6_faultOfDoor_45 : decode cX6_faultOfDoor 45 = .ok (.aload_n 0, 1) := by decide +kernel
theorem dX6_faultOfDoor_46 : decode cX6_faultOfDoor 46 = .ok (.getfield 10, 3) := by decide +kernel
theorem dX6_faultOfDoor_49 : decode cX6_faultOfDoor 49 = .ok (.getfield 64, 3) := by decide +kernel
theorem dX6_faultOfDoor_52 : decode cX6_faultOfDoor 52 = .ok (.bipush 8, 2) := by decide +kernel
theorem dX6_faultOfDoor_54 : decode cX6_faultOfDoor 54 = .ok (.if_icmp .lt 13, 3) := by decide +kernel
theorem dX6_faultOfDoor_57 : decode cX6_faultOfDoor 57 = .ok (.aload_n 0, 1) := by decide +kernel
theorem dX6_faultOfDoor_58 : decode cX6_faultOfDoor 58 = .ok (.iconst 1, 1) := by decide +kernel
theorem dX6_faultOfDoor_59 : decode cX6_faultOfDoor 59 = .ok (.bipush 8, 2) := by decide +kernel
theorem dX6_faultOfDoor_61 : decode cX6_faultOfDoor 61 = .ok (.invokevirtual 425, 3) := by decide +kernel
theorem dX6_faultOfDoor_64 : decode cX6_faultOfDoor 64 = .ok (.goto 4, 3) := by decide +kernel
theorem dX6_faultOfDoor_67 : decode cX6_faultOfDoor 67 = .ok (.iconst 0, 1) := by decide +kernel
theorem dX6_faultOfDoor_68 : decode cX6_faultOfDoor 68 = .ok (.ireturn, 1) := by decide +kernel
set_option maxRecDepth 20000 in
theorem ggX6_faultOfThreshold_X6_isBelow : GoodIn wsX6_faultOfThreshold wsX6_isBelow := goodIn_r _ [6] (by decide +kernel) (by decide +kernel)
set_option maxRecDepth 20000 in
theorem gX6_faultOfThreshold_X6_isBelow : GoodIn wsX6_faultOfThreshold (va_wsS RX6 178 yX6_isBelow wsX6_isBelow) := goodIn_app (goodIn_of _ (by decide +kernel)) ggX6_faultOfThreshold_X6_isBelow
set_option maxRecDepth 20000 in
theorem ggX6_faultOfThreshold_X6_refuse : GoodIn wsX6_faultOfThreshold wsX6_refuse := goodIn_r _ [10, 11, 12, 13, 14, 15, 16, 17, 18, 19, 20, 21, 22, 23] (by decide +kernel) (by decide +kernel)
set_option maxRecDepth 20000 in
theorem gX6_faultOfThreshold_X6_refuse : GoodIn wsX6_faultOfThreshold (wsV RX6 425 RX6 yX6_refuse wsX6_refuse) := goodIn_app (goodIn_of _ (by decide +kernel)) ggX6_faultOfThreshold_X6_refuse
theorem dX6_faultOfThreshold_0 : decode cX6_faultOfThreshold 0 = .ok (.iload_n 1, 1) := by decide +kernel
theorem dX6_faultOfThreshold_1 : decode cX6_faultOfThreshold 1 = .ok (.iconst 4, 1) := by decide +kernel
theorem dX6_faultOfThreshold_2 : decode cX6_faultOfThreshold 2 = .ok (.invokestatic 178, 3) := by decide +kernel
theorem dX6_faultOfThreshold_5 : decode cX6_faultOfThreshold 5 = .ok (.ifCond .ne 5, 3) := by decide +kernel
theorem dX6_faultOfThreshold_8 : decode cX6_faultOfThreshold 8 = .ok (.iconst 1, 1) := by decide +kernel
theorem dX6_faultOfThreshold_9 : decode cX6_faultOfThreshold 9 = .ok (.ireturn, 1) := by decide +kernel
theorem dX6_faultOfThreshold_10 : decode cX6_faultOfThreshold 10 = .ok (.aload_n 0, 1) := by decide +kernel
theorem dX6_faultOfThreshold_11 : decode cX6_faultOfThreshold 11 = .ok (.getfield 10, 3) := by decide +kernel
theorem dX6_faultOfThreshold_14 : decode cX6_faultOfThreshold 14 = .ok (.getfield 175, 3) := by decide +kernel
theorem dX6_faultOfThreshold_17 : decode cX6_faultOfThreshold 17 = .ok (.bipush 6, 2) := by decide +kernel
theorem dX6_faultOfThreshold_19 : decode cX6_faultOfThreshold 19 = .ok (.if_icmp .lt 13, 3) := by decide +kernel
theorem dX6_faultOfThreshold_22 : decode cX6_faultOfThreshold 22 = .ok (.aload_n 0, 1) := by decide +kernel
theorem dX6_faultOfThreshold_23 : decode cX6_faultOfThreshold 23 = .ok (.iconst 1, 1) := by decide +kernel
theorem dX6_faultOfThreshold_24 : decode cX6_faultOfThreshold 24 = .ok (.bipush 6, 2) := by decide +kernel
theorem dX6_faultOfThreshold_26 : decode cX6_faultOfThreshold 26 = .ok (.invokevirtual 425, 3) := by decide +kernel
theorem dX6_faultOfThreshold_29 : decode cX6_faultOfThreshold 29 = .ok (.goto 4, 3) := by decide +kernel
theorem dX6_faultOfThreshold_32 : decode cX6_faultOfThreshold 32 = .ok (.iconst 0, 1) := by decide +kernel
theorem dX6_faultOfThreshold_33 : decode cX6_faultOfThreshold 33 = .ok (.ireturn, 1) := by decide +kernel
set_option maxRecDepth 20000 in
theorem ggX6_faultOfGovern_X6_isBelow : GoodIn wsX6_faultOfGovern wsX6_isBelow := goodIn_r _ [7] (by decide +kernel) (by decide +kernel)
set_option maxRecDepth 20000 in
theorem gX6_faultOfGovern_X6_isBelow : GoodIn wsX6_faultOfGovern (va_wsS RX6 178 yX6_isBelow wsX6_isBelow) := goodIn_app (goodIn_of _ (by decide +kernel)) ggX6_faultOfGovern_X6_isBelow
set_option maxRecDepth 20000 in
theorem ggX6_faultOfGovern_X6_refuse : GoodIn wsX6_faultOfGovern wsX6_refuse := goodIn_r _ [11, 12, 13, 14, 15, 16, 17, 18, 19, 20, 21, 22, 23, 24] (by decide +kernel) (by decide +kernel)
set_option maxRecDepth 20000 in
theorem gX6_faultOfGovern_X6_refuse : GoodIn wsX6_faultOfGovern (wsV RX6 425 RX6 yX6_refuse wsX6_refuse) := goodIn_app (goodIn_of _ (by decide +kernel)) ggX6_faultOfGovern_X6_refuse
theorem dX6_faultOfGovern_0 : decode cX6_faultOfGovern 0 = .ok (.iload_n 1, 1) := by decide +kernel
theorem dX6_faultOfGovern_1 : decode cX6_faultOfGovern 1 = .ok (.aload_n 0, 1) := by decide +kernel
theorem dX6_faultOfGovern_2 : decode cX6_faultOfGovern 2 = .ok (.getfield 10, 3) := by decide +kernel
theorem dX6_faultOfGovern_5 : decode cX6_faultOfGovern 5 = .ok (.getfield 175, 3) := by decide +kernel
theorem dX6_faultOfGovern_8 : decode cX6_faultOfGovern 8 = .ok (.invokestatic 178, 3) := by decide +kernel
theorem dX6_faultOfGovern_11 : decode cX6_faultOfGovern 11 = .ok (.ifCond .ne 5, 3) := by decide +kernel
theorem dX6_faultOfGovern_14 : decode cX6_faultOfGovern 14 = .ok (.iconst 2, 1) := by decide +kernel
theorem dX6_faultOfGovern_15 : decode cX6_faultOfGovern 15 = .ok (.ireturn, 1) := by decide +kernel
theorem dX6_faultOfGovern_16 : decode cX6_faultOfGovern 16 = .ok (.iload_n 2, 1) := by decide +kernel
theorem dX6_faultOfGovern_17 : decode cX6_faultOfGovern 17 = .ok (.iconst 4, 1) := by decide +kernel
theorem dX6_faultOfGovern_18 : decode cX6_faultOfGovern 18 = .ok (.invokestatic 178, 3) := by decide +kernel
theorem dX6_faultOfGovern_21 : decode cX6_faultOfGovern 21 = .ok (.ifCond .ne 5, 3) := by decide +kernel
theorem dX6_faultOfGovern_24 : decode cX6_faultOfGovern 24 = .ok (.iconst 1, 1) := by decide +kernel
theorem dX6_faultOfGovern_25 : decode cX6_faultOfGovern 25 = .ok (.ireturn, 1) := by decide +kernel
theorem dX6_faultOfGovern_26 : decode cX6_faultOfGovern 26 = .ok (.aload_n 0, 1) := by decide +kernel
theorem dX6_faultOfGovern_27 : decode cX6_faultOfGovern 27 = .ok (.getfield 10, 3) := by decide +kernel
theorem dX6_faultOfGovern_30 : decode cX6_faultOfGovern 30 = .ok (.getfield 187, 3) := by decide +kernel
theorem dX6_faultOfGovern_33 : decode cX6_faultOfGovern 33 = .ok (.iload_n 1, 1) := by decide +kernel
theorem dX6_faultOfGovern_34 : decode cX6_faultOfGovern 34 = .ok (.iaload, 1) := by decide +kernel
theorem dX6_faultOfGovern_35 : decode cX6_faultOfGovern 35 = .ok (.iload_n 2, 1) := by decide +kernel
theorem dX6_faultOfGovern_36 : decode cX6_faultOfGovern 36 = .ok (.if_icmp .ne 12, 3) := by decide +kernel
theorem dX6_faultOfGovern_39 : decode cX6_faultOfGovern 39 = .ok (.aload_n 0, 1) := by decide +kernel
theorem dX6_faultOfGovern_40 : decode cX6_faultOfGovern 40 = .ok (.iconst 2, 1) := by decide +kernel
theorem dX6_faultOfGovern_41 : decode cX6_faultOfGovern 41 = .ok (.iload_n 2, 1) := by decide +kernel
theorem dX6_faultOfGovern_42 : decode cX6_faultOfGovern 42 = .ok (.invokevirtual 425, 3) := by decide +kernel
theorem dX6_faultOfGovern_45 : decode cX6_faultOfGovern 45 = .ok (.goto 4, 3) := by decide +kernel
theorem dX6_faultOfGovern_48 : decode cX6_faultOfGovern 48 = .ok (.iconst 0, 1) := by decide +kernel
theorem dX6_faultOfGovern_49 : decode cX6_faultOfGovern 49 = .ok (.ireturn, 1) := by decide +kernel
set_option maxRecDepth 20000 in
theorem ggX6_faultOfSet_X1_isDoor : GoodIn wsX6_faultOfSet wsX1_isDoor := goodIn_r _ [9, 10, 11, 12, 13, 32, 33, 34, 35, 36, 37, 38, 39, 40, 41, 42, 43] (by decide +kernel) (by decide +kernel)
set_option maxRecDepth 20000 in
theorem gX6_faultOfSet_X1_isDoor : GoodIn wsX6_faultOfSet (wsV RX6 409 RX1 yX1_isDoor wsX1_isDoor) := goodIn_app (goodIn_of _ (by decide +kernel)) ggX6_faultOfSet_X1_isDoor
set_option maxRecDepth 20000 in
theorem ggX6_faultOfSet_X6_isBelow : GoodIn wsX6_faultOfSet wsX6_isBelow := goodIn_r _ [13] (by decide +kernel) (by decide +kernel)
set_option maxRecDepth 20000 in
theorem gX6_faultOfSet_X6_isBelow : GoodIn wsX6_faultOfSet (va_wsS RX6 178 yX6_isBelow wsX6_isBelow) := goodIn_app (goodIn_of _ (by decide +kernel)) ggX6_faultOfSet_X6_isBelow
set_option maxRecDepth 20000 in
theorem ggX6_faultOfSet_X6_refuse : GoodIn wsX6_faultOfSet wsX6_refuse := goodIn_r _ [18, 19, 20, 21, 22, 23, 24, 25, 26, 27, 28, 29, 30, 31] (by decide +kernel) (by decide +kernel)
set_option maxRecDepth 20000 in
theorem gX6_faultOfSet_X6_refuse : GoodIn wsX6_faultOfSet (wsV RX6 425 RX6 yX6_refuse wsX6_refuse) := goodIn_app (goodIn_of _ (by decide +kernel)) ggX6_faultOfSet_X6_refuse
theorem dX6_faultOfSet_0 : decode cX6_faultOfSet 0 = .ok (.aload_n 0, 1) := by decide +kernel
theorem dX6_faultOfSet_1 : decode cX6_faultOfSet 1 = .ok (.getfield 10, 3) := by decide +kernel
theorem dX6_faultOfSet_4 : decode cX6_faultOfSet 4 = .ok (.iload_n 1, 1) := by decide +kernel
theorem dX6_faultOfSet_5 : decode cX6_faultOfSet 5 = .ok (.invokevirtual 409, 3) := by decide +kernel
theorem dX6_faultOfSet_8 : decode cX6_faultOfSet 8 = .ok (.ifCond .ne 5, 3) := by decide +kernel
theorem dX6_faultOfSet_11 : decode cX6_faultOfSet 11 = .ok (.iconst 2, 1) := by decide +kernel
theorem dX6_faultOfSet_12 : decode cX6_faultOfSet 12 = .ok (.ireturn, 1) := by decide +kernel
theorem dX6_faultOfSet_13 : decode cX6_faultOfSet 13 = .ok (.iload_n 2, 1) := by decide +kernel
theorem dX6_faultOfSet_14 : decode cX6_faultOfSet 14 = .ok (.iconst (-1), 1) := by decide +kernel
theorem dX6_faultOfSet_15 : decode cX6_faultOfSet 15 = .ok (.if_icmp .eq 19, 3) := by decide +kernel
theorem dX6_faultOfSet_18 : decode cX6_faultOfSet 18 = .ok (.iload_n 2, 1) := by decide +kernel
theorem dX6_faultOfSet_19 : decode cX6_faultOfSet 19 = .ok (.aload_n 0, 1) := by decide +kernel
theorem dX6_faultOfSet_20 : decode cX6_faultOfSet 20 = .ok (.getfield 10, 3) := by decide +kernel
theorem dX6_faultOfSet_23 : decode cX6_faultOfSet 23 = .ok (.getfield 175, 3) := by decide +kernel
theorem dX6_faultOfSet_26 : decode cX6_faultOfSet 26 = .ok (.invokestatic 178, 3) := by decide +kernel
theorem dX6_faultOfSet_29 : decode cX6_faultOfSet 29 = .ok (.ifCond .ne 5, 3) := by decide +kernel
theorem dX6_faultOfSet_32 : decode cX6_faultOfSet 32 = .ok (.iconst 2, 1) := by decide +kernel
theorem dX6_faultOfSet_33 : decode cX6_faultOfSet 33 = .ok (.ireturn, 1) := by decide +kernel
theorem dX6_faultOfSet_34 : decode cX6_faultOfSet 34 = .ok (.aload_n 0, 1) := by decide +kernel
theorem dX6_faultOfSet_35 : decode cX6_faultOfSet 35 = .ok (.getfield 10, 3) := by decide +kernel
theorem dX6_faultOfSet_38 : decode cX6_faultOfSet 38 = .ok (.getfield 128, 3) := by decide +kernel
theorem dX6_faultOfSet_41 : decode cX6_faultOfSet 41 = .ok (.iload_n 1, 1) := by decide +kernel
theorem dX6_faultOfSet_42 : decode cX6_faultOfSet 42 = .ok (.aaload, 1) := by decide +kernel
theorem dX6_faultOfSet_43 : decode cX6_faultOfSet 43 = .ok (.getfield 143, 3) := by decide +kernel
theorem dX6_faultOfSet_46 : decode cX6_faultOfSet 46 = .ok (.iload_n 2, 1) := by decide +kernel
theorem dX6_faultOfSet_47 : decode cX6_faultOfSet 47 = .ok (.if_icmp .ne 12, 3) := by decide +kernel
theorem dX6_faultOfSet_50 : decode cX6_faultOfSet 50 = .ok (.aload_n 0, 1) := by decide +kernel
theorem dX6_faultOfSet_51 : decode cX6_faultOfSet 51 = .ok (.iconst 2, 1) := by decide +kernel
theorem dX6_faultOfSet_52 : decode cX6_faultOfSet 52 = .ok (.iload_n 2, 1) := by decide +kernel
theorem dX6_faultOfSet_53 : decode cX6_faultOfSet 53 = .ok (.invokevirtual 425, 3) := by decide +kernel
theorem dX6_faultOfSet_56 : decode cX6_faultOfSet 56 = .ok (.goto 4, 3) := by decide +kernel
theorem dX6_faultOfSet_59 : decode cX6_faultOfSet 59 = .ok (.iconst 0, 1) := by decide +kernel
theorem dX6_faultOfSet_60 : decode cX6_faultOfSet 60 = .ok (.ireturn, 1) := by decide +kernel
set_option maxRecDepth 20000 in
theorem ggX6_faultOfEnding_X6_isBelow : GoodIn wsX6_faultOfEnding wsX6_isBelow := goodIn_r _ [5] (by decide +kernel) (by decide +kernel)
set_option maxRecDepth 20000 in
theorem gX6_faultOfEnding_X6_isBelow : GoodIn wsX6_faultOfEnding (va_wsS RX6 178 yX6_isBelow wsX6_isBelow) := goodIn_app (goodIn_of _ (by decide +kernel)) ggX6_faultOfEnding_X6_isBelow
set_option maxRecDepth 20000 in
theorem ggX6_faultOfEnding_X1_letterAt : GoodIn wsX6_faultOfEnding wsX1_letterAt := goodIn_ca (goodIn_r _ [10, 11, 12, 13, 9, 14, 32, 33, 34, 35, 36, 37, 38, 39, 40, 41, 42, 43] (by decide +kernel) (by decide +kernel)) (goodIn_sub (fun _ h => List.mem_cons_of_mem _ (List.mem_append_right _ h)) (by decide +kernel))
set_option maxRecDepth 20000 in
theorem gX6_faultOfEnding_X1_letterAt : GoodIn wsX6_faultOfEnding (wsV RX6 428 RX1 yX1_letterAt wsX1_letterAt) := goodIn_app (goodIn_of _ (by decide +kernel)) ggX6_faultOfEnding_X1_letterAt
set_option maxRecDepth 20000 in
theorem ggX6_faultOfEnding_X6_refuse : GoodIn wsX6_faultOfEnding wsX6_refuse := goodIn_r _ [18, 19, 20, 21, 22, 23, 24, 25, 26, 27, 28, 29, 30, 31] (by decide +kernel) (by decide +kernel)
set_option maxRecDepth 20000 in
theorem gX6_faultOfEnding_X6_refuse : GoodIn wsX6_faultOfEnding (wsV RX6 425 RX6 yX6_refuse wsX6_refuse) := goodIn_app (goodIn_of _ (by decide +kernel)) ggX6_faultOfEnding_X6_refuse
theorem dX6_faultOfEnding_0 : decode cX6_faultOfEnding 0 = .ok (.iload_n 1, 1) := by decide +kernel
theorem dX6_faultOfEnding_1 : decode cX6_faultOfEnding 1 = .ok (.iconst 3, 1) := by decide +kernel
theorem dX6_faultOfEnding_2 : decode cX6_faultOfEnding 2 = .ok (.invokestatic 178, 3) := by decide +kernel
theorem dX6_faultOfEnding_5 : decode cX6_faultOfEnding 5 = .ok (.ifCond .eq 21, 3) := by decide +kernel
theorem dX6_faultOfEnding_8 : decode cX6_faultOfEnding 8 = .ok (.iload_n 2, 1) := by decide +kernel
theorem dX6_faultOfEnding_9 : decode cX6_faultOfEnding 9 = .ok (.iconst 4, 1) := by decide +kernel
theorem dX6_faultOfEnding_10 : decode cX6_faultOfEnding 10 = .ok (.invokestatic 178, 3) := by decide +kernel
theorem dX6_faultOfEnding_13 : decode cX6_faultOfEnding 13 = .ok (.ifCond .eq 13, 3) := by decide +kernel
theorem dX6_faultOfEnding_16 : decode cX6_faultOfEnding 16 = .ok (.iload 4, 2) := by decide +kernel
theorem dX6_faultOfEnding_18 : decode cX6_faultOfEnding 18 = .ok (.bipush 26, 2) := by decide +kernel
theorem dX6_faultOfEnding_20 : decode cX6_faultOfEnding 20 = .ok (.invokestatic 178, 3) := by decide +kernel
theorem dX6_faultOfEnding_23 : decode cX6_faultOfEnding 23 = .ok (.ifCond .ne 5, 3) := by decide +kernel
theorem dX6_faultOfEnding_26 : decode cX6_faultOfEnding 26 = .ok (.iconst 1, 1) := by decide +kernel
theorem dX6_faultOfEnding_27 : decode cX6_faultOfEnding 27 = .ok (.ireturn, 1) := by decide +kernel
theorem dX6_faultOfEnding_28 : decode cX6_faultOfEnding 28 = .ok (.aload_n 0, 1) := by decide +kernel
theorem dX6_faultOfEnding_29 : decode cX6_faultOfEnding 29 = .ok (.getfield 10, 3) := by decide +kernel
theorem dX6_faultOfEnding_32 : decode cX6_faultOfEnding 32 = .ok (.iload_n 1, 1) := by decide +kernel
theorem dX6_faultOfEnding_33 : decode cX6_faultOfEnding 33 = .ok (.iload_n 2, 1) := by decide +kernel
theorem dX6_faultOfEnding_34 : decode cX6_faultOfEnding 34 = .ok (.iload_n 3, 1) := by decide +kernel
theorem dX6_faultOfEnding_35 : decode cX6_faultOfEnding 35 = .ok (.invokevirtual 428, 3) := by decide +kernel
theorem dX6_faultOfEnding_38 : decode cX6_faultOfEnding 38 = .ok (.iload 4, 2) := by decide +kernel
theorem dX6_faultOfEnding_40 : decode cX6_faultOfEnding 40 = .ok (.if_icmp .ne 13, 3) := by decide +kernel
theorem dX6_faultOfEnding_43 : decode cX6_faultOfEnding 43 = .ok (.aload_n 0, 1) := by decide +kernel
theorem dX6_faultOfEnding_44 : decode cX6_faultOfEnding 44 = .ok (.iconst 2, 1) := by decide +kernel
theorem dX6_faultOfEnding_45 : decode cX6_faultOfEnding 45 = .ok (.iload 4, 2) := by decide +kernel
theorem dX6_faultOfEnding_47 : decode cX6_faultOfEnding 47 = .ok (.invokevirtual 425, 3) := by decide +kernel
theorem dX6_faultOfEnding_50 : decode cX6_faultOfEnding 50 = .ok (.goto 4, 3) := by decide +kernel
theorem dX6_faultOfEnding_53 : decode cX6_faultOfEnding 53 = .ok (.iconst 0, 1) := by decide +kernel
theorem dX6_faultOfEnding_54 : decode cX6_faultOfEnding 54 = .ok (.ireturn, 1) := by decide +kernel
set_option maxRecDepth 20000 in
theorem ggX6_faultOfKey_X6_isBelow : GoodIn wsX6_faultOfKey wsX6_isBelow := goodIn_r _ [6] (by decide +kernel) (by decide +kernel)
set_option maxRecDepth 20000 in
theorem gX6_faultOfKey_X6_isBelow : GoodIn wsX6_faultOfKey (va_wsS RX6 178 yX6_isBelow wsX6_isBelow) := goodIn_app (goodIn_of _ (by decide +kernel)) ggX6_faultOfKey_X6_isBelow
set_option maxRecDepth 20000 in
theorem ggX6_faultOfKey_X1_keyWith : GoodIn wsX6_faultOfKey wsX1_keyWith := goodIn_ca (goodIn_r _ [11, 12, 13, 14, 32, 33, 34, 35, 36, 37, 38, 39, 40, 41, 42, 43] (by decide +kernel) (by decide +kernel)) (goodIn_sub (fun _ h => List.mem_cons_of_mem _ (List.mem_append_right _ h)) (by decide +kernel))
set_option maxRecDepth 20000 in
theorem gX6_faultOfKey_X1_keyWith : GoodIn wsX6_faultOfKey (wsV RX6 431 RX1 yX1_keyWith wsX1_keyWith) := goodIn_app (goodIn_of _ (by decide +kernel)) ggX6_faultOfKey_X1_keyWith
set_option maxRecDepth 20000 in
theorem ggX6_faultOfKey_X6_refuse : GoodIn wsX6_faultOfKey wsX6_refuse := goodIn_r _ [18, 19, 20, 21, 22, 23, 24, 25, 26, 27, 28, 29, 30, 31] (by decide +kernel) (by decide +kernel)
set_option maxRecDepth 20000 in
theorem gX6_faultOfKey_X6_refuse : GoodIn wsX6_faultOfKey (wsV RX6 425 RX6 yX6_refuse wsX6_refuse) := goodIn_app (goodIn_of _ (by decide +kernel)) ggX6_faultOfKey_X6_refuse
theorem dX6_faultOfKey_0 : decode cX6_faultOfKey 0 = .ok (.iload_n 1, 1) := by decide +kernel
theorem dX6_faultOfKey_1 : decode cX6_faultOfKey 1 = .ok (.iconst 3, 1) := by decide +kernel
theorem dX6_faultOfKey_2 : decode cX6_faultOfKey 2 = .ok (.invokestatic 178, 3) := by decide +kernel
theorem dX6_faultOfKey_5 : decode cX6_faultOfKey 5 = .ok (.ifCond .eq 11, 3) := by decide +kernel
theorem dX6_faultOfKey_8 : decode cX6_faultOfKey 8 = .ok (.iload_n 2, 1) := by decide +kernel
theorem dX6_faultOfKey_9 : decode cX6_faultOfKey 9 = .ok (.iconst 3, 1) := by decide +kernel
theorem dX6_faultOfKey_10 : decode cX6_faultOfKey 10 = .ok (.invokestatic 178, 3) := by decide +kernel
theorem dX6_faultOfKey_13 : decode cX6_faultOfKey 13 = .ok (.ifCond .ne 5, 3) := by decide +kernel
theorem dX6_faultOfKey_16 : decode cX6_faultOfKey 16 = .ok (.iconst 1, 1) := by decide +kernel
theorem dX6_faultOfKey_17 : decode cX6_faultOfKey 17 = .ok (.ireturn, 1) := by decide +kernel
theorem dX6_faultOfKey_18 : decode cX6_faultOfKey 18 = .ok (.aload_n 0, 1) := by decide +kernel
theorem dX6_faultOfKey_19 : decode cX6_faultOfKey 19 = .ok (.getfield 10, 3) := by decide +kernel
theorem dX6_faultOfKey_22 : decode cX6_faultOfKey 22 = .ok (.iload_n 1, 1) := by decide +kernel
theorem dX6_faultOfKey_23 : decode cX6_faultOfKey 23 = .ok (.iload_n 2, 1) := by decide +kernel
theorem dX6_faultOfKey_24 : decode cX6_faultOfKey 24 = .ok (.invokevirtual 431, 3) := by decide +kernel
theorem dX6_faultOfKey_27 : decode cX6_faultOfKey 27 = .ok (.istore_n 3, 1) := by decide +kernel
theorem dX6_faultOfKey_28 : decode cX6_faultOfKey 28 = .ok (.iload_n 3, 1) := by decide +kernel
theorem dX6_faultOfKey_29 : decode cX6_faultOfKey 29 = .ok (.iconst (-1), 1) := by decide +kernel
theorem dX6_faultOfKey_30 : decode cX6_faultOfKey 30 = .ok (.if_icmp .eq 10, 3) := by decide +kernel
theorem dX6_faultOfKey_33 : decode cX6_faultOfKey 33 = .ok (.aload_n 0, 1) := by decide +kernel
theorem dX6_faultOfKey_34 : decode cX6_faultOfKey 34 = .ok (.iconst 2, 1) := by decide +kernel
theorem dX6_faultOfKey_35 : decode cX6_faultOfKey 35 = .ok (.iload_n 3, 1) := by decide +kernel
theorem dX6_faultOfKey_36 : decode cX6_faultOfKey 36 = .ok (.invokevirtual 425, 3) := by decide +kernel
theorem dX6_faultOfKey_39 : decode cX6_faultOfKey 39 = .ok (.ireturn, 1) := by decide +kernel
theorem dX6_faultOfKey_40 : decode cX6_faultOfKey 40 = .ok (.aload_n 0, 1) := by decide +kernel
theorem dX6_faultOfKey_41 : decode cX6_faultOfKey 41 = .ok (.getfield 10, 3) := by decide +kernel
theorem dX6_faultOfKey_44 : decode cX6_faultOfKey 44 = .ok (.getfield 247, 3) := by decide +kernel
theorem dX6_faultOfKey_47 : decode cX6_faultOfKey 47 = .ok (.iconst 5, 1) := by decide +kernel
theorem dX6_faultOfKey_48 : decode cX6_faultOfKey 48 = .ok (.if_icmp .lt 12, 3) := by decide +kernel
theorem dX6_faultOfKey_51 : decode cX6_faultOfKey 51 = .ok (.aload_n 0, 1) := by decide +kernel
theorem dX6_faultOfKey_52 : decode cX6_faultOfKey 52 = .ok (.iconst 1, 1) := by decide +kernel
theorem dX6_faultOfKey_53 : decode cX6_faultOfKey 53 = .ok (.iconst 5, 1) := by decide +kernel
theorem dX6_faultOfKey_54 : decode cX6_faultOfKey 54 = .ok (.invokevirtual 425, 3) := by decide +kernel
theorem dX6_faultOfKey_57 : decode cX6_faultOfKey 57 = .ok (.goto 4, 3) := by decide +kernel
theorem dX6_faultOfKey_60 : decode cX6_faultOfKey 60 = .ok (.iconst 0, 1) := by decide +kernel
theorem dX6_faultOfKey_61 : decode cX6_faultOfKey 61 = .ok (.ireturn, 1) := by decide +kernel
set_option maxRecDepth 20000 in
theorem ggX6_faultOfKnock_X1_isDoor : GoodIn wsX6_faultOfKnock wsX1_isDoor := goodIn_r _ [9, 10, 11, 12, 13, 43, 44, 45, 46, 47, 48, 49, 50, 51, 52, 53, 54] (by decide +kernel) (by decide +kernel)
set_option maxRecDepth 20000 in
theorem gX6_faultOfKnock_X1_isDoor : GoodIn wsX6_faultOfKnock (wsV RX6 409 RX1 yX1_isDoor wsX1_isDoor) := goodIn_app (goodIn_of _ (by decide +kernel)) ggX6_faultOfKnock_X1_isDoor
set_option maxRecDepth 20000 in
theorem ggX6_faultOfKnock_X6_isBelow : GoodIn wsX6_faultOfKnock wsX6_isBelow := goodIn_r _ [13] (by decide +kernel) (by decide +kernel)
set_option maxRecDepth 20000 in
theorem gX6_faultOfKnock_X6_isBelow : GoodIn wsX6_faultOfKnock (va_wsS RX6 178 yX6_isBelow wsX6_isBelow) := goodIn_app (goodIn_of _ (by decide +kernel)) ggX6_faultOfKnock_X6_isBelow
set_option maxRecDepth 20000 in
theorem ggX6_faultOfKnock_X1_openDoors : GoodIn wsX6_faultOfKnock wsX1_openDoors := goodIn_r _ [18, 10, 19, 20, 43, 44, 45, 46, 47, 48, 49, 50, 51, 52, 53, 54, 55, 56, 57, 58, 59, 60, 61, 62, 63, 64] (by decide +kernel) (by decide +kernel)
set_option maxRecDepth 20000 in
theorem gX6_faultOfKnock_X1_openDoors : GoodIn wsX6_faultOfKnock (wsV RX6 323 RX1 yX1_openDoors wsX1_openDoors) := goodIn_app (goodIn_of _ (by decide +kernel)) ggX6_faultOfKnock_X1_openDoors
set_option maxRecDepth 20000 in
theorem ggX6_faultOfKnock_X6_refuse : GoodIn wsX6_faultOfKnock wsX6_refuse := goodIn_r _ [24, 25, 26, 32, 33, 34, 35, 36, 37, 38, 39, 40, 41, 42] (by decide +kernel) (by decide +kernel)
set_option maxRecDepth 20000 in
theorem gX6_faultOfKnock_X6_refuse : GoodIn wsX6_faultOfKnock (wsV RX6 425 RX6 yX6_refuse wsX6_refuse) := goodIn_app (goodIn_of _ (by decide +kernel)) ggX6_faultOfKnock_X6_refuse
set_option maxRecDepth 20000 in
theorem ggX6_faultOfKnock_X1_latchesDown : GoodIn wsX6_faultOfKnock wsX1_latchesDown := goodIn_r _ [30, 10, 19, 31, 43, 44, 45, 46, 47, 48, 49, 50, 51, 52, 53, 54, 55, 56, 57, 58, 59, 60, 61, 62, 63, 64] (by decide +kernel) (by decide +kernel)
set_option maxRecDepth 20000 in
theorem gX6_faultOfKnock_X1_latchesDown : GoodIn wsX6_faultOfKnock (wsV RX6 327 RX1 yX1_latchesDown wsX1_latchesDown) := goodIn_app (goodIn_of _ (by decide +kernel)) ggX6_faultOfKnock_X1_latchesDown
theorem dX6_faultOfKnock_0 : decode cX6_faultOfKnock 0 = .ok (.aload_n 0, 1) := by decide +kernel
theorem dX6_faultOfKnock_1 : decode cX6_faultOfKnock 1 = .ok (.getfield 10, 3) := by decide +kernel
theorem dX6_faultOfKnock_4 : decode cX6_faultOfKnock 4 = .ok (.iload_n 1, 1) := by decide +kernel
theorem dX6_faultOfKnock_5 : decode cX6_faultOfKnock 5 = .ok (.invokevirtual 409, 3) := by decide +kernel
theorem dX6_faultOfKnock_8 : decode cX6_faultOfKnock 8 = .ok (.ifCond .ne 5, 3) := by decide +kernel
theorem dX6_faultOfKnock_11 : decode cX6_faultOfKnock 11 = .ok (.iconst 2, 1) := by decide +kernel
theorem dX6_faultOfKnock_12 : decode cX6_faultOfKnock 12 = .ok (.ireturn, 1) := by decide +kernel
theorem dX6_faultOfKnock_13 : decode cX6_faultOfKnock 13 = .ok (.iload_n 2, 1) := by decide +kernel
theorem dX6_faultOfKnock_14 : decode cX6_faultOfKnock 14 = .ok (.iconst 3, 1) := by decide +kernel
theorem dX6_faultOfKnock_15 : decode cX6_faultOfKnock 15 = .ok (.invokestatic 178, 3) := by decide +kernel
theorem dX6_faultOfKnock_18 : decode cX6_faultOfKnock 18 = .ok (.ifCond .eq 11, 3) := by decide +kernel
theorem dX6_faultOfKnock_21 : decode cX6_faultOfKnock 21 = .ok (.iload_n 3, 1) := by decide +kernel
theorem dX6_faultOfKnock_22 : decode cX6_faultOfKnock 22 = .ok (.iconst 4, 1) := by decide +kernel
theorem dX6_faultOfKnock_23 : decode cX6_faultOfKnock 23 = .ok (.invokestatic 178, 3) := by decide +kernel
theorem dX6_faultOfKnock_26 : decode cX6_faultOfKnock 26 = .ok (.ifCond .ne 5, 3) := by decide +kernel
theorem dX6_faultOfKnock_29 : decode cX6_faultOfKnock 29 = .ok (.iconst 1, 1) := by decide +kernel
theorem dX6_faultOfKnock_30 : decode cX6_faultOfKnock 30 = .ok (.ireturn, 1) := by decide +kernel
theorem dX6_faultOfKnock_31 : decode cX6_faultOfKnock 31 = .ok (.aload_n 0, 1) := by decide +kernel
theorem dX6_faultOfKnock_32 : decode cX6_faultOfKnock 32 = .ok (.getfield 10, 3) := by decide +kernel
theorem dX6_faultOfKnock_35 : decode cX6_faultOfKnock 35 = .ok (.getfield 128, 3) := by decide +kernel
theorem dX6_faultOfKnock_38 : decode cX6_faultOfKnock 38 = .ok (.iload_n 1, 1) := by decide +kernel
theorem dX6_faultOfKnock_39 : decode cX6_faultOfKnock 39 = .ok (.aaload, 1) := by decide +kernel
theorem dX6_faultOfKnock_40 : decode cX6_faultOfKnock 40 = .ok (.getfield 156, 3) := by decide +kernel
theorem dX6_faultOfKnock_43 : decode cX6_faultOfKnock 43 = .ok (.ifCond .eq 16, 3) := by decide +kernel
theorem dX6_faultOfKnock_46 : decode cX6_faultOfKnock 46 = .ok (.aload_n 0, 1) := by decide +kernel
theorem dX6_faultOfKnock_47 : decode cX6_faultOfKnock 47 = .ok (.iconst 4, 1) := by decide +kernel
theorem dX6_faultOfKnock_48 : decode cX6_faultOfKnock 48 = .ok (.aload_n 0, 1) := by decide +kernel
theorem dX6_faultOfKnock_49 : decode cX6_faultOfKnock 49 = .ok (.getfield 10, 3) := by decide +kernel
theorem dX6_faultOfKnock_52 : decode cX6_faultOfKnock 52 = .ok (.invokevirtual 323, 3) := by decide +kernel
theorem dX6_faultOfKnock_55 : decode cX6_faultOfKnock 55 = .ok (.invokevirtual 425, 3) := by decide +kernel
theorem dX6_faultOfKnock_58 : decode cX6_faultOfKnock 58 = .ok (.ireturn, 1) := by decide +kernel
theorem dX6_faultOfKnock_59 : decode cX6_faultOfKnock 59 = .ok (.aload_n 0, 1) := by decide +kernel
theorem dX6_faultOfKnock_60 : decode cX6_faultOfKnock 60 = .ok (.getfield 10, 3) := by decide +kernel
theorem dX6_faultOfKnock_63 : decode cX6_faultOfKnock 63 = .ok (.getfield 128, 3) := by decide +kernel
theorem dX6_faultOfKnock_66 : decode cX6_faultOfKnock 66 = .ok (.iload_n 1, 1) := by decide +kernel
theorem dX6_faultOfKnock_67 : decode cX6_faultOfKnock 67 = .ok (.aaload, 1) := by decide +kernel
theorem dX6_faultOfKnock_68 : decode cX6_faultOfKnock 68 = .ok (.getfield 153, 3) := by decide +kernel
theorem dX6_faultOfKnock_71 : decode cX6_faultOfKnock 71 = .ok (.ifCond .eq 18, 3) := by decide +kernel
theorem dX6_faultOfKnock_74 : decode cX6_faultOfKnock 74 = .ok (.aload_n 0, 1) := by decide +kernel
theorem dX6_faultOfKnock_75 : decode cX6_faultOfKnock 75 = .ok (.iconst 3, 1) := by decide +kernel
theorem dX6_faultOfKnock_76 : decode cX6_faultOfKnock 76 = .ok (.aload_n 0, 1) := by decide +kernel
theorem dX6_faultOfKnock_77 : decode cX6_faultOfKnock 77 = .ok (.getfield 10, 3) := by decide +kernel
theorem dX6_faultOfKnock_80 : decode cX6_faultOfKnock 80 = .ok (.invokevirtual 327, 3) := by decide +kernel
theorem dX6_faultOfKnock_83 : decode cX6_faultOfKnock 83 = .ok (.invokevirtual 425, 3) := by decide +kernel
theorem dX6_faultOfKnock_86 : decode cX6_faultOfKnock 86 = .ok (.goto 4, 3) := by decide +kernel
theorem dX6_faultOfKnock_89 : decode cX6_faultOfKnock 89 = .ok (.iconst 0, 1) := by decide +kernel
theorem dX6_faultOfKnock_90 : decode cX6_faultOfKnock 90 = .ok (.ireturn, 1) := by decide +kernel
set_option maxRecDepth 20000 in
theorem ggX6_faultOfShut_X1_isDoor : GoodIn wsX6_faultOfShut wsX1_isDoor := goodIn_r _ [8, 9, 10, 11, 12, 36, 37, 38, 39, 40, 41, 42, 43, 44, 45, 46, 47] (by decide +kernel) (by decide +kernel)
set_option maxRecDepth 20000 in
theorem gX6_faultOfShut_X1_isDoor : GoodIn wsX6_faultOfShut (wsV RX6 409 RX1 yX1_isDoor wsX1_isDoor) := goodIn_app (goodIn_of _ (by decide +kernel)) ggX6_faultOfShut_X1_isDoor
set_option maxRecDepth 20000 in
theorem ggX6_faultOfShut_X1_openDoors : GoodIn wsX6_faultOfShut wsX1_openDoors := goodIn_r _ [16, 9, 17, 18, 36, 37, 38, 39, 40, 41, 42, 43, 44, 45, 46, 47, 48, 49, 50, 51, 52, 53, 54, 55, 56, 57] (by decide +kernel) (by decide +kernel)
set_option maxRecDepth 20000 in
theorem gX6_faultOfShut_X1_openDoors : GoodIn wsX6_faultOfShut (wsV RX6 323 RX1 yX1_openDoors wsX1_openDoors) := goodIn_app (goodIn_of _ (by decide +kernel)) ggX6_faultOfShut_X1_openDoors
set_option maxRecDepth 20000 in
theorem ggX6_faultOfShut_X6_refuse : GoodIn wsX6_faultOfShut wsX6_refuse := goodIn_r _ [22, 23, 24, 25, 26, 27, 28, 29, 30, 31, 32, 33, 34, 35] (by decide +kernel) (by decide +kernel)
set_option maxRecDepth 20000 in
theorem gX6_faultOfShut_X6_refuse : GoodIn wsX6_faultOfShut (wsV RX6 425 RX6 yX6_refuse wsX6_refuse) := goodIn_app (goodIn_of _ (by decide +kernel)) ggX6_faultOfShut_X6_refuse
theorem dX6_faultOfShut_0 : decode cX6_faultOfShut 0 = .ok (.aload_n 0, 1) := by decide +kernel
theorem dX6_faultOfShut_1 : decode cX6_faultOfShut 1 = .ok (.getfield 10, 3) := by decide +kernel
theorem dX6_faultOfShut_4 : decode cX6_faultOfShut 4 = .ok (.iload_n 1, 1) := by decide +kernel
theorem dX6_faultOfShut_5 : decode cX6_faultOfShut 5 = .ok (.invokevirtual 409, 3) := by decide +kernel
theorem dX6_faultOfShut_8 : decode cX6_faultOfShut 8 = .ok (.ifCond .ne 5, 3) := by decide +kernel
theorem dX6_faultOfShut_11 : decode cX6_faultOfShut 11 = .ok (.iconst 2, 1) := by decide +kernel
theorem dX6_faultOfShut_12 : decode cX6_faultOfShut 12 = .ok (.ireturn, 1) := by decide +kernel
theorem dX6_faultOfShut_13 : decode cX6_faultOfShut 13 = .ok (.aload_n 0, 1) := by decide +kernel
theorem dX6_faultOfShut_14 : decode cX6_faultOfShut 14 = .ok (.getfield 10, 3) := by decide +kernel
theorem dX6_faultOfShut_17 : decode cX6_faultOfShut 17 = .ok (.getfield 128, 3) := by decide +kernel
theorem dX6_faultOfShut_20 : decode cX6_faultOfShut 20 = .ok (.iload_n 1, 1) := by decide +kernel
theorem dX6_faultOfShut_21 : decode cX6_faultOfShut 21 = .ok (.aaload, 1) := by decide +kernel
theorem dX6_faultOfShut_22 : decode cX6_faultOfShut 22 = .ok (.getfield 156, 3) := by decide +kernel
theorem dX6_faultOfShut_25 : decode cX6_faultOfShut 25 = .ok (.ifCond .eq 7, 3) := by decide +kernel
theorem dX6_faultOfShut_28 : decode cX6_faultOfShut 28 = .ok (.iconst 0, 1) := by decide +kernel
theorem dX6_faultOfShut_29 : decode cX6_faultOfShut 29 = .ok (.goto 15, 3) := by decide +kernel
theorem dX6_faultOfShut_32 : decode cX6_faultOfShut 32 = .ok (.aload_n 0, 1) := by decide +kernel
theorem dX6_faultOfShut_33 : decode cX6_faultOfShut 33 = .ok (.iconst 5, 1) := by decide +kernel
theorem dX6_faultOfShut_34 : decode cX6_faultOfShut 34 = .ok (.aload_n 0, 1) := by decide +kernel
theorem dX6_faultOfShut_35 : decode cX6_faultOfShut 35 = .ok (.getfield 10, 3) := by decide +kernel
theorem dX6_faultOfShut_38 : decode cX6_faultOfShut 38 = .ok (.invokevirtual 323, 3) := by decide +kernel
theorem dX6_faultOfShut_41 : decode cX6_faultOfShut 41 = .ok (.invokevirtual 425, 3) := by decide +kernel
theorem dX6_faultOfShut_44 : decode cX6_faultOfShut 44 = .ok (.ireturn, 1) := by decide +kernel
set_option maxRecDepth 20000 in
theorem ggX6_faultOfFree_X6_isBelow : GoodIn wsX6_faultOfFree wsX6_isBelow := goodIn_r _ [9] (by decide +kernel) (by decide +kernel)
set_option maxRecDepth 20000 in
theorem gX6_faultOfFree_X6_isBelow : GoodIn wsX6_faultOfFree (va_wsS RX6 178 yX6_isBelow wsX6_isBelow) := goodIn_app (goodIn_of _ (by decide +kernel)) ggX6_faultOfFree_X6_isBelow
set_option maxRecDepth 20000 in
theorem ggX6_faultOfFree_X1_isDoor : GoodIn wsX6_faultOfFree wsX1_isDoor := goodIn_r _ [14, 15, 7, 8, 9, 42, 43, 44, 45, 46, 47, 48, 49, 50, 51, 52, 53] (by decide +kernel) (by decide +kernel)
set_option maxRecDepth 20000 in
theorem gX6_faultOfFree_X1_isDoor : GoodIn wsX6_faultOfFree (wsV RX6 409 RX1 yX1_isDoor wsX1_isDoor) := goodIn_app (goodIn_of _ (by decide +kernel)) ggX6_faultOfFree_X1_isDoor
set_option maxRecDepth 20000 in
theorem ggX6_faultOfFree_X6_refuse : GoodIn wsX6_faultOfFree wsX6_refuse := goodIn_r _ [19, 20, 21, 31, 32, 33, 34, 35, 36, 37, 38, 39, 40, 41] (by decide +kernel) (by decide +kernel)
set_option maxRecDepth 20000 in
theorem gX6_faultOfFree_X6_refuse : GoodIn wsX6_faultOfFree (wsV RX6 425 RX6 yX6_refuse wsX6_refuse) := goodIn_app (goodIn_of _ (by decide +kernel)) ggX6_faultOfFree_X6_refuse
set_option maxRecDepth 20000 in
theorem ggX6_faultOfFree_X1_fit : GoodIn wsX6_faultOfFree wsX1_fit := goodIn_ca (goodIn_r _ [25, 26, 27, 28, 29, 30, 42, 43, 44, 45, 46, 47, 48, 49, 50, 51, 52, 53, 54, 55, 56, 57, 58, 59, 60, 61, 62, 63] (by decide +kernel) (by decide +kernel)) (goodIn_sub (fun _ h => List.mem_cons_of_mem _ (List.mem_append_right _ h)) (by decide +kernel))
set_option maxRecDepth 20000 in
theorem gX6_faultOfFree_X1_fit : GoodIn wsX6_faultOfFree (wsV RX6 250 RX1 yX1_fit wsX1_fit) := goodIn_app (goodIn_of _ (by decide +kernel)) ggX6_faultOfFree_X1_fit
theorem dX6_faultOfFree_0 : decode cX6_faultOfFree 0 = .ok (.iload_n 1, 1) := by decide +kernel
theorem dX6_faultOfFree_1 : decode cX6_faultOfFree 1 = .ok (.aload_n 0, 1) := by decide +kernel
theorem dX6_faultOfFree_2 : decode cX6_faultOfFree 2 = .ok (.getfield 10, 3) := by decide +kernel
theorem dX6_faultOfFree_5 : decode cX6_faultOfFree 5 = .ok (.getfield 247, 3) := by decide +kernel
theorem dX6_faultOfFree_8 : decode cX6_faultOfFree 8 = .ok (.invokestatic 178, 3) := by decide +kernel
theorem dX6_faultOfFree_11 : decode cX6_faultOfFree 11 = .ok (.ifCond .eq 14, 3) := by decide +kernel
theorem dX6_faultOfFree_14 : decode cX6_faultOfFree 14 = .ok (.aload_n 0, 1) := by decide +kernel
theorem dX6_faultOfFree_15 : decode cX6_faultOfFree 15 = .ok (.getfield 10, 3) := by decide +kernel
theorem dX6_faultOfFree_18 : decode cX6_faultOfFree 18 = .ok (.iload_n 2, 1) := by decide +kernel
theorem dX6_faultOfFree_19 : decode cX6_faultOfFree 19 = .ok (.invokevirtual 409, 3) := by decide +kernel
theorem dX6_faultOfFree_22 : decode cX6_faultOfFree 22 = .ok (.ifCond .ne 5, 3) := by decide +kernel
theorem dX6_faultOfFree_25 : decode cX6_faultOfFree 25 = .ok (.iconst 2, 1) := by decide +kernel
theorem dX6_faultOfFree_26 : decode cX6_faultOfFree 26 = .ok (.ireturn, 1) := by decide +kernel
theorem dX6_faultOfFree_27 : decode cX6_faultOfFree 27 = .ok (.aload_n 0, 1) := by decide +kernel
theorem dX6_faultOfFree_28 : decode cX6_faultOfFree 28 = .ok (.getfield 10, 3) := by decide +kernel
theorem dX6_faultOfFree_31 : decode cX6_faultOfFree 31 = .ok (.getfield 128, 3) := by decide +kernel
theorem dX6_faultOfFree_34 : decode cX6_faultOfFree 34 = .ok (.iload_n 2, 1) := by decide +kernel
theorem dX6_faultOfFree_35 : decode cX6_faultOfFree 35 = .ok (.aaload, 1) := by decide +kernel
theorem dX6_faultOfFree_36 : decode cX6_faultOfFree 36 = .ok (.getfield 153, 3) := by decide +kernel
theorem dX6_faultOfFree_39 : decode cX6_faultOfFree 39 = .ok (.ifCond .ne 22, 3) := by decide +kernel
theorem dX6_faultOfFree_42 : decode cX6_faultOfFree 42 = .ok (.aload_n 0, 1) := by decide +kernel
theorem dX6_faultOfFree_43 : decode cX6_faultOfFree 43 = .ok (.bipush 6, 2) := by decide +kernel
theorem dX6_faultOfFree_45 : decode cX6_faultOfFree 45 = .ok (.aload_n 0, 1) := by decide +kernel
theorem dX6_faultOfFree_46 : decode cX6_faultOfFree 46 = .ok (.getfield 10, 3) := by decide +kernel
theorem dX6_faultOfFree_49 : decode cX6_faultOfFree 49 = .ok (.getfield 128, 3) := by decide +kernel
theorem dX6_faultOfFree_52 : decode cX6_faultOfFree 52 = .ok (.iload_n 2, 1) := by decide +kernel
theorem dX6_faultOfFree_53 : decode cX6_faultOfFree 53 = .ok (.aaload, 1) := by decide +kernel
theorem dX6_faultOfFree_54 : decode cX6_faultOfFree 54 = .ok (.getfield 150, 3) := by decide +kernel
theorem dX6_faultOfFree_57 : decode cX6_faultOfFree 57 = .ok (.invokevirtual 425, 3) := by decide +kernel
theorem dX6_faultOfFree_60 : decode cX6_faultOfFree 60 = .ok (.ireturn, 1) := by decide +kernel
theorem dX6_faultOfFree_61 : decode cX6_faultOfFree 61 = .ok (.aload_n 0, 1) := by decide +kernel
theorem dX6_faultOfFree_62 : decode cX6_faultOfFree 62 = .ok (.getfield 10, 3) := by decide +kernel
theorem dX6_faultOfFree_65 : decode cX6_faultOfFree 65 = .ok (.iload_n 1, 1) := by decide +kernel
theorem dX6_faultOfFree_66 : decode cX6_faultOfFree 66 = .ok (.iload_n 2, 1) := by decide +kernel
theorem dX6_faultOfFree_67 : decode cX6_faultOfFree 67 = .ok (.invokevirtual 250, 3) := by decide +kernel
theorem dX6_faultOfFree_70 : decode cX6_faultOfFree 70 = .ok (.istore_n 3, 1) := by decide +kernel
theorem dX6_faultOfFree_71 : decode cX6_faultOfFree 71 = .ok (.iload_n 3, 1) := by decide +kernel
theorem dX6_faultOfFree_72 : decode cX6_faultOfFree 72 = .ok (.iconst 2, 1) := by decide +kernel
theorem dX6_faultOfFree_73 : decode cX6_faultOfFree 73 = .ok (.if_icmp .ne 7, 3) := by decide +kernel
theorem dX6_faultOfFree_76 : decode cX6_faultOfFree 76 = .ok (.iconst 0, 1) := by decide +kernel
theorem dX6_faultOfFree_77 : decode cX6_faultOfFree 77 = .ok (.goto 10, 3) := by decide +kernel
theorem dX6_faultOfFree_80 : decode cX6_faultOfFree 80 = .ok (.aload_n 0, 1) := by decide +kernel
theorem dX6_faultOfFree_81 : decode cX6_faultOfFree 81 = .ok (.bipush 7, 2) := by decide +kernel
theorem dX6_faultOfFree_83 : decode cX6_faultOfFree 83 = .ok (.iload_n 3, 1) := by decide +kernel
theorem dX6_faultOfFree_84 : decode cX6_faultOfFree 84 = .ok (.invokevirtual 425, 3) := by decide +kernel
theorem dX6_faultOfFree_87 : decode cX6_faultOfFree 87 = .ok (.ireturn, 1) := by decide +kernel
set_option maxRecDepth 20000 in
theorem ggX6_firstRefused_X2_rewind : GoodIn wsX6_firstRefused wsX2_rewind := goodIn_r _ [6, 7, 372, 373, 374, 375, 376, 377] (by decide +kernel) (by decide +kernel)
set_option maxRecDepth 20000 in
theorem gX6_firstRefused_X2_rewind : GoodIn wsX6_firstRefused (wsV RX6 434 RX2 yX2_rewind wsX2_rewind) := goodIn_app (goodIn_of _ (by decide +kernel)) ggX6_firstRefused_X2_rewind
set_option maxRecDepth 20000 in
theorem ggX6_firstRefused_X2_takeSign : GoodIn wsX6_firstRefused wsX2_takeSign := goodIn_ca (goodIn_r _ [11, 7, 12, 13, 372, 373, 374, 375, 376, 377] (by decide +kernel) (by decide +kernel)) (goodIn_sub (fun _ h => List.mem_cons_of_mem _ (List.mem_append_right _ h)) (by decide +kernel))
set_option maxRecDepth 20000 in
theorem gX6_firstRefused_X2_takeSign : GoodIn wsX6_firstRefused (wsV RX6 437 RX2 yX2_takeSign wsX2_takeSign) := goodIn_app (goodIn_of _ (by decide +kernel)) ggX6_firstRefused_X2_takeSign
set_option maxRecDepth 20000 in
theorem ggX6_firstRefused_X2_takeOrder : GoodIn wsX6_firstRefused wsX2_takeOrder := goodIn_ca (goodIn_r _ [17, 7, 18, 19, 20, 21, 22, 23, 24, 5, 25, 26, 27, 28, 29, 30, 12, 13, 31, 32, 33, 34, 35, 36, 37, 38, 39, 40, 41, 42, 43, 44, 45, 46, 47, 48, 49, 50, 51, 52, 53, 54, 55, 56, 57, 58, 59, 60, 61, 62, 63, 64, 65, 66, 67, 68, 69, 70, 71, 72, 73, 74, 75, 76, 77, 78, 79, 80, 81, 82, 83, 84, 85, 86, 87, 88, 89, 90, 91, 92, 93, 94, 95, 96, 97, 98, 99, 100, 101, 102, 103, 104, 105, 106, 107, 108, 109, 110, 111, 112, 113, 114, 115, 116, 117, 118, 119, 120, 121, 122, 123, 124, 125, 126, 127, 128, 129, 130, 131, 132, 133, 134, 135, 136, 137, 138, 139, 140, 141, 142, 143, 144, 145, 146, 147, 148, 149, 150, 151, 152, 372, 373, 374, 375, 376, 377, 378, 379, 380, 381] (by decide +kernel) (by decide +kernel)) (goodIn_sub (fun _ h => List.mem_cons_of_mem _ (List.mem_append_right _ h)) (by decide +kernel))
set_option maxRecDepth 20000 in
theorem gX6_firstRefused_X2_takeOrder : GoodIn wsX6_firstRefused (wsV RX6 441 RX2 yX2_takeOrder wsX2_takeOrder) := goodIn_app (goodIn_of _ (by decide +kernel)) ggX6_firstRefused_X2_takeOrder
set_option maxRecDepth 20000 in
theorem ggX6_firstRefused_X6_carryOut : GoodIn wsX6_firstRefused wsX6_carryOut := goodIn_ca (goodIn_r _ [157, 1, 158, 159, 160, 161, 162, 156, 163, 164, 165, 166, 167, 168, 169, 170, 171, 172, 173, 174, 175, 176, 177, 178, 179, 180, 181, 182, 183, 184, 185, 186, 187, 188, 189, 190, 191, 192, 193, 194, 195, 196, 197, 198, 199, 200, 201, 202, 203, 204, 205, 206, 207, 208, 209, 210, 211, 212, 213, 214, 215, 216, 217, 218, 219, 220, 221, 222, 223, 224, 225, 226, 227, 228, 229, 230, 231, 232, 233, 234, 235, 236, 237, 238, 239, 240, 241, 242, 243, 244, 245, 246, 247, 248, 249, 250, 251, 252, 253, 254, 255, 256, 257, 258, 259, 260, 261, 262, 263, 264, 265, 266, 267, 268, 269, 270, 271, 272, 273, 274, 275, 276, 277, 278, 279, 280, 281, 282, 283, 284, 285, 286, 287, 288, 289, 290, 291, 292, 293, 294, 295, 296, 297, 298, 299, 300, 301, 302, 303, 304, 305, 306, 307, 308, 309, 310, 311, 312, 313, 314, 315, 316, 317, 318, 319, 320, 321, 322, 323, 324, 325, 326, 327, 328, 329, 330, 331, 332, 333, 334, 335, 336, 337, 338, 339, 340, 341, 342, 343, 344, 345, 346, 347, 348, 349, 350, 351, 352, 353, 354, 355, 356, 357, 358, 359, 360, 361, 362, 363, 364, 365, 366, 367, 368, 369, 370, 371, 372, 373, 374, 375, 376, 377, 382, 383, 384, 385, 386, 387, 388, 389, 390, 391, 392, 393, 394, 395, 396, 397, 398, 399, 400, 401, 402, 403] (by decide +kernel) (by decide +kernel)) (goodIn_sub (fun _ h => List.mem_cons_of_mem _ (List.mem_append_right _ h)) (by decide +kernel))
set_option maxRecDepth 20000 in
theorem gX6_firstRefused_X6_carryOut : GoodIn wsX6_firstRefused (wsV RX6 444 RX6 yX6_carryOut wsX6_carryOut) := goodIn_app (goodIn_of _ (by decide +kernel)) ggX6_firstRefused_X6_carryOut
theorem dX6_firstRefused_0 : decode cX6_firstRefused 0 = .ok (.aload_n 0, 1) := by decide +kernel
theorem dX6_firstRefused_1 : decode cX6_firstRefused 1 = .ok (.getfield 43, 3) := by decide +kernel
theorem dX6_firstRefused_4 : decode cX6_firstRefused 4 = .ok (.invokevirtual 434, 3) := by decide +kernel
theorem dX6_firstRefused_7 : decode cX6_firstRefused 7 = .ok (.iconst 0, 1) := by decide +kernel
theorem dX6_firstRefused_8 : decode cX6_firstRefused 8 = .ok (.istore_n 2, 1) := by decide +kernel
theorem dX6_firstRefused_9 : decode cX6_firstRefused 9 = .ok (.iload_n 2, 1) := by decide +kernel
theorem dX6_firstRefused_10 : decode cX6_firstRefused 10 = .ok (.iload_n 1, 1) := by decide +kernel
theorem dX6_firstRefused_11 : decode cX6_firstRefused 11 = .ok (.if_icmp .ge 42, 3) := by decide +kernel
theorem dX6_firstRefused_14 : decode cX6_firstRefused 14 = .ok (.iload_n 2, 1) := by decide +kernel
theorem dX6_firstRefused_15 : decode cX6_firstRefused 15 = .ok (.ifCond .le 13, 3) := by decide +kernel
theorem dX6_firstRefused_18 : decode cX6_firstRefused 18 = .ok (.aload_n 0, 1) := by decide +kernel
theorem dX6_firstRefused_19 : decode cX6_firstRefused 19 = .ok (.getfield 43, 3) := by decide +kernel
theorem dX6_firstRefused_22 : decode cX6_firstRefused 22 = .ok (.bipush 59, 2) := by decide +kernel
theorem dX6_firstRefused_24 : decode cX6_firstRefused 24 = .ok (.invokevirtual 437, 3) := by decide +kernel
theorem dX6_firstRefused_27 : decode cX6_firstRefused 27 = .ok (.pop, 1) := by decide +kernel
theorem dX6_firstRefused_28 : decode cX6_firstRefused 28 = .ok (.aload_n 0, 1) := by decide +kernel
theorem dX6_firstRefused_29 : decode cX6_firstRefused 29 = .ok (.getfield 43, 3) := by decide +kernel
theorem dX6_firstRefused_32 : decode cX6_firstRefused 32 = .ok (.invokevirtual 441, 3) := by decide +kernel
theorem dX6_firstRefused_35 : decode cX6_firstRefused 35 = .ok (.ifCond .eq 10, 3) := by decide +kernel
theorem dX6_firstRefused_38 : decode cX6_firstRefused 38 = .ok (.aload_n 0, 1) := by decide +kernel
theorem dX6_firstRefused_39 : decode cX6_firstRefused 39 = .ok (.invokevirtual 444, 3) := by decide +kernel
theorem dX6_firstRefused_42 : decode cX6_firstRefused 42 = .ok (.ifCond .eq 5, 3) := by decide +kernel
theorem dX6_firstRefused_45 : decode cX6_firstRefused 45 = .ok (.iload_n 2, 1) := by decide +kernel
theorem dX6_firstRefused_46 : decode cX6_firstRefused 46 = .ok (.ireturn, 1) := by decide +kernel
theorem dX6_firstRefused_47 : decode cX6_firstRefused 47 = .ok (.iinc 2 1, 3) := by decide +kernel
theorem dX6_firstRefused_50 : decode cX6_firstRefused 50 = .ok (.goto (-41), 3) := by decide +kernel
theorem dX6_firstRefused_53 : decode cX6_firstRefused 53 = .ok (.iconst (-1), 1) := by decide +kernel
theorem dX6_firstRefused_54 : decode cX6_firstRefused 54 = .ok (.ireturn, 1) := by decide +kernel
set_option maxRecDepth 20000 in
theorem ggX6_carryOut_X6_carryOutDoor : GoodIn wsX6_carryOut wsX6_carryOutDoor := goodIn_ca (goodIn_r _ [8, 9, 10, 11, 12, 7, 13, 14, 15, 16, 17, 18, 19, 20, 21, 22, 23, 24, 25, 26, 27, 28, 29, 30, 31, 32, 33, 34, 35, 36, 37, 38, 39, 40, 41, 42, 43, 44, 45, 206, 207, 208, 209, 210, 211, 212, 213, 214, 215, 216, 223, 224, 225, 226, 227, 228, 229, 230, 231, 232, 233, 234, 235, 236, 237, 238, 239, 240, 241, 242, 243, 244] (by decide +kernel) (by decide +kernel)) (goodIn_sub (fun _ h => List.mem_cons_of_mem _ (List.mem_append_right _ h)) (by decide +kernel))
set_option maxRecDepth 20000 in
theorem gX6_carryOut_X6_carryOutDoor : GoodIn wsX6_carryOut (wsV RX6 453 RX6 yX6_carryOutDoor wsX6_carryOutDoor) := goodIn_app (goodIn_of _ (by decide +kernel)) ggX6_carryOut_X6_carryOutDoor
set_option maxRecDepth 20000 in
theorem ggX6_carryOut_X6_carryOutSill : GoodIn wsX6_carryOut wsX6_carryOutSill := goodIn_ca (goodIn_r _ [49, 9, 50, 51, 52, 7, 53, 54, 15, 16, 17, 18, 19, 20, 21, 22, 23, 55, 56, 57, 27, 58, 59, 60, 206, 207, 208, 209, 210, 211, 212, 213, 214, 215, 216, 223, 224, 225, 226, 227, 228, 229, 230, 231, 232, 233, 234] (by decide +kernel) (by decide +kernel)) (goodIn_sub (fun _ h => List.mem_cons_of_mem _ (List.mem_append_right _ h)) (by decide +kernel))
set_option maxRecDepth 20000 in
theorem gX6_carryOut_X6_carryOutSill : GoodIn wsX6_carryOut (wsV RX6 457 RX6 yX6_carryOutSill wsX6_carryOutSill) := goodIn_app (goodIn_of _ (by decide +kernel)) ggX6_carryOut_X6_carryOutSill
set_option maxRecDepth 20000 in
theorem ggX6_carryOut_X6_carryOutGovern : GoodIn wsX6_carryOut wsX6_carryOutGovern := goodIn_ca (goodIn_r _ [64, 9, 65, 66, 67, 7, 68, 54, 69, 15, 16, 17, 18, 19, 20, 21, 22, 23, 70, 71, 72, 27, 73, 59, 206, 207, 208, 209, 210, 211, 212, 213, 214, 215, 216, 223, 224, 225, 226, 227, 228, 229, 230, 231, 232, 233, 234] (by decide +kernel) (by decide +kernel)) (goodIn_sub (fun _ h => List.mem_cons_of_mem _ (List.mem_append_right _ h)) (by decide +kernel))
set_option maxRecDepth 20000 in
theorem gX6_carryOut_X6_carryOutGovern : GoodIn wsX6_carryOut (wsV RX6 460 RX6 yX6_carryOutGovern wsX6_carryOutGovern) := goodIn_app (goodIn_of _ (by decide +kernel)) ggX6_carryOut_X6_carryOutGovern
set_option maxRecDepth 20000 in
theorem ggX6_carryOut_X6_carryOutSet : GoodIn wsX6_carryOut wsX6_carryOutSet := goodIn_ca (goodIn_r _ [77, 9, 78, 79, 80, 7, 81, 54, 82, 83, 84, 85, 86, 27, 87, 30, 16, 17, 15, 18, 19, 20, 21, 22, 23, 88, 89, 90, 91, 29, 92, 93, 94, 95, 96, 60, 59, 206, 207, 208, 209, 210, 211, 212, 213, 214, 215, 216, 223, 224, 225, 226, 227, 228, 229, 230, 231, 232, 233, 234, 235, 236, 237, 238, 239, 240, 241, 242, 243, 244] (by decide +kernel) (by decide +kernel)) (goodIn_sub (fun _ h => List.mem_cons_of_mem _ (List.mem_append_right _ h)) (by decide +kernel))
set_option maxRecDepth 20000 in
theorem gX6_carryOut_X6_carryOutSet : GoodIn wsX6_carryOut (wsV RX6 463 RX6 yX6_carryOutSet wsX6_carryOutSet) := goodIn_app (goodIn_of _ (by decide +kernel)) ggX6_carryOut_X6_carryOutSet
set_option maxRecDepth 20000 in
theorem ggX6_carryOut_X6_carryOutEnd : GoodIn wsX6_carryOut wsX6_carryOutEnd := goodIn_ca (goodIn_r _ [100, 9, 101, 102, 103, 7, 104, 15, 16, 17, 105, 106, 107, 27, 108, 109, 110, 111, 112, 18, 19, 20, 21, 22, 23, 113, 114, 115, 116, 117, 206, 207, 208, 209, 210, 211, 212, 213, 214, 215, 216, 223, 224, 225, 226, 227, 228, 229, 230, 231, 232, 233, 234] (by decide +kernel) (by decide +kernel)) (goodIn_sub (fun _ h => List.mem_cons_of_mem _ (List.mem_append_right _ h)) (by decide +kernel))
set_option maxRecDepth 20000 in
theorem gX6_carryOut_X6_carryOutEnd : GoodIn wsX6_carryOut (wsV RX6 466 RX6 yX6_carryOutEnd wsX6_carryOutEnd) := goodIn_app (goodIn_of _ (by decide +kernel)) ggX6_carryOut_X6_carryOutEnd
set_option maxRecDepth 20000 in
theorem ggX6_carryOut_X6_carryOutKey : GoodIn wsX6_carryOut wsX6_carryOutKey := goodIn_ca (goodIn_r _ [121, 9, 122, 123, 124, 7, 125, 126, 15, 16, 17, 127, 128, 129, 27, 130, 131, 132, 133, 18, 19, 20, 21, 22, 23, 134, 135, 136, 137, 206, 207, 208, 209, 210, 211, 212, 213, 214, 215, 216, 223, 224, 225, 226, 227, 228, 229, 230, 231, 232, 233, 234] (by decide +kernel) (by decide +kernel)) (goodIn_sub (fun _ h => List.mem_cons_of_mem _ (List.mem_append_right _ h)) (by decide +kernel))
set_option maxRecDepth 20000 in
theorem gX6_carryOut_X6_carryOutKey : GoodIn wsX6_carryOut (wsV RX6 469 RX6 yX6_carryOutKey wsX6_carryOutKey) := goodIn_app (goodIn_of _ (by decide +kernel)) ggX6_carryOut_X6_carryOutKey
set_option maxRecDepth 20000 in
theorem ggX6_carryOut_X6_carryOutKnock : GoodIn wsX6_carryOut wsX6_carryOutKnock := goodIn_ca (goodIn_r _ [141, 9, 142, 143, 144, 7, 145, 82, 146, 147, 84, 85, 86, 27, 87, 30, 16, 17, 15, 148, 149, 150, 151, 29, 152, 18, 19, 20, 21, 22, 23, 153, 154, 155, 156, 157, 158, 159, 160, 161, 162, 163, 164, 165, 166, 167, 168, 169, 170, 171, 172, 93, 94, 95, 96, 92, 60, 59, 206, 207, 208, 209, 210, 211, 212, 213, 214, 215, 216, 223, 224, 225, 226, 227, 228, 229, 230, 231, 232, 233, 234, 235, 236, 237, 238, 239, 240, 241, 242, 243, 244] (by decide +kernel) (by decide +kernel)) (goodIn_sub (fun _ h => List.mem_cons_of_mem _ (List.mem_append_right _ h)) (by decide +kernel))
set_option maxRecDepth 20000 in
theorem gX6_carryOut_X6_carryOutKnock : GoodIn wsX6_carryOut (wsV RX6 472 RX6 yX6_carryOutKnock wsX6_carryOutKnock) := goodIn_app (goodIn_of _ (by decide +kernel)) ggX6_carryOut_X6_carryOutKnock
set_option maxRecDepth 20000 in
theorem ggX6_carryOut_X6_carryOutShut : GoodIn wsX6_carryOut wsX6_carryOutShut := goodIn_ca (goodIn_r _ [176, 9, 177, 178, 179, 7, 180, 82, 146, 84, 85, 86, 27, 87, 30, 16, 17, 148, 149, 150, 151, 29, 152, 18, 19, 20, 21, 22, 23, 181, 182, 183, 184, 185, 206, 207, 208, 209, 210, 211, 212, 213, 214, 215, 216, 223, 224, 225, 226, 227, 228, 229, 230, 231, 232, 233, 234, 235, 236, 237, 238, 239, 240, 241, 242, 243, 244] (by decide +kernel) (by decide +kernel)) (goodIn_sub (fun _ h => List.mem_cons_of_mem _ (List.mem_append_right _ h)) (by decide +kernel))
set_option maxRecDepth 20000 in
theorem gX6_carryOut_X6_carryOutShut : GoodIn wsX6_carryOut (wsV RX6 475 RX6 yX6_carryOutShut wsX6_carryOutShut) := goodIn_app (goodIn_of _ (by decide +kernel)) ggX6_carryOut_X6_carryOutShut
set_option maxRecDepth 20000 in
theorem ggX6_carryOut_X6_carryOutFree : GoodIn wsX6_carryOut wsX6_carryOutFree := goodIn_ca (goodIn_r _ [189, 9, 190, 191, 192, 7, 193, 126, 82, 147, 194, 15, 16, 17, 84, 85, 86, 27, 87, 30, 18, 19, 20, 21, 22, 23, 195, 196, 197, 198, 132, 29, 199, 133, 171, 200, 201, 202, 203, 157, 164, 204, 205, 154, 155, 156, 206, 207, 208, 209, 210, 211, 212, 213, 214, 215, 216, 223, 224, 225, 226, 227, 228, 229, 230, 231, 232, 233, 234, 235, 236, 237, 238, 239, 240, 241, 242, 243, 244] (by decide +kernel) (by decide +kernel)) (goodIn_sub (fun _ h => List.mem_cons_of_mem _ (List.mem_append_right _ h)) (by decide +kernel))
set_option maxRecDepth 20000 in
theorem gX6_carryOut_X6_carryOutFree : GoodIn wsX6_carryOut (wsV RX6 478 RX6 yX6_carryOutFree wsX6_carryOutFree) := goodIn_app (goodIn_of _ (by decide +kernel)) ggX6_carryOut_X6_carryOutFree
theorem dX6_carryOut_0 : decode cX6_carryOut 0 = .ok (.aload_n 0, 1) := by decide +kernel
theorem dX6_carryOut_1 : decode cX6_carryOut 1 = .ok (.getfield 43, 3) := by decide +kernel
theorem dX6_carryOut_4 : decode cX6_carryOut 4 = .ok (.getfield 447, 3) := by decide +kernel
theorem dX6_carryOut_7 : decode cX6_carryOut 7 = .ok (.astore_n 1, 1) := by decide +kernel
theorem dX6_carryOut_8 : decode cX6_carryOut 8 = .ok (.aload_n 0, 1) := by decide +kernel
theorem dX6_carryOut_9 : decode cX6_carryOut 9 = .ok (.getfield 43, 3) := by decide +kernel
theorem dX6_carryOut_12 : decode cX6_carryOut 12 = .ok (.getfield 450, 3) := by decide +kernel
theorem dX6_carryOut_15 : decode cX6_carryOut 15 = .ok (.tableswitch 103 0 8 #[49, 55, 61, 67, 73, 79, 85, 91, 97], 49) := by decide +kernel
theorem dX6_carryOut_64 : decode cX6_carryOut 64 = .ok (.aload_n 0, 1) := by decide +kernel
theorem dX6_carryOut_65 : decode cX6_carryOut 65 = .ok (.aload_n 1, 1) := by decide +kernel
theorem dX6_carryOut_66 : decode cX6_carryOut 66 = .ok (.invokevirtual 453, 3) := by decide +kernel
theorem dX6_carryOut_69 : decode cX6_carryOut 69 = .ok (.ireturn, 1) := by decide +kernel
theorem dX6_carryOut_70 : decode cX6_carryOut 70 = .ok (.aload_n 0, 1) := by decide +kernel
theorem dX6_carryOut_71 : decode cX6_carryOut 71 = .ok (.aload_n 1, 1) := by decide +kernel
theorem dX6_carryOut_72 : decode cX6_carryOut 72 = .ok (.invokevirtual 457, 3) := by decide +kernel
theorem dX6_carryOut_75 : decode cX6_carryOut 75 = .ok (.ireturn, 1) := by decide +kernel
theorem dX6_carryOut_76 : decode cX6_carryOut 76 = .ok (.aload_n 0, 1) := by decide +kernel
theorem dX6_carryOut_77 : decode cX6_carryOut 77 = .ok (.aload_n 1, 1) := by decide +kernel
theorem dX6_carryOut_78 : decode cX6_carryOut 78 = .ok (.invokevirtual 460, 3) := by decide +kernel
theorem dX6_carryOut_81 : decode cX6_carryOut 81 = .ok (.ireturn, 1) := by decide +kernel
theorem dX6_carryOut_82 : decode cX6_carryOut 82 = .ok (.aload_n 0, 1) := by decide +kernel
theorem dX6_carryOut_83 : decode cX6_carryOut 83 = .ok (.aload_n 1, 1) := by decide +kernel
theorem dX6_carryOut_84 : decode cX6_carryOut 84 = .ok (.invokevirtual 463, 3) := by decide +kernel
theorem dX6_carryOut_87 : decode cX6_carryOut 87 = .ok (.ireturn, 1) := by decide +kernel
theorem dX6_carryOut_88 : decode cX6_carryOut 88 = .ok (.aload_n 0, 1) := by decide +kernel
theorem dX6_carryOut_89 : decode cX6_carryOut 89 = .ok (.aload_n 1, 1) := by decide +kernel
theorem dX6_carryOut_90 : decode cX6_carryOut 90 = .ok (.invokevirtual 466, 3) := by decide +kernel
theorem dX6_carryOut_93 : decode cX6_carryOut 93 = .ok (.ireturn, 1) := by decide +kernel
theorem dX6_carryOut_94 : decode cX6_carryOut 94 = .ok (.aload_n 0, 1) := by decide +kernel
theorem dX6_carryOut_95 : decode cX6_carryOut 95 = .ok (.aload_n 1, 1) := by decide +kernel
theorem dX6_carryOut_96 : decode cX6_carryOut 96 = .ok (.invokevirtual 469, 3) := by decide +kernel
theorem dX6_carryOut_99 : decode cX6_carryOut 99 = .ok (.ireturn, 1) := by decide +kernel
theorem dX6_carryOut_100 : decode cX6_carryOut 100 = .ok (.aload_n 0, 1) := by decide +kernel
theorem dX6_carryOut_101 : decode cX6_carryOut 101 = .ok (.aload_n 1, 1) := by decide +kernel
theorem dX6_carryOut_102 : decode cX6_carryOut 102 = .ok (.invokevirtual 472, 3) := by decide +kernel
theorem dX6_carryOut_105 : decode cX6_carryOut 105 = .ok (.ireturn, 1) := by decide +kernel
theorem dX6_carryOut_106 : decode cX6_carryOut 106 = .ok (.aload_n 0, 1) := by decide +kernel
theorem dX6_carryOut_107 : decode cX6_carryOut 107 = .ok (.aload_n 1, 1) := by decide +kernel
theorem dX6_carryOut_108 : decode cX6_carryOut 108 = .ok (.invokevirtual 475, 3) := by decide +kernel
theorem dX6_carryOut_111 : decode cX6_carryOut 111 = .ok (.ireturn, 1) := by decide +kernel
theorem dX6_carryOut_112 : decode cX6_carryOut 112 = .ok (.aload_n 0, 1) := by decide +kernel
theorem dX6_carryOut_113 : decode cX6_carryOut 113 = .ok (.aload_n 1, 1) := by decide +kernel
theorem dX6_carryOut_114 : decode cX6_carryOut 114 = .ok (.invokevirtual 478, 3) := by decide +kernel
theorem dX6_carryOut_117 : decode cX6_carryOut 117 = .ok (.ireturn, 1) := by decide +kernel
theorem dX6_carryOut_118 : decode cX6_carryOut 118 = .ok (.iconst 1, 1) := by decide +kernel
theorem dX6_carryOut_119 : decode cX6_carryOut 119 = .ok (.ireturn, 1) := by decide +kernel
set_option maxRecDepth 20000 in
theorem ggX6_carryOutDoor_X6_faultOfDoor : GoodIn wsX6_carryOutDoor wsX6_faultOfDoor := goodIn_r _ [6, 1, 7, 8, 9, 5, 10, 11, 12, 13, 14, 15, 16, 39, 40, 41, 42, 43, 44, 45, 46, 47, 48, 49, 50, 51, 52, 53, 54, 55, 56, 57, 58, 59, 60, 61] (by decide +kernel) (by decide +kernel)
set_option maxRecDepth 20000 in
theorem gX6_carryOutDoor_X6_faultOfDoor : GoodIn wsX6_carryOutDoor (wsV RX6 73 RX6 yX6_faultOfDoor wsX6_faultOfDoor) := goodIn_app (goodIn_of _ (by decide +kernel)) ggX6_carryOutDoor_X6_faultOfDoor
set_option maxRecDepth 20000 in
theorem ggX6_carryOutDoor_X1_addDoor : GoodIn wsX6_carryOutDoor wsX1_addDoor := goodIn_r _ [21, 22, 23, 24, 25, 26, 27, 28, 29, 30, 31, 32, 33, 34, 35, 36, 37, 38, 50, 51, 52, 53, 54, 55, 56, 57, 58, 59, 60, 61, 62, 63, 64, 65, 66, 67, 68, 69, 70, 71] (by decide +kernel) (by decide +kernel)
set_option maxRecDepth 20000 in
theorem gX6_carryOutDoor_X1_addDoor : GoodIn wsX6_carryOutDoor (wsV RX6 89 RX1 yX1_addDoor wsX1_addDoor) := goodIn_app (goodIn_of _ (by decide +kernel)) ggX6_carryOutDoor_X1_addDoor
theorem dX6_carryOutDoor_0 : decode cX6_carryOutDoor 0 = .ok (.aload_n 0, 1) := by decide +kernel
theorem dX6_carryOutDoor_1 : decode cX6_carryOutDoor 1 = .ok (.aload_n 1, 1) := by decide +kernel
theorem dX6_carryOutDoor_2 : decode cX6_carryOutDoor 2 = .ok (.iconst 0, 1) := by decide +kernel
theorem dX6_carryOutDoor_3 : decode cX6_carryOutDoor 3 = .ok (.iaload, 1) := by decide +kernel
theorem dX6_carryOutDoor_4 : decode cX6_carryOutDoor 4 = .ok (.aload_n 1, 1) := by decide +kernel
theorem dX6_carryOutDoor_5 : decode cX6_carryOutDoor 5 = .ok (.iconst 1, 1) := by decide +kernel
theorem dX6_carryOutDoor_6 : decode cX6_carryOutDoor 6 = .ok (.iaload, 1) := by decide +kernel
theorem dX6_carryOutDoor_7 : decode cX6_carryOutDoor 7 = .ok (.aload_n 1, 1) := by decide +kernel
theorem dX6_carryOutDoor_8 : decode cX6_carryOutDoor 8 = .ok (.iconst 3, 1) := by decide +kernel
theorem dX6_carryOutDoor_9 : decode cX6_carryOutDoor 9 = .ok (.iaload, 1) := by decide +kernel
theorem dX6_carryOutDoor_10 : decode cX6_carryOutDoor 10 = .ok (.aload_n 1, 1) := by decide +kernel
theorem dX6_carryOutDoor_11 : decode cX6_carryOutDoor 11 = .ok (.iconst 4, 1) := by decide +kernel
theorem dX6_carryOutDoor_12 : decode cX6_carryOutDoor 12 = .ok (.iaload, 1) := by decide +kernel
theorem dX6_carryOutDoor_13 : decode cX6_carryOutDoor 13 = .ok (.invokevirtual 73, 3) := by decide +kernel
theorem dX6_carryOutDoor_16 : decode cX6_carryOutDoor 16 = .ok (.istore_n 2, 1) := by decide +kernel
theorem dX6_carryOutDoor_17 : decode cX6_carryOutDoor 17 = .ok (.iload_n 2, 1) := by decide +kernel
theorem dX6_carryOutDoor_18 : decode cX6_carryOutDoor 18 = .ok (.ifCond .ne 26, 3) := by decide +kernel
theorem dX6_carryOutDoor_21 : decode cX6_carryOutDoor 21 = .ok (.aload_n 0, 1) := by decide +kernel
theorem dX6_carryOutDoor_22 : decode cX6_carryOutDoor 22 = .ok (.getfield 10, 3) := by decide +kernel
theorem dX6_carryOutDoor_25 : decode cX6_carryOutDoor 25 = .ok (.aload_n 1, 1) := by decide +kernel
theorem dX6_carryOutDoor_26 : decode cX6_carryOutDoor 26 = .ok (.iconst 0, 1) := by decide +kernel
theorem dX6_carryOutDoor_27 : decode cX6_carryOutDoor 27 = .ok (.iaload, 1) := by decide +kernel
theorem dX6_carryOutDoor_28 : decode cX6_carryOutDoor 28 = .ok (.aload_n 1, 1) := by decide +kernel
theorem dX6_carryOutDoor_29 : decode cX6_carryOutDoor 29 = .ok (.iconst 1, 1) := by decide +kernel
theorem dX6_carryOutDoor_30 : decode cX6_carryOutDoor 30 = .ok (.iaload, 1) := by decide +kernel
theorem dX6_carryOutDoor_31 : decode cX6_carryOutDoor 31 = .ok (.aload_n 1, 1) := by decide +kernel
theorem dX6_carryOutDoor_32 : decode cX6_carryOutDoor 32 = .ok (.iconst 2, 1) := by decide +kernel
theorem dX6_carryOutDoor_33 : decode cX6_carryOutDoor 33 = .ok (.iaload, 1) := by decide +kernel
theorem dX6_carryOutDoor_34 : decode cX6_carryOutDoor 34 = .ok (.aload_n 1, 1) := by decide +kernel
theorem dX6_carryOutDoor_35 : decode cX6_carryOutDoor 35 = .ok (.iconst 3, 1) := by decide +kernel
theorem dX6_carryOutDoor_36 : decode cX6_carryOutDoor 36 = .ok (.iaload, 1) := by decide +kernel
theorem dX6_carryOutDoor_37 : decode cX6_carryOutDoor 37 = .ok (.aload_n 1, 1) := by decide +kernel
theorem dX6_carryOutDoor_38 : decode cX6_carryOutDoor 38 = .ok (.iconst 4, 1) := by decide +kernel
theorem dX6_carryOutDoor_39 : decode cX6_carryOutDoor 39 = .ok (.iaload, 1) := by decide +kernel
theorem dX6_carryOutDoor_40 : decode cX6_carryOutDoor 40 = .ok (.invokevirtual 89, 3) := by decide +kernel
theorem dX6_carryOutDoor_43 : decode cX6_carryOutDoor 43 = .ok (.pop, 1) := by decide +kernel
theorem dX6_carryOutDoor_44 : decode cX6_carryOutDoor 44 = .ok (.iload_n 2, 1) := by decide +kernel
theorem dX6_carryOutDoor_45 : decode cX6_carryOutDoor 45 = .ok (.ireturn, 1) := by decide +kernel
set_option maxRecDepth 20000 in
theorem ggX6_carryOutSill_X6_faultOfThreshold : GoodIn wsX6_carryOutSill wsX6_faultOfThreshold := goodIn_r _ [6, 1, 7, 8, 9, 5, 10, 11, 12, 13, 14, 15, 16, 24, 25, 26, 27, 28, 29, 30, 31, 32, 33, 34, 35, 36, 37, 38, 39, 40, 41, 42, 43, 44, 45, 46] (by decide +kernel) (by decide +kernel)
set_option maxRecDepth 20000 in
theorem gX6_carryOutSill_X6_faultOfThreshold : GoodIn wsX6_carryOutSill (wsV RX6 93 RX6 yX6_faultOfThreshold wsX6_faultOfThreshold) := goodIn_app (goodIn_of _ (by decide +kernel)) ggX6_carryOutSill_X6_faultOfThreshold
set_option maxRecDepth 20000 in
theorem ggX6_carryOutSill_X1_addThreshold : GoodIn wsX6_carryOutSill wsX1_addThreshold := goodIn_ca (goodIn_r _ [21, 22, 23, 35, 36, 37, 38, 39, 40, 41, 42, 43, 44, 45, 46] (by decide +kernel) (by decide +kernel)) (goodIn_sub (fun _ h => List.mem_cons_of_mem _ (List.mem_append_right _ h)) (by decide +kernel))
set_option maxRecDepth 20000 in
theorem gX6_carryOutSill_X1_addThreshold : GoodIn wsX6_carryOutSill (wsV RX6 97 RX1 yX1_addThreshold wsX1_addThreshold) := goodIn_app (goodIn_of _ (by decide +kernel)) ggX6_carryOutSill_X1_addThreshold
theorem dX6_carryOutSill_0 : decode cX6_carryOutSill 0 = .ok (.aload_n 0, 1) := by decide +kernel
theorem dX6_carryOutSill_1 : decode cX6_carryOutSill 1 = .ok (.aload_n 1, 1) := by decide +kernel
theorem dX6_carryOutSill_2 : decode cX6_carryOutSill 2 = .ok (.iconst 0, 1) := by decide +kernel
theorem dX6_carryOutSill_3 : decode cX6_carryOutSill 3 = .ok (.iaload, 1) := by decide +kernel
theorem dX6_carryOutSill_4 : decode cX6_carryOutSill 4 = .ok (.invokevirtual 93, 3) := by decide +kernel
theorem dX6_carryOutSill_7 : decode cX6_carryOutSill 7 = .ok (.istore_n 2, 1) := by decide +kernel
theorem dX6_carryOutSill_8 : decode cX6_carryOutSill 8 = .ok (.iload_n 2, 1) := by decide +kernel
theorem dX6_carryOutSill_9 : decode cX6_carryOutSill 9 = .ok (.ifCond .ne 14, 3) := by decide +kernel
theorem dX6_carryOutSill_12 : decode cX6_carryOutSill 12 = .ok (.aload_n 0, 1) := by decide +kernel
theorem dX6_carryOutSill_13 : decode cX6_carryOutSill 13 = .ok (.getfield 10, 3) := by decide +kernel
theorem dX6_carryOutSill_16 : decode cX6_carryOutSill 16 = .ok (.aload_n 1, 1) := by decide +kernel
theorem dX6_carryOutSill_17 : decode cX6_carryOutSill 17 = .ok (.iconst 0, 1) := by decide +kernel
theorem dX6_carryOutSill_18 : decode cX6_carryOutSill 18 = .ok (.iaload, 1) := by decide +kernel
theorem dX6_carryOutSill_19 : decode cX6_carryOutSill 19 = .ok (.invokevirtual 97, 3) := by decide +kernel
theorem dX6_carryOutSill_22 : decode cX6_carryOutSill 22 = .ok (.pop, 1) := by decide +kernel
theorem dX6_carryOutSill_23 : decode cX6_carryOutSill 23 = .ok (.iload_n 2, 1) := by decide +kernel
theorem dX6_carryOutSill_24 : decode cX6_carryOutSill 24 = .ok (.ireturn, 1) := by decide +kernel
set_option maxRecDepth 20000 in
theorem ggX6_carryOutGovern_X6_faultOfGovern : GoodIn wsX6_carryOutGovern wsX6_faultOfGovern := goodIn_ca (goodIn_r _ [6, 1, 7, 8, 9, 10, 5, 11, 12, 13, 14, 15, 16, 17, 24, 25, 26, 27, 28, 29, 30, 31, 32, 33, 34, 35, 36, 37, 38, 39, 40, 41, 42, 43, 44, 45, 46] (by decide +kernel) (by decide +kernel)) (goodIn_sub (fun _ h => List.mem_cons_of_mem _ (List.mem_append_right _ h)) (by decide +kernel))
set_option maxRecDepth 20000 in
theorem gX6_carryOutGovern_X6_faultOfGovern : GoodIn wsX6_carryOutGovern (wsV RX6 100 RX6 yX6_faultOfGovern wsX6_faultOfGovern) := goodIn_app (goodIn_of _ (by decide +kernel)) ggX6_carryOutGovern_X6_faultOfGovern
set_option maxRecDepth 20000 in
theorem ggX6_carryOutGovern_X1_changeGoverned : GoodIn wsX6_carryOutGovern wsX1_changeGoverned := goodIn_ca (goodIn_r _ [22, 23, 35, 36, 37, 38, 39, 40, 41, 42, 43, 44, 45, 46] (by decide +kernel) (by decide +kernel)) (goodIn_sub (fun _ h => List.mem_cons_of_mem _ (List.mem_append_right _ h)) (by decide +kernel))
set_option maxRecDepth 20000 in
theorem gX6_carryOutGovern_X1_changeGoverned : GoodIn wsX6_carryOutGovern (wsV RX6 104 RX1 yX1_changeGoverned wsX1_changeGoverned) := goodIn_app (goodIn_of _ (by decide +kernel)) ggX6_carryOutGovern_X1_changeGoverned
theorem dX6_carryOutGovern_0 : decode cX6_carryOutGovern 0 = .ok (.aload_n 0, 1) := by decide +kernel
theorem dX6_carryOutGovern_1 : decode cX6_carryOutGovern 1 = .ok (.aload_n 1, 1) := by decide +kernel
theorem dX6_carryOutGovern_2 : decode cX6_carryOutGovern 2 = .ok (.iconst 0, 1) := by decide +kernel
theorem dX6_carryOutGovern_3 : decode cX6_carryOutGovern 3 = .ok (.iaload, 1) := by decide +kernel
theorem dX6_carryOutGovern_4 : decode cX6_carryOutGovern 4 = .ok (.aload_n 1, 1) := by decide +kernel
theorem dX6_carryOutGovern_5 : decode cX6_carryOutGovern 5 = .ok (.iconst 1, 1) := by decide +kernel
theorem dX6_carryOutGovern_6 : decode cX6_carryOutGovern 6 = .ok (.iaload, 1) := by decide +kernel
theorem dX6_carryOutGovern_7 : decode cX6_carryOutGovern 7 = .ok (.invokevirtual 100, 3) := by decide +kernel
theorem dX6_carryOutGovern_10 : decode cX6_carryOutGovern 10 = .ok (.istore_n 2, 1) := by decide +kernel
theorem dX6_carryOutGovern_11 : decode cX6_carryOutGovern 11 = .ok (.iload_n 2, 1) := by decide +kernel
theorem dX6_carryOutGovern_12 : decode cX6_carryOutGovern 12 = .ok (.ifCond .ne 17, 3) := by decide +kernel
theorem dX6_carryOutGovern_15 : decode cX6_carryOutGovern 15 = .ok (.aload_n 0, 1) := by decide +kernel
theorem dX6_carryOutGovern_16 : decode cX6_carryOutGovern 16 = .ok (.getfield 10, 3) := by decide +kernel
theorem dX6_carryOutGovern_19 : decode cX6_carryOutGovern 19 = .ok (.aload_n 1, 1) := by decide +kernel
theorem dX6_carryOutGovern_20 : decode cX6_carryOutGovern 20 = .ok (.iconst 0, 1) := by decide +kernel
theorem dX6_carryOutGovern_21 : decode cX6_carryOutGovern 21 = .ok (.iaload, 1) := by decide +kernel
theorem dX6_carryOutGovern_22 : decode cX6_carryOutGovern 22 = .ok (.aload_n 1, 1) := by decide +kernel
theorem dX6_carryOutGovern_23 : decode cX6_carryOutGovern 23 = .ok (.iconst 1, 1) := by decide +kernel
theorem dX6_carryOutGovern_24 : decode cX6_carryOutGovern 24 = .ok (.iaload, 1) := by decide +kernel
theorem dX6_carryOutGovern_25 : decode cX6_carryOutGovern 25 = .ok (.invokevirtual 104, 3) := by decide +kernel
theorem dX6_carryOutGovern_28 : decode cX6_carryOutGovern 28 = .ok (.pop, 1) := by decide +kernel
theorem dX6_carryOutGovern_29 : decode cX6_carryOutGovern 29 = .ok (.iload_n 2, 1) := by decide +kernel
theorem dX6_carryOutGovern_30 : decode cX6_carryOutGovern 30 = .ok (.ireturn, 1) := by decide +kernel
set_option maxRecDepth 20000 in
theorem ggX6_carryOutSet_X6_faultOfSet : GoodIn wsX6_carryOutSet wsX6_faultOfSet := goodIn_r _ [6, 1, 7, 8, 9, 10, 11, 12, 13, 14, 15, 16, 5, 17, 18, 19, 20, 21, 22, 23, 24, 37, 38, 39, 40, 41, 42, 43, 44, 45, 46, 47, 48, 49, 50, 51, 52, 53, 54, 55, 56, 57, 58, 59, 60, 61, 62, 63, 64, 65, 66, 67, 68, 69] (by decide +kernel) (by decide +kernel)
set_option maxRecDepth 20000 in
theorem gX6_carryOutSet_X6_faultOfSet : GoodIn wsX6_carryOutSet (wsV RX6 107 RX6 yX6_faultOfSet wsX6_faultOfSet) := goodIn_app (goodIn_of _ (by decide +kernel)) ggX6_carryOutSet_X6_faultOfSet
set_option maxRecDepth 20000 in
theorem ggX6_carryOutSet_X1_putOn : GoodIn wsX6_carryOutSet wsX1_putOn := goodIn_ca (goodIn_r _ [28, 29, 30, 31, 32, 33, 13, 34, 35, 36, 16, 5, 17, 48, 49, 50, 51, 52, 53, 54, 55, 56, 57, 58, 59, 60, 61, 62, 63, 64, 65, 66, 67, 68, 69] (by decide +kernel) (by decide +kernel)) (goodIn_sub (fun _ h => List.mem_cons_of_mem _ (List.mem_append_right _ h)) (by decide +kernel))
set_option maxRecDepth 20000 in
theorem gX6_carryOutSet_X1_putOn : GoodIn wsX6_carryOutSet (wsV RX6 110 RX1 yX1_putOn wsX1_putOn) := goodIn_app (goodIn_of _ (by decide +kernel)) ggX6_carryOutSet_X1_putOn
theorem dX6_carryOutSet_0 : decode cX6_carryOutSet 0 = .ok (.aload_n 0, 1) := by decide +kernel
theorem dX6_carryOutSet_1 : decode cX6_carryOutSet 1 = .ok (.aload_n 1, 1) := by decide +kernel
theorem dX6_carryOutSet_2 : decode cX6_carryOutSet 2 = .ok (.iconst 0, 1) := by decide +kernel
theorem dX6_carryOutSet_3 : decode cX6_carryOutSet 3 = .ok (.iaload, 1) := by decide +kernel
theorem dX6_carryOutSet_4 : decode cX6_carryOutSet 4 = .ok (.aload_n 1, 1) := by decide +kernel
theorem dX6_carryOutSet_5 : decode cX6_carryOutSet 5 = .ok (.iconst 1, 1) := by decide +kernel
theorem dX6_carryOutSet_6 : decode cX6_carryOutSet 6 = .ok (.iaload, 1) := by decide +kernel
theorem dX6_carryOutSet_7 : decode cX6_carryOutSet 7 = .ok (.invokevirtual 107, 3) := by decide +kernel
theorem dX6_carryOutSet_10 : decode cX6_carryOutSet 10 = .ok (.istore_n 2, 1) := by decide +kernel
theorem dX6_carryOutSet_11 : decode cX6_carryOutSet 11 = .ok (.iload_n 2, 1) := by decide +kernel
theorem dX6_carryOutSet_12 : decode cX6_carryOutSet 12 = .ok (.ifCond .ne 17, 3) := by decide +kernel
theorem dX6_carryOutSet_15 : decode cX6_carryOutSet 15 = .ok (.aload_n 0, 1) := by decide +kernel
theorem dX6_carryOutSet_16 : decode cX6_carryOutSet 16 = .ok (.getfield 10, 3) := by decide +kernel
theorem dX6_carryOutSet_19 : decode cX6_carryOutSet 19 = .ok (.aload_n 1, 1) := by decide +kernel
theorem dX6_carryOutSet_20 : decode cX6_carryOutSet 20 = .ok (.iconst 0, 1) := by decide +kernel
theorem dX6_carryOutSet_21 : decode cX6_carryOutSet 21 = .ok (.iaload, 1) := by decide +kernel
theorem dX6_carryOutSet_22 : decode cX6_carryOutSet 22 = .ok (.aload_n 1, 1) := by decide +kernel
theorem dX6_carryOutSet_23 : decode cX6_carryOutSet 23 = .ok (.iconst 1, 1) := by decide +kernel
theorem dX6_carryOutSet_24 : decode cX6_carryOutSet 24 = .ok (.iaload, 1) := by decide +kernel
theorem dX6_carryOutSet_25 : decode cX6_carryOutSet 25 = .ok (.invokevirtual 110, 3) := by decide +kernel
theorem dX6_carryOutSet_28 : decode cX6_carryOutSet 28 = .ok (.pop, 1) := by decide +kernel
theorem dX6_carryOutSet_29 : decode cX6_carryOutSet 29 = .ok (.iload_n 2, 1) := by decide +kernel
theorem dX6_carryOutSet_30 : decode cX6_carryOutSet 30 = .ok (.ireturn, 1) := by decide +kernel
set_option maxRecDepth 20000 in
theorem ggX6_carryOutEnd_X6_faultOfEnding : GoodIn wsX6_carryOutEnd wsX6_faultOfEnding := goodIn_ca (goodIn_r _ [6, 1, 7, 8, 5, 9, 10, 11, 12, 13, 14, 15, 16, 17, 18, 19, 20, 21, 22, 23, 24, 30, 31, 32, 33, 34, 35, 36, 37, 38, 39, 40, 41, 42, 43, 44, 45, 46, 47, 48, 49, 50, 51, 52] (by decide +kernel) (by decide +kernel)) (goodIn_sub (fun _ h => List.mem_cons_of_mem _ (List.mem_append_right _ h)) (by decide +kernel))
set_option maxRecDepth 20000 in
theorem gX6_carryOutEnd_X6_faultOfEnding : GoodIn wsX6_carryOutEnd (wsV RX6 113 RX6 yX6_faultOfEnding wsX6_faultOfEnding) := goodIn_app (goodIn_of _ (by decide +kernel)) ggX6_carryOutEnd_X6_faultOfEnding
set_option maxRecDepth 20000 in
theorem ggX6_carryOutEnd_X1_changeLetter : GoodIn wsX6_carryOutEnd wsX1_changeLetter := goodIn_ca (goodIn_r _ [28, 15, 29, 11, 12, 13, 14, 16, 17, 18, 41, 42, 43, 44, 45, 46, 47, 48, 49, 50, 51, 52] (by decide +kernel) (by decide +kernel)) (goodIn_sub (fun _ h => List.mem_cons_of_mem _ (List.mem_append_right _ h)) (by decide +kernel))
set_option maxRecDepth 20000 in
theorem gX6_carryOutEnd_X1_changeLetter : GoodIn wsX6_carryOutEnd (wsV RX6 116 RX1 yX1_changeLetter wsX1_changeLetter) := goodIn_app (goodIn_of _ (by decide +kernel)) ggX6_carryOutEnd_X1_changeLetter
theorem dX6_carryOutEnd_0 : decode cX6_carryOutEnd 0 = .ok (.aload_n 0, 1) := by decide +kernel
theorem dX6_carryOutEnd_1 : decode cX6_carryOutEnd 1 = .ok (.aload_n 1, 1) := by decide +kernel
theorem dX6_carryOutEnd_2 : decode cX6_carryOutEnd 2 = .ok (.iconst 0, 1) := by decide +kernel
theorem dX6_carryOutEnd_3 : decode cX6_carryOutEnd 3 = .ok (.iaload, 1) := by decide +kernel
theorem dX6_carryOutEnd_4 : decode cX6_carryOutEnd 4 = .ok (.aload_n 1, 1) := by decide +kernel
theorem dX6_carryOutEnd_5 : decode cX6_carryOutEnd 5 = .ok (.iconst 1, 1) := by decide +kernel
theorem dX6_carryOutEnd_6 : decode cX6_carryOutEnd 6 = .ok (.iaload, 1) := by decide +kernel
theorem dX6_carryOutEnd_7 : decode cX6_carryOutEnd 7 = .ok (.aload_n 1, 1) := by decide +kernel
theorem dX6_carryOutEnd_8 : decode cX6_carryOutEnd 8 = .ok (.iconst 2, 1) := by decide +kernel
theorem dX6_carryOutEnd_9 : decode cX6_carryOutEnd 9 = .ok (.iaload, 1) := by decide +kernel
theorem dX6_carryOutEnd_10 : decode cX6_carryOutEnd 10 = .ok (.aload_n 1, 1) := by decide +kernel
theorem dX6_carryOutEnd_11 : decode cX6_carryOutEnd 11 = .ok (.iconst 3, 1) := by decide +kernel
theorem dX6_carryOutEnd_12 : decode cX6_carryOutEnd 12 = .ok (.iaload, 1) := by decide +kernel
theorem dX6_carryOutEnd_13 : decode cX6_carryOutEnd 13 = .ok (.invokevirtual 113, 3) := by decide +kernel
theorem dX6_carryOutEnd_16 : decode cX6_carryOutEnd 16 = .ok (.istore_n 2, 1) := by decide +kernel
theorem dX6_carryOutEnd_17 : decode cX6_carryOutEnd 17 = .ok (.iload_n 2, 1) := by decide +kernel
theorem dX6_carryOutEnd_18 : decode cX6_carryOutEnd 18 = .ok (.ifCond .ne 23, 3) := by decide +kernel
theorem dX6_carryOutEnd_21 : decode cX6_carryOutEnd 21 = .ok (.aload_n 0, 1) := by decide +kernel
theorem dX6_carryOutEnd_22 : decode cX6_carryOutEnd 22 = .ok (.getfield 10, 3) := by decide +kernel
theorem dX6_carryOutEnd_25 : decode cX6_carryOutEnd 25 = .ok (.aload_n 1, 1) := by decide +kernel
theorem dX6_carryOutEnd_26 : decode cX6_carryOutEnd 26 = .ok (.iconst 0, 1) := by decide +kernel
theorem dX6_carryOutEnd_27 : decode cX6_carryOutEnd 27 = .ok (.iaload, 1) := by decide +kernel
theorem dX6_carryOutEnd_28 : decode cX6_carryOutEnd 28 = .ok (.aload_n 1, 1) := by decide +kernel
theorem dX6_carryOutEnd_29 : decode cX6_carryOutEnd 29 = .ok (.iconst 1, 1) := by decide +kernel
theorem dX6_carryOutEnd_30 : decode cX6_carryOutEnd 30 = .ok (.iaload, 1) := by decide +kernel
theorem dX6_carryOutEnd_31 : decode cX6_carryOutEnd 31 = .ok (.aload_n 1, 1) := by decide +kernel
theorem dX6_carryOutEnd_32 : decode cX6_carryOutEnd 32 = .ok (.iconst 2, 1) := by decide +kernel
theorem dX6_carryOutEnd_33 : decode cX6_carryOutEnd 33 = .ok (.iaload, 1) := by decide +kernel
theorem dX6_carryOutEnd_34 : decode cX6_carryOutEnd 34 = .ok (.aload_n 1, 1) := by decide +kernel
theorem dX6_carryOutEnd_35 : decode cX6_carryOutEnd 35 = .ok (.iconst 3, 1) := by decide +kernel
theorem dX6_carryOutEnd_36 : decode cX6_carryOutEnd 36 = .ok (.iaload, 1) := by decide +kernel
theorem dX6_carryOutEnd_37 : decode cX6_carryOutEnd 37 = .ok (.invokevirtual 116, 3) := by decide +kernel
theorem dX6_carryOutEnd_40 : decode cX6_carryOutEnd 40 = .ok (.pop, 1) := by decide +kernel
theorem dX6_carryOutEnd_41 : decode cX6_carryOutEnd 41 = .ok (.iload_n 2, 1) := by decide +kernel
theorem dX6_carryOutEnd_42 : decode cX6_carryOutEnd 42 = .ok (.ireturn, 1) := by decide +kernel
set_option maxRecDepth 20000 in
theorem ggX6_carryOutKey_X6_faultOfKey : GoodIn wsX6_carryOutKey wsX6_faultOfKey := goodIn_ca (goodIn_r _ [6, 1, 7, 8, 9, 5, 10, 11, 12, 13, 14, 15, 16, 17, 18, 19, 20, 21, 22, 23, 24, 29, 30, 31, 32, 33, 34, 35, 36, 37, 38, 39, 40, 41, 42, 43, 44, 45, 46, 47, 48, 49, 50, 51] (by decide +kernel) (by decide +kernel)) (goodIn_sub (fun _ h => List.mem_cons_of_mem _ (List.mem_append_right _ h)) (by decide +kernel))
set_option maxRecDepth 20000 in
theorem gX6_carryOutKey_X6_faultOfKey : GoodIn wsX6_carryOutKey (wsV RX6 119 RX6 yX6_faultOfKey wsX6_faultOfKey) := goodIn_app (goodIn_of _ (by decide +kernel)) ggX6_carryOutKey_X6_faultOfKey
set_option maxRecDepth 20000 in
theorem ggX6_carryOutKey_X1_addKey : GoodIn wsX6_carryOutKey wsX1_addKey := goodIn_ca (goodIn_r _ [28, 17, 16, 18, 40, 41, 42, 43, 44, 45, 46, 47, 48, 49, 50, 51] (by decide +kernel) (by decide +kernel)) (goodIn_sub (fun _ h => List.mem_cons_of_mem _ (List.mem_append_right _ h)) (by decide +kernel))
set_option maxRecDepth 20000 in
theorem gX6_carryOutKey_X1_addKey : GoodIn wsX6_carryOutKey (wsV RX6 122 RX1 yX1_addKey wsX1_addKey) := goodIn_app (goodIn_of _ (by decide +kernel)) ggX6_carryOutKey_X1_addKey
theorem dX6_carryOutKey_0 : decode cX6_carryOutKey 0 = .ok (.aload_n 0, 1) := by decide +kernel
theorem dX6_carryOutKey_1 : decode cX6_carryOutKey 1 = .ok (.aload_n 1, 1) := by decide +kernel
theorem dX6_carryOutKey_2 : decode cX6_carryOutKey 2 = .ok (.iconst 0, 1) := by decide +kernel
theorem dX6_carryOutKey_3 : decode cX6_carryOutKey 3 = .ok (.iaload, 1) := by decide +kernel
theorem dX6_carryOutKey_4 : decode cX6_carryOutKey 4 = .ok (.aload_n 1, 1) := by decide +kernel
theorem dX6_carryOutKey_5 : decode cX6_carryOutKey 5 = .ok (.iconst 1, 1) := by decide +kernel
theorem dX6_carryOutKey_6 : decode cX6_carryOutKey 6 = .ok (.iaload, 1) := by decide +kernel
theorem dX6_carryOutKey_7 : decode cX6_carryOutKey 7 = .ok (.invokevirtual 119, 3) := by decide +kernel
theorem dX6_carryOutKey_10 : decode cX6_carryOutKey 10 = .ok (.istore_n 2, 1) := by decide +kernel
theorem dX6_carryOutKey_11 : decode cX6_carryOutKey 11 = .ok (.iload_n 2, 1) := by decide +kernel
theorem dX6_carryOutKey_12 : decode cX6_carryOutKey 12 = .ok (.ifCond .ne 17, 3) := by decide +kernel
theorem dX6_carryOutKey_15 : decode cX6_carryOutKey 15 = .ok (.aload_n 0, 1) := by decide +kernel
theorem dX6_carryOutKey_16 : decode cX6_carryOutKey 16 = .ok (.getfield 10, 3) := by decide +kernel
theorem dX6_carryOutKey_19 : decode cX6_carryOutKey 19 = .ok (.aload_n 1, 1) := by decide +kernel
theorem dX6_carryOutKey_20 : decode cX6_carryOutKey 20 = .ok (.iconst 0, 1) := by decide +kernel
theorem dX6_carryOutKey_21 : decode cX6_carryOutKey 21 = .ok (.iaload, 1) := by decide +kernel
theorem dX6_carryOutKey_22 : decode cX6_carryOutKey 22 = .ok (.aload_n 1, 1) := by decide +kernel
theorem dX6_carryOutKey_23 : decode cX6_carryOutKey 23 = .ok (.iconst 1, 1) := by decide +kernel
theorem dX6_carryOutKey_24 : decode cX6_carryOutKey 24 = .ok (.iaload, 1) := by decide +kernel
theorem dX6_carryOutKey_25 : decode cX6_carryOutKey 25 = .ok (.invokevirtual 122, 3) := by decide +kernel
theorem dX6_carryOutKey_28 : decode cX6_carryOutKey 28 = .ok (.pop, 1) := by decide +kernel
theorem dX6_carryOutKey_29 : decode cX6_carryOutKey 29 = .ok (.iload_n 2, 1) := by decide +kernel
theorem dX6_carryOutKey_30 : decode cX6_carryOutKey 30 = .ok (.ireturn, 1) := by decide +kernel
set_option maxRecDepth 20000 in
theorem ggX6_carryOutKnock_X6_faultOfKnock : GoodIn wsX6_carryOutKnock wsX6_faultOfKnock := goodIn_r _ [6, 1, 7, 8, 9, 10, 11, 12, 13, 14, 15, 16, 5, 17, 18, 19, 20, 21, 22, 23, 24, 25, 26, 27, 28, 29, 30, 31, 32, 33, 34, 35, 58, 59, 60, 61, 62, 63, 64, 65, 66, 67, 68, 69, 70, 71, 72, 73, 74, 75, 76, 77, 78, 79, 80, 81, 82, 83, 84, 85, 86, 87, 88, 89, 90] (by decide +kernel) (by decide +kernel)
set_option maxRecDepth 20000 in
theorem gX6_carryOutKnock_X6_faultOfKnock : GoodIn wsX6_carryOutKnock (wsV RX6 222 RX6 yX6_faultOfKnock wsX6_faultOfKnock) := goodIn_app (goodIn_of _ (by decide +kernel)) ggX6_carryOutKnock_X6_faultOfKnock
set_option maxRecDepth 20000 in
theorem ggX6_carryOutKnock_X1_hearKnock : GoodIn wsX6_carryOutKnock wsX1_hearKnock := goodIn_ca (goodIn_r _ [39, 23, 40, 41, 24, 42, 43, 35, 44, 45, 46, 47, 13, 48, 49, 50, 51, 52, 53, 54, 55, 56, 57, 16, 5, 17, 69, 70, 71, 72, 73, 74, 75, 76, 77, 78, 79, 80, 81, 82, 83, 84, 85, 86, 87, 88, 89, 90] (by decide +kernel) (by decide +kernel)) (goodIn_sub (fun _ h => List.mem_cons_of_mem _ (List.mem_append_right _ h)) (by decide +kernel))
set_option maxRecDepth 20000 in
theorem gX6_carryOutKnock_X1_hearKnock : GoodIn wsX6_carryOutKnock (wsV RX6 226 RX1 yX1_hearKnock wsX1_hearKnock) := goodIn_app (goodIn_of _ (by decide +kernel)) ggX6_carryOutKnock_X1_hearKnock
theorem dX6_carryOutKnock_0 : decode cX6_carryOutKnock 0 = .ok (.aload_n 0, 1) := by decide +kernel
theorem dX6_carryOutKnock_1 : decode cX6_carryOutKnock 1 = .ok (.aload_n 1, 1) := by decide +kernel
theorem dX6_carryOutKnock_2 : decode cX6_carryOutKnock 2 = .ok (.iconst 0, 1) := by decide +kernel
theorem dX6_carryOutKnock_3 : decode cX6_carryOutKnock 3 = .ok (.iaload, 1) := by decide +kernel
theorem dX6_carryOutKnock_4 : decode cX6_carryOutKnock 4 = .ok (.aload_n 1, 1) := by decide +kernel
theorem dX6_carryOutKnock_5 : decode cX6_carryOutKnock 5 = .ok (.iconst 1, 1) := by decide +kernel
theorem dX6_carryOutKnock_6 : decode cX6_carryOutKnock 6 = .ok (.iaload, 1) := by decide +kernel
theorem dX6_carryOutKnock_7 : decode cX6_carryOutKnock 7 = .ok (.aload_n 1, 1) := by decide +kernel
theorem dX6_carryOutKnock_8 : decode cX6_carryOutKnock 8 = .ok (.iconst 3, 1) := by decide +kernel
theorem dX6_carryOutKnock_9 : decode cX6_carryOutKnock 9 = .ok (.iaload, 1) := by decide +kernel
theorem dX6_carryOutKnock_10 : decode cX6_carryOutKnock 10 = .ok (.invokevirtual 222, 3) := by decide +kernel
theorem dX6_carryOutKnock_13 : decode cX6_carryOutKnock 13 = .ok (.istore_n 2, 1) := by decide +kernel
theorem dX6_carryOutKnock_14 : decode cX6_carryOutKnock 14 = .ok (.iload_n 2, 1) := by decide +kernel
theorem dX6_carryOutKnock_15 : decode cX6_carryOutKnock 15 = .ok (.ifCond .ne 23, 3) := by decide +kernel
theorem dX6_carryOutKnock_18 : decode cX6_carryOutKnock 18 = .ok (.aload_n 0, 1) := by decide +kernel
theorem dX6_carryOutKnock_19 : decode cX6_carryOutKnock 19 = .ok (.getfield 10, 3) := by decide +kernel
theorem dX6_carryOutKnock_22 : decode cX6_carryOutKnock 22 = .ok (.aload_n 1, 1) := by decide +kernel
theorem dX6_carryOutKnock_23 : decode cX6_carryOutKnock 23 = .ok (.iconst 0, 1) := by decide +kernel
theorem dX6_carryOutKnock_24 : decode cX6_carryOutKnock 24 = .ok (.iaload, 1) := by decide +kernel
theorem dX6_carryOutKnock_25 : decode cX6_carryOutKnock 25 = .ok (.aload_n 1, 1) := by decide +kernel
theorem dX6_carryOutKnock_26 : decode cX6_carryOutKnock 26 = .ok (.iconst 1, 1) := by decide +kernel
theorem dX6_carryOutKnock_27 : decode cX6_carryOutKnock 27 = .ok (.iaload, 1) := by decide +kernel
theorem dX6_carryOutKnock_28 : decode cX6_carryOutKnock 28 = .ok (.aload_n 1, 1) := by decide +kernel
theorem dX6_carryOutKnock_29 : decode cX6_carryOutKnock 29 = .ok (.iconst 2, 1) := by decide +kernel
theorem dX6_carryOutKnock_30 : decode cX6_carryOutKnock 30 = .ok (.iaload, 1) := by decide +kernel
theorem dX6_carryOutKnock_31 : decode cX6_carryOutKnock 31 = .ok (.aload_n 1, 1) := by decide +kernel
theorem dX6_carryOutKnock_32 : decode cX6_carryOutKnock 32 = .ok (.iconst 3, 1) := by decide +kernel
theorem dX6_carryOutKnock_33 : decode cX6_carryOutKnock 33 = .ok (.iaload, 1) := by decide +kernel
theorem dX6_carryOutKnock_34 : decode cX6_carryOutKnock 34 = .ok (.invokevirtual 226, 3) := by decide +kernel
theorem dX6_carryOutKnock_37 : decode cX6_carryOutKnock 37 = .ok (.pop, 1) := by decide +kernel
theorem dX6_carryOutKnock_38 : decode cX6_carryOutKnock 38 = .ok (.iload_n 2, 1) := by decide +kernel
theorem dX6_carryOutKnock_39 : decode cX6_carryOutKnock 39 = .ok (.ireturn, 1) := by decide +kernel
set_option maxRecDepth 20000 in
theorem ggX6_carryOutShut_X6_faultOfShut : GoodIn wsX6_carryOutShut wsX6_faultOfShut := goodIn_r _ [6, 1, 7, 8, 9, 10, 11, 12, 13, 14, 15, 5, 16, 17, 18, 19, 20, 21, 22, 23, 24, 25, 26, 27, 28, 34, 35, 36, 37, 38, 39, 40, 41, 42, 43, 44, 45, 46, 47, 48, 49, 50, 51, 52, 53, 54, 55, 56, 57, 58, 59, 60, 61, 62, 63, 64, 65, 66] (by decide +kernel) (by decide +kernel)
set_option maxRecDepth 20000 in
theorem gX6_carryOutShut_X6_faultOfShut : GoodIn wsX6_carryOutShut (wsV RX6 229 RX6 yX6_faultOfShut wsX6_faultOfShut) := goodIn_app (goodIn_of _ (by decide +kernel)) ggX6_carryOutShut_X6_faultOfShut
set_option maxRecDepth 20000 in
theorem ggX6_carryOutShut_X1_shutDoor : GoodIn wsX6_carryOutShut wsX1_shutDoor := goodIn_r _ [32, 21, 22, 33, 18, 19, 12, 20, 14, 45, 46, 47, 48, 49, 50, 51, 52, 53, 54, 55, 56, 57, 58, 59, 60, 61, 62, 63, 64, 65, 66] (by decide +kernel) (by decide +kernel)
set_option maxRecDepth 20000 in
theorem gX6_carryOutShut_X1_shutDoor : GoodIn wsX6_carryOutShut (wsV RX6 232 RX1 yX1_shutDoor wsX1_shutDoor) := goodIn_app (goodIn_of _ (by decide +kernel)) ggX6_carryOutShut_X1_shutDoor
theorem dX6_carryOutShut_0 : decode cX6_carryOutShut 0 = .ok (.aload_n 0, 1) := by decide +kernel
theorem dX6_carryOutShut_1 : decode cX6_carryOutShut 1 = .ok (.aload_n 1, 1) := by decide +kernel
theorem dX6_carryOutShut_2 : decode cX6_carryOutShut 2 = .ok (.iconst 0, 1) := by decide +kernel
theorem dX6_carryOutShut_3 : decode cX6_carryOutShut 3 = .ok (.iaload, 1) := by decide +kernel
theorem dX6_carryOutShut_4 : decode cX6_carryOutShut 4 = .ok (.invokevirtual 229, 3) := by decide +kernel
theorem dX6_carryOutShut_7 : decode cX6_carryOutShut 7 = .ok (.istore_n 2, 1) := by decide +kernel
theorem dX6_carryOutShut_8 : decode cX6_carryOutShut 8 = .ok (.iload_n 2, 1) := by decide +kernel
theorem dX6_carryOutShut_9 : decode cX6_carryOutShut 9 = .ok (.ifCond .ne 14, 3) := by decide +kernel
theorem dX6_carryOutShut_12 : decode cX6_carryOutShut 12 = .ok (.aload_n 0, 1) := by decide +kernel
theorem dX6_carryOutShut_13 : decode cX6_carryOutShut 13 = .ok (.getfield 10, 3) := by decide +kernel
theorem dX6_carryOutShut_16 : decode cX6_carryOutShut 16 = .ok (.aload_n 1, 1) := by decide +kernel
theorem dX6_carryOutShut_17 : decode cX6_carryOutShut 17 = .ok (.iconst 0, 1) := by decide +kernel
theorem dX6_carryOutShut_18 : decode cX6_carryOutShut 18 = .ok (.iaload, 1) := by decide +kernel
theorem dX6_carryOutShut_19 : decode cX6_carryOutShut 19 = .ok (.invokevirtual 232, 3) := by decide +kernel
theorem dX6_carryOutShut_22 : decode cX6_carryOutShut 22 = .ok (.pop, 1) := by decide +kernel
theorem dX6_carryOutShut_23 : decode cX6_carryOutShut 23 = .ok (.iload_n 2, 1) := by decide +kernel
theorem dX6_carryOutShut_24 : decode cX6_carryOutShut 24 = .ok (.ireturn, 1) := by decide +kernel
set_option maxRecDepth 20000 in
theorem ggX6_carryOutFree_X6_faultOfFree : GoodIn wsX6_carryOutFree wsX6_faultOfFree := goodIn_ca (goodIn_r _ [6, 1, 7, 8, 9, 10, 11, 12, 5, 13, 14, 15, 16, 17, 18, 19, 20, 21, 22, 23, 24, 25, 26, 27, 28, 29, 30, 31, 32, 33, 34, 46, 47, 48, 49, 50, 51, 52, 53, 54, 55, 56, 57, 58, 59, 60, 61, 62, 63, 64, 65, 66, 67, 68, 69, 70, 71, 72, 73, 74, 75, 76, 77, 78] (by decide +kernel) (by decide +kernel)) (goodIn_sub (fun _ h => List.mem_cons_of_mem _ (List.mem_append_right _ h)) (by decide +kernel))
set_option maxRecDepth 20000 in
theorem gX6_carryOutFree_X6_faultOfFree : GoodIn wsX6_carryOutFree (wsV RX6 235 RX6 yX6_faultOfFree wsX6_faultOfFree) := goodIn_app (goodIn_of _ (by decide +kernel)) ggX6_carryOutFree_X6_faultOfFree
set_option maxRecDepth 20000 in
theorem ggX6_carryOutFree_X1_freeDoor : GoodIn wsX6_carryOutFree wsX1_freeDoor := goodIn_r _ [38, 31, 39, 40, 41, 42, 43, 44, 17, 45, 19, 57, 58, 59, 60, 61, 62, 63, 64, 65, 66, 67, 68, 69, 70, 71, 72, 73, 74, 75, 76, 77, 78] (by decide +kernel) (by decide +kernel)
set_option maxRecDepth 20000 in
theorem gX6_carryOutFree_X1_freeDoor : GoodIn wsX6_carryOutFree (wsV RX6 238 RX1 yX1_freeDoor wsX1_freeDoor) := goodIn_app (goodIn_of _ (by decide +kernel)) ggX6_carryOutFree_X1_freeDoor
theorem dX6_carryOutFree_0 : decode cX6_carryOutFree 0 = .ok (.aload_n 0, 1) := by decide +kernel
theorem dX6_carryOutFree_1 : decode cX6_carryOutFree 1 = .ok (.aload_n 1, 1) := by decide +kernel
theorem dX6_carryOutFree_2 : decode cX6_carryOutFree 2 = .ok (.iconst 0, 1) := by decide +kernel
theorem dX6_carryOutFree_3 : decode cX6_carryOutFree 3 = .ok (.iaload, 1) := by decide +kernel
theorem dX6_carryOutFree_4 : decode cX6_carryOutFree 4 = .ok (.aload_n 1, 1) := by decide +kernel
theorem dX6_carryOutFree_5 : decode cX6_carryOutFree 5 = .ok (.iconst 1, 1) := by decide +kernel
theorem dX6_carryOutFree_6 : decode cX6_carryOutFree 6 = .ok (.iaload, 1) := by decide +kernel
theorem dX6_carryOutFree_7 : decode cX6_carryOutFree 7 = .ok (.invokevirtual 235, 3) := by decide +kernel
theorem dX6_carryOutFree_10 : decode cX6_carryOutFree 10 = .ok (.istore_n 2, 1) := by decide +kernel
theorem dX6_carryOutFree_11 : decode cX6_carryOutFree 11 = .ok (.iload_n 2, 1) := by decide +kernel
theorem dX6_carryOutFree_12 : decode cX6_carryOutFree 12 = .ok (.ifCond .ne 14, 3) := by decide +kernel
theorem dX6_carryOutFree_15 : decode cX6_carryOutFree 15 = .ok (.aload_n 0, 1) := by decide +kernel
theorem dX6_carryOutFree_16 : decode cX6_carryOutFree 16 = .ok (.getfield 10, 3) := by decide +kernel
theorem dX6_carryOutFree_19 : decode cX6_carryOutFree 19 = .ok (.aload_n 1, 1) := by decide +kernel
theorem dX6_carryOutFree_20 : decode cX6_carryOutFree 20 = .ok (.iconst 1, 1) := by decide +kernel
theorem dX6_carryOutFree_21 : decode cX6_carryOutFree 21 = .ok (.iaload, 1) := by decide +kernel
theorem dX6_carryOutFree_22 : decode cX6_carryOutFree 22 = .ok (.invokevirtual 238, 3) := by decide +kernel
theorem dX6_carryOutFree_25 : decode cX6_carryOutFree 25 = .ok (.pop, 1) := by decide +kernel
theorem dX6_carryOutFree_26 : decode cX6_carryOutFree 26 = .ok (.iload_n 2, 1) := by decide +kernel
theorem dX6_carryOutFree_27 : decode cX6_carryOutFree 27 = .ok (.ireturn, 1) := by decide +kernel
set_option maxRecDepth 20000 in
theorem ggX6_areFormsRight_X1_areAlikeByLetters : GoodIn wsX6_areFormsRight wsX1_areAlikeByLetters := goodIn_ca (goodIn_r _ [7, 8, 9, 10, 11, 6, 12, 13, 14, 15, 16, 17, 18, 19, 20, 21, 22, 23, 24, 25, 26, 27, 28, 29, 30, 31, 32, 33, 34, 35, 36, 37, 38, 39, 40, 41, 42, 43, 44, 45, 46, 47, 48, 49, 50, 51, 52, 53, 54, 55, 56, 57, 58, 59, 60, 61, 62, 63, 64, 65, 66, 67, 68, 69, 70, 71, 72, 73, 74, 75, 76, 77, 78, 98, 99, 100, 101, 102, 103, 104, 105, 106, 107, 108, 109, 110, 111, 112, 113, 114, 115, 116, 117, 118, 119, 120, 121, 122, 123] (by decide +kernel) (by decide +kernel)) (goodIn_sub (fun _ h => List.mem_cons_of_mem _ (List.mem_append_right _ h)) (by decide +kernel))
set_option maxRecDepth 20000 in
theorem gX6_areFormsRight_X1_areAlikeByLetters : GoodIn wsX6_areFormsRight (wsV RX6 205 RX1 yX1_areAlikeByLetters wsX1_areAlikeByLetters) := goodIn_app (goodIn_of _ (by decide +kernel)) ggX6_areFormsRight_X1_areAlikeByLetters
set_option maxRecDepth 20000 in
theorem ggX6_areFormsRight_X1_areAlikeByNumbers : GoodIn wsX6_areFormsRight wsX1_areAlikeByNumbers := goodIn_ca (goodIn_r _ [82, 8, 13, 14, 83, 84, 85, 6, 86, 15, 57, 58, 59, 60, 61, 62, 63, 64, 65, 66, 71, 72, 73, 74, 75, 76, 77, 78, 98, 99, 100, 101, 102, 103, 104, 105, 106, 107, 108, 109, 110, 111, 112, 113, 114, 115, 116, 117, 118, 119] (by decide +kernel) (by decide +kernel)) (goodIn_sub (fun _ h => List.mem_cons_of_mem _ (List.mem_append_right _ h)) (by decide +kernel))
set_option maxRecDepth 20000 in
theorem gX6_areFormsRight_X1_areAlikeByNumbers : GoodIn wsX6_areFormsRight (wsV RX6 202 RX1 yX1_areAlikeByNumbers wsX1_areAlikeByNumbers) := goodIn_app (goodIn_of _ (by decide +kernel)) ggX6_areFormsRight_X1_areAlikeByNumbers
theorem dX6_areFormsRight_0 : decode cX6_areFormsRight 0 = .ok (.iconst 0, 1) := by decide +kernel
theorem dX6_areFormsRight_1 : decode cX6_areFormsRight 1 = .ok (.istore_n 1, 1) := by decide +kernel
theorem dX6_areFormsRight_2 : decode cX6_areFormsRight 2 = .ok (.iload_n 1, 1) := by decide +kernel
theorem dX6_areFormsRight_3 : decode cX6_areFormsRight 3 = .ok (.aload_n 0, 1) := by decide +kernel
theorem dX6_areFormsRight_4 : decode cX6_areFormsRight 4 = .ok (.getfield 10, 3) := by decide +kernel
theorem dX6_areFormsRight_7 : decode cX6_areFormsRight 7 = .ok (.getfield 64, 3) := by decide +kernel
theorem dX6_areFormsRight_10 : decode cX6_areFormsRight 10 = .ok (.if_icmp .ge 51, 3) := by decide +kernel
theorem dX6_areFormsRight_13 : decode cX6_areFormsRight 13 = .ok (.iconst 0, 1) := by decide +kernel
theorem dX6_areFormsRight_14 : decode cX6_areFormsRight 14 = .ok (.istore_n 2, 1) := by decide +kernel
theorem dX6_areFormsRight_15 : decode cX6_areFormsRight 15 = .ok (.iload_n 2, 1) := by decide +kernel
theorem dX6_areFormsRight_16 : decode cX6_areFormsRight 16 = .ok (.aload_n 0, 1) := by decide +kernel
theorem dX6_areFormsRight_17 : decode cX6_areFormsRight 17 = .ok (.getfield 10, 3) := by decide +kernel
theorem dX6_areFormsRight_20 : decode cX6_areFormsRight 20 = .ok (.getfield 64, 3) := by decide +kernel
theorem dX6_areFormsRight_23 : decode cX6_areFormsRight 23 = .ok (.if_icmp .ge 32, 3) := by decide +kernel
theorem dX6_areFormsRight_26 : decode cX6_areFormsRight 26 = .ok (.aload_n 0, 1) := by decide +kernel
theorem dX6_areFormsRight_27 : decode cX6_areFormsRight 27 = .ok (.getfield 10, 3) := by decide +kernel
theorem dX6_areFormsRight_30 : decode cX6_areFormsRight 30 = .ok (.iload_n 1, 1) := by decide +kernel
theorem dX6_areFormsRight_31 : decode cX6_areFormsRight 31 = .ok (.iload_n 2, 1) := by decide +kernel
theorem dX6_areFormsRight_32 : decode cX6_areFormsRight 32 = .ok (.invokevirtual 205, 3) := by decide +kernel
theorem dX6_areFormsRight_35 : decode cX6_areFormsRight 35 = .ok (.aload_n 0, 1) := by decide +kernel
theorem dX6_areFormsRight_36 : decode cX6_areFormsRight 36 = .ok (.getfield 10, 3) := by decide +kernel
theorem dX6_areFormsRight_39 : decode cX6_areFormsRight 39 = .ok (.iload_n 1, 1) := by decide +kernel
theorem dX6_areFormsRight_40 : decode cX6_areFormsRight 40 = .ok (.iload_n 2, 1) := by decide +kernel
theorem dX6_areFormsRight_41 : decode cX6_areFormsRight 41 = .ok (.invokevirtual 202, 3) := by decide +kernel
theorem dX6_areFormsRight_44 : decode cX6_areFormsRight 44 = .ok (.if_icmp .eq 5, 3) := by decide +kernel
theorem dX6_areFormsRight_47 : decode cX6_areFormsRight 47 = .ok (.iconst 0, 1) := by decide +kernel
theorem dX6_areFormsRight_48 : decode cX6_areFormsRight 48 = .ok (.ireturn, 1) := by decide +kernel
theorem dX6_areFormsRight_49 : decode cX6_areFormsRight 49 = .ok (.iinc 2 1, 3) := by decide +kernel
theorem dX6_areFormsRight_52 : decode cX6_areFormsRight 52 = .ok (.goto (-37), 3) := by decide +kernel
theorem dX6_areFormsRight_55 : decode cX6_areFormsRight 55 = .ok (.iinc 1 1, 3) := by decide +kernel
theorem dX6_areFormsRight_58 : decode cX6_areFormsRight 58 = .ok (.goto (-56), 3) := by decide +kernel
theorem dX6_areFormsRight_61 : decode cX6_areFormsRight 61 = .ok (.iconst 1, 1) := by decide +kernel
theorem dX6_areFormsRight_62 : decode cX6_areFormsRight 62 = .ok (.ireturn, 1) := by decide +kernel
set_option maxRecDepth 20000 in
theorem ggX6_areWaysRight_X5_passedByRooms : GoodIn wsX6_areWaysRight wsX5_passedByRooms := goodIn_ca (goodIn_r _ [7, 8, 9, 10, 11, 12, 6, 13, 14, 15, 16, 17, 18, 19, 20, 21, 22, 23, 24, 25, 26, 47, 48, 49, 50, 51, 52, 53, 54, 55, 56, 57, 58, 59, 60, 61, 62, 63, 64, 65, 66, 67, 68, 69, 70] (by decide +kernel) (by decide +kernel)) (goodIn_sub (fun _ h => List.mem_cons_of_mem _ (List.mem_append_right _ h)) (by decide +kernel))
set_option maxRecDepth 20000 in
theorem gX6_areWaysRight_X5_passedByRooms : GoodIn wsX6_areWaysRight (wsV RX6 260 RX5 yX5_passedByRooms wsX5_passedByRooms) := goodIn_app (goodIn_of _ (by decide +kernel)) ggX6_areWaysRight_X5_passedByRooms
set_option maxRecDepth 20000 in
theorem ggX6_areWaysRight_X5_passedBySets : GoodIn wsX6_areWaysRight wsX5_passedBySets := goodIn_r _ [30, 31, 32, 33, 18, 34, 35, 20, 21, 22, 23, 49, 50, 51, 52, 53, 54, 55, 56, 57, 58, 59, 60, 61, 62, 63, 64, 65, 66, 67, 68, 69, 70] (by decide +kernel) (by decide +kernel)
set_option maxRecDepth 20000 in
theorem gX6_areWaysRight_X5_passedBySets : GoodIn wsX6_areWaysRight (wsV RX6 256 RX5 yX5_passedBySets wsX5_passedBySets) := goodIn_app (goodIn_of _ (by decide +kernel)) ggX6_areWaysRight_X5_passedBySets
theorem dX6_areWaysRight_0 : decode cX6_areWaysRight 0 = .ok (.iconst 0, 1) := by decide +kernel
theorem dX6_areWaysRight_1 : decode cX6_areWaysRight 1 = .ok (.istore_n 1, 1) := by decide +kernel
theorem dX6_areWaysRight_2 : decode cX6_areWaysRight 2 = .ok (.iload_n 1, 1) := by decide +kernel
theorem dX6_areWaysRight_3 : decode cX6_areWaysRight 3 = .ok (.bipush 6, 2) := by decide +kernel
theorem dX6_areWaysRight_5 : decode cX6_areWaysRight 5 = .ok (.if_icmp .ge 54, 3) := by decide +kernel
theorem dX6_areWaysRight_8 : decode cX6_areWaysRight 8 = .ok (.iconst 0, 1) := by decide +kernel
theorem dX6_areWaysRight_9 : decode cX6_areWaysRight 9 = .ok (.istore_n 2, 1) := by decide +kernel
theorem dX6_areWaysRight_10 : decode cX6_areWaysRight 10 = .ok (.iload_n 2, 1) := by decide +kernel
theorem dX6_areWaysRight_11 : decode cX6_areWaysRight 11 = .ok (.bipush 6, 2) := by decide +kernel
theorem dX6_areWaysRight_13 : decode cX6_areWaysRight 13 = .ok (.if_icmp .ge 40, 3) := by decide +kernel
theorem dX6_areWaysRight_16 : decode cX6_areWaysRight 16 = .ok (.aload_n 0, 1) := by decide +kernel
theorem dX6_areWaysRight_17 : decode cX6_areWaysRight 17 = .ok (.getfield 29, 3) := by decide +kernel
theorem dX6_areWaysRight_20 : decode cX6_areWaysRight 20 = .ok (.aload_n 0, 1) := by decide +kernel
theorem dX6_areWaysRight_21 : decode cX6_areWaysRight 21 = .ok (.getfield 10, 3) := by decide +kernel
theorem dX6_areWaysRight_24 : decode cX6_areWaysRight 24 = .ok (.iload_n 1, 1) := by decide +kernel
theorem dX6_areWaysRight_25 : decode cX6_areWaysRight 25 = .ok (.iload_n 2, 1) := by decide +kernel
theorem dX6_areWaysRight_26 : decode cX6_areWaysRight 26 = .ok (.invokevirtual 260, 3) := by decide +kernel
theorem dX6_areWaysRight_29 : decode cX6_areWaysRight 29 = .ok (.aload_n 0, 1) := by decide +kernel
theorem dX6_areWaysRight_30 : decode cX6_areWaysRight 30 = .ok (.getfield 29, 3) := by decide +kernel
theorem dX6_areWaysRight_33 : decode cX6_areWaysRight 33 = .ok (.aload_n 0, 1) := by decide +kernel
theorem dX6_areWaysRight_34 : decode cX6_areWaysRight 34 = .ok (.getfield 10, 3) := by decide +kernel
theorem dX6_areWaysRight_37 : decode cX6_areWaysRight 37 = .ok (.iload_n 1, 1) := by decide +kernel
theorem dX6_areWaysRight_38 : decode cX6_areWaysRight 38 = .ok (.iload_n 2, 1) := by decide +kernel
theorem dX6_areWaysRight_39 : decode cX6_areWaysRight 39 = .ok (.invokevirtual 256, 3) := by decide +kernel
theorem dX6_areWaysRight_42 : decode cX6_areWaysRight 42 = .ok (.if_icmp .eq 5, 3) := by decide +kernel
theorem dX6_areWaysRight_45 : decode cX6_areWaysRight 45 = .ok (.iconst 0, 1) := by decide +kernel
theorem dX6_areWaysRight_46 : decode cX6_areWaysRight 46 = .ok (.ireturn, 1) := by decide +kernel
theorem dX6_areWaysRight_47 : decode cX6_areWaysRight 47 = .ok (.iinc 2 1, 3) := by decide +kernel
theorem dX6_areWaysRight_50 : decode cX6_areWaysRight 50 = .ok (.goto (-40), 3) := by decide +kernel
theorem dX6_areWaysRight_53 : decode cX6_areWaysRight 53 = .ok (.iinc 1 1, 3) := by decide +kernel
theorem dX6_areWaysRight_56 : decode cX6_areWaysRight 56 = .ok (.goto (-54), 3) := by decide +kernel
theorem dX6_areWaysRight_59 : decode cX6_areWaysRight 59 = .ok (.iconst 1, 1) := by decide +kernel
theorem dX6_areWaysRight_60 : decode cX6_areWaysRight 60 = .ok (.ireturn, 1) := by decide +kernel
set_option maxRecDepth 20000 in
theorem ggX6_areDoorsRight_X1_caseOf : GoodIn wsX6_areDoorsRight wsX1_caseOf := goodIn_ca (goodIn_r _ [10, 11, 12, 13, 14, 15, 16, 59, 60, 61, 62, 63, 64, 65, 66, 67, 68, 47, 48, 49, 50, 51, 52, 53, 54, 55, 56, 57, 58] (by decide +kernel) (by decide +kernel)) (goodIn_sub (fun _ h => List.mem_cons_of_mem _ (List.mem_append_right _ h)) (by decide +kernel))
set_option maxRecDepth 20000 in
theorem gX6_areDoorsRight_X1_caseOf : GoodIn wsX6_areDoorsRight (wsV RX6 146 RX1 yX1_caseOf wsX1_caseOf) := goodIn_app (goodIn_of _ (by decide +kernel)) ggX6_areDoorsRight_X1_caseOf
set_option maxRecDepth 20000 in
theorem ggX6_areDoorsRight_X1_casesLikeOwn : GoodIn wsX6_areDoorsRight wsX1_casesLikeOwn := goodIn_ca (goodIn_r _ [20, 21, 22, 23, 24, 25, 9, 26, 27, 28, 29, 30, 31, 32, 33, 34, 35, 7, 8, 10, 11, 12, 13, 14, 15, 16, 59, 60, 61, 62, 63, 64, 65, 66, 67, 68, 47, 48, 49, 50, 51, 52, 53, 54, 55, 56, 57, 58] (by decide +kernel) (by decide +kernel)) (goodIn_sub (fun _ h => List.mem_cons_of_mem _ (List.mem_append_right _ h)) (by decide +kernel))
set_option maxRecDepth 20000 in
theorem gX6_areDoorsRight_X1_casesLikeOwn : GoodIn wsX6_areDoorsRight (wsV RX6 208 RX1 yX1_casesLikeOwn wsX1_casesLikeOwn) := goodIn_app (goodIn_of _ (by decide +kernel)) ggX6_areDoorsRight_X1_casesLikeOwn
theorem dX6_areDoorsRight_0 : decode cX6_areDoorsRight 0 = .ok (.iconst 0, 1) := by decide +kernel
theorem dX6_areDoorsRight_1 : decode cX6_areDoorsRight 1 = .ok (.istore_n 1, 1) := by decide +kernel
theorem dX6_areDoorsRight_2 : decode cX6_areDoorsRight 2 = .ok (.iload_n 1, 1) := by decide +kernel
theorem dX6_areDoorsRight_3 : decode cX6_areDoorsRight 3 = .ok (.aload_n 0, 1) := by decide +kernel
theorem dX6_areDoorsRight_4 : decode cX6_areDoorsRight 4 = .ok (.getfield 10, 3) := by decide +kernel
theorem dX6_areDoorsRight_7 : decode cX6_areDoorsRight 7 = .ok (.getfield 64, 3) := by decide +kernel
theorem dX6_areDoorsRight_10 : decode cX6_areDoorsRight 10 = .ok (.if_icmp .ge 59, 3) := by decide +kernel
theorem dX6_areDoorsRight_13 : decode cX6_areDoorsRight 13 = .ok (.aload_n 0, 1) := by decide +kernel
theorem dX6_areDoorsRight_14 : decode cX6_areDoorsRight 14 = .ok (.getfield 10, 3) := by decide +kernel
theorem dX6_areDoorsRight_17 : decode cX6_areDoorsRight 17 = .ok (.getfield 128, 3) := by decide +kernel
theorem dX6_areDoorsRight_20 : decode cX6_areDoorsRight 20 = .ok (.iload_n 1, 1) := by decide +kernel
theorem dX6_areDoorsRight_21 : decode cX6_areDoorsRight 21 = .ok (.aaload, 1) := by decide +kernel
theorem dX6_areDoorsRight_22 : decode cX6_areDoorsRight 22 = .ok (.astore_n 2, 1) := by decide +kernel
theorem dX6_areDoorsRight_23 : decode cX6_areDoorsRight 23 = .ok (.iconst 1, 1) := by decide +kernel
theorem dX6_areDoorsRight_24 : decode cX6_areDoorsRight 24 = .ok (.aload_n 0, 1) := by decide +kernel
theorem dX6_areDoorsRight_25 : decode cX6_areDoorsRight 25 = .ok (.getfield 10, 3) := by decide +kernel
theorem dX6_areDoorsRight_28 : decode cX6_areDoorsRight 28 = .ok (.aload_n 2, 1) := by decide +kernel
theorem dX6_areDoorsRight_29 : decode cX6_areDoorsRight 29 = .ok (.invokevirtual 146, 3) := by decide +kernel
theorem dX6_areDoorsRight_32 : decode cX6_areDoorsRight 32 = .ok (.ishl, 1) := by decide +kernel
theorem dX6_areDoorsRight_33 : decode cX6_areDoorsRight 33 = .ok (.istore_n 3, 1) := by decide +kernel
theorem dX6_areDoorsRight_34 : decode cX6_areDoorsRight 34 = .ok (.aload_n 0, 1) := by decide +kernel
theorem dX6_areDoorsRight_35 : decode cX6_areDoorsRight 35 = .ok (.getfield 10, 3) := by decide +kernel
theorem dX6_areDoorsRight_38 : decode cX6_areDoorsRight 38 = .ok (.aload_n 2, 1) := by decide +kernel
theorem dX6_areDoorsRight_39 : decode cX6_areDoorsRight 39 = .ok (.invokevirtual 208, 3) := by decide +kernel
theorem dX6_areDoorsRight_42 : decode cX6_areDoorsRight 42 = .ok (.iload_n 3, 1) := by decide +kernel
theorem dX6_areDoorsRight_43 : decode cX6_areDoorsRight 43 = .ok (.iand, 1) := by decide +kernel
theorem dX6_areDoorsRight_44 : decode cX6_areDoorsRight 44 = .ok (.ifCond .eq 17, 3) := by decide +kernel
theorem dX6_areDoorsRight_47 : decode cX6_areDoorsRight 47 = .ok (.aload_n 2, 1) := by decide +kernel
theorem dX6_areDoorsRight_48 : decode cX6_areDoorsRight 48 = .ok (.getfield 156, 3) := by decide +kernel
theorem dX6_areDoorsRight_51 : decode cX6_areDoorsRight 51 = .ok (.ifCond .eq 12, 3) := by decide +kernel
theorem dX6_areDoorsRight_54 : decode cX6_areDoorsRight 54 = .ok (.aload_n 2, 1) := by decide +kernel
theorem dX6_areDoorsRight_55 : decode cX6_areDoorsRight 55 = .ok (.getfield 153, 3) := by decide +kernel
theorem dX6_areDoorsRight_58 : decode cX6_areDoorsRight 58 = .ok (.ifCond .eq 5, 3) := by decide +kernel
theorem dX6_areDoorsRight_61 : decode cX6_areDoorsRight 61 = .ok (.iconst 0, 1) := by decide +kernel
theorem dX6_areDoorsRight_62 : decode cX6_areDoorsRight 62 = .ok (.ireturn, 1) := by decide +kernel
theorem dX6_areDoorsRight_63 : decode cX6_areDoorsRight 63 = .ok (.iinc 1 1, 3) := by decide +kernel
theorem dX6_areDoorsRight_66 : decode cX6_areDoorsRight 66 = .ok (.goto (-64), 3) := by decide +kernel
theorem dX6_areDoorsRight_69 : decode cX6_areDoorsRight 69 = .ok (.iconst 1, 1) := by decide +kernel
theorem dX6_areDoorsRight_70 : decode cX6_areDoorsRight 70 = .ok (.ireturn, 1) := by decide +kernel
