theorem dX7_meanKnocks_33 : decode cX7_meanKnocks 33 = .ok (.getfield 7, 3) := by decide +kernel
theorem dX7_meanKnocks_36 : decode cX7_meanKnocks 36 = .ok (.iconst 0, 1) := by decide +kernel
theorem dX7_meanKnocks_37 : decode cX7_meanKnocks 37 = .ok (.iaload, 1) := by decide +kernel
theorem dX7_meanKnocks_38 : decode cX7_meanKnocks 38 = .ok (.i2d, 1) := by decide +kernel
theorem dX7_meanKnocks_39 : decode cX7_meanKnocks 39 = .ok (.ddiv, 1) := by decide +kernel
theorem dX7_meanKnocks_40 : decode cX7_meanKnocks 40 = .ok (.goto 4, 3) := by decide +kernel
theorem dX7_meanKnocks_43 : decode cX7_meanKnocks 43 = .ok (.dconst 0, 1) := by decide +kernel
theorem dX7_meanKnocks_44 : decode cX7_meanKnocks 44 = .ok (.dreturn, 1) := by decide +kernel
theorem dX7_agreedShare_0 : decode cX7_agreedShare 0 = .ok (.aload_n 0, 1) := by decide +kernel
theorem dX7_agreedShare_1 : decode cX7_agreedShare 1 = .ok (.aload_n 0, 1) := by decide +kernel
theorem dX7_agreedShare_2 : decode cX7_agreedShare 2 = .ok (.getfield 7, 3) := by decide +kernel
theorem dX7_agreedShare_5 : decode cX7_agreedShare 5 = .ok (.iconst 3, 1) := by decide +kernel
theorem dX7_agreedShare_6 : decode cX7_agreedShare 6 = .ok (.iaload, 1) := by decide +kernel
theorem dX7_agreedShare_7 : decode cX7_agreedShare 7 = .ok (.ifCond .ne 7, 3) := by decide +kernel
theorem dX7_agreedShare_10 : decode cX7_agreedShare 10 = .ok (.iconst 1, 1) := by decide +kernel
theorem dX7_agreedShare_11 : decode cX7_agreedShare 11 = .ok (.goto 4, 3) := by decide +kernel
theorem dX7_agreedShare_14 : decode cX7_agreedShare 14 = .ok (.iconst 0, 1) := by decide +kernel
theorem dX7_agreedShare_15 : decode cX7_agreedShare 15 = .ok (.putfield 42, 3) := by decide +kernel
theorem dX7_agreedShare_18 : decode cX7_agreedShare 18 = .ok (.aload_n 0, 1) := by decide +kernel
theorem dX7_agreedShare_19 : decode cX7_agreedShare 19 = .ok (.getfield 42, 3) := by decide +kernel
theorem dX7_agreedShare_22 : decode cX7_agreedShare 22 = .ok (.ifCond .ne 21, 3) := by decide +kernel
theorem dX7_agreedShare_25 : decode cX7_agreedShare 25 = .ok (.aload_n 0, 1) := by decide +kernel
theorem dX7_agreedShare_26 : decode cX7_agreedShare 26 = .ok (.getfield 7, 3) := by decide +kernel
theorem dX7_agreedShare_29 : decode cX7_agreedShare 29 = .ok (.iconst 4, 1) := by decide +kernel
theorem dX7_agreedShare_30 : decode cX7_agreedShare 30 = .ok (.iaload, 1) := by decide +kernel
theorem dX7_agreedShare_31 : decode cX7_agreedShare 31 = .ok (.i2f, 1) := by decide +kernel
theorem dX7_agreedShare_32 : decode cX7_agreedShare 32 = .ok (.aload_n 0, 1) := by decide +kernel
theorem dX7_agreedShare_33 : decode cX7_agreedShare 33 = .ok (.getfield 7, 3) := by decide +kernel
theorem dX7_agreedShare_36 : decode cX7_agreedShare 36 = .ok (.iconst 3, 1) := by decide +kernel
theorem dX7_agreedShare_37 : decode cX7_agreedShare 37 = .ok (.iaload, 1) := by decide +kernel
theorem dX7_agreedShare_38 : decode cX7_agreedShare 38 = .ok (.i2f, 1) := by decide +kernel
theorem dX7_agreedShare_39 : decode cX7_agreedShare 39 = .ok (.fdiv, 1) := by decide +kernel
theorem dX7_agreedShare_40 : decode cX7_agreedShare 40 = .ok (.goto 4, 3) := by decide +kernel
theorem dX7_agreedShare_43 : decode cX7_agreedShare 43 = .ok (.fconst 0, 1) := by decide +kernel
theorem dX7_agreedShare_44 : decode cX7_agreedShare 44 = .ok (.freturn, 1) := by decide +kernel
theorem dX7_byteOf_0 : decode cX7_byteOf 0 = .ok (.iload_n 0, 1) := by decide +kernel
theorem dX7_byteOf_1 : decode cX7_byteOf 1 = .ok (.bipush 24, 2) := by decide +kernel
theorem dX7_byteOf_3 : decode cX7_byteOf 3 = .ok (.bipush 8, 2) := by decide +kernel
theorem dX7_byteOf_5 : decode cX7_byteOf 5 = .ok (.iload_n 1, 1) := by decide +kernel
theorem dX7_byteOf_6 : decode cX7_byteOf 6 = .ok (.imul, 1) := by decide +kernel
theorem dX7_byteOf_7 : decode cX7_byteOf 7 = .ok (.isub, 1) := by decide +kernel
theorem dX7_byteOf_8 : decode cX7_byteOf 8 = .ok (.iushr, 1) := by decide +kernel
theorem dX7_byteOf_9 : decode cX7_byteOf 9 = .ok (.sipush 255, 3) := by decide +kernel
theorem dX7_byteOf_12 : decode cX7_byteOf 12 = .ok (.iand, 1) := by decide +kernel
theorem dX7_byteOf_13 : decode cX7_byteOf 13 = .ok (.ireturn, 1) := by decide +kernel
set_option maxRecDepth 20000 in
theorem ggX7_append_X7_byteOf : GoodIn wsX7_append wsX7_byteOf := goodIn_r _ [6] (by decide +kernel) (by decide +kernel)
set_option maxRecDepth 20000 in
theorem gX7_append_X7_byteOf : GoodIn wsX7_append (va_wsS RX7 195 yX7_byteOf wsX7_byteOf) := goodIn_app (goodIn_of _ (by decide +kernel)) ggX7_append_X7_byteOf
set_option maxRecDepth 20000 in
theorem ggX7_append_X7_in : GoodIn wsX7_append wsX7_in := goodIn_r _ [9] (by decide +kernel) (by decide +kernel)
set_option maxRecDepth 20000 in
theorem gX7_append_X7_in : GoodIn wsX7_append (va_wsS RX7 72 yX7_in wsX7_in) := goodIn_app (goodIn_of _ (by decide +kernel)) ggX7_append_X7_in
set_option maxRecDepth 20000 in
theorem ggX7_append_X7_fails : GoodIn wsX7_append wsX7_fails := goodIn_r _ [13, 14, 19, 20, 21, 22, 23, 24, 25, 26, 27, 28, 29, 30, 31, 32, 33, 34, 35, 36] (by decide +kernel) (by decide +kernel)
set_option maxRecDepth 20000 in
theorem gX7_append_X7_fails : GoodIn wsX7_append (wsV RX7 51 RX7 yX7_fails wsX7_fails) := goodIn_app (goodIn_of _ (by decide +kernel)) ggX7_append_X7_fails
set_option maxRecDepth 20000 in
theorem ggX7_append_X7_done : GoodIn wsX7_append wsX7_done := goodIn_r _ [18, 14, 19, 20, 21, 22, 23, 24, 25, 26, 27, 28, 29, 30, 31, 32, 33, 34, 35, 36] (by decide +kernel) (by decide +kernel)
set_option maxRecDepth 20000 in
theorem gX7_append_X7_done : GoodIn wsX7_append (wsV RX7 69 RX7 yX7_done wsX7_done) := goodIn_app (goodIn_of _ (by decide +kernel)) ggX7_append_X7_done
theorem dX7_append_0 : decode cX7_append 0 = .ok (.iconst 0, 1) := by decide +kernel
theorem dX7_append_1 : decode cX7_append 1 = .ok (.istore_n 2, 1) := by decide +kernel
theorem dX7_append_2 : decode cX7_append 2 = .ok (.iconst 0, 1) := by decide +kernel
theorem dX7_append_3 : decode cX7_append 3 = .ok (.istore_n 3, 1) := by decide +kernel
theorem dX7_append_4 : decode cX7_append 4 = .ok (.iload_n 3, 1) := by decide +kernel
theorem dX7_append_5 : decode cX7_append 5 = .ok (.iconst 4, 1) := by decide +kernel
theorem dX7_append_6 : decode cX7_append 6 = .ok (.if_icmp .ge 46, 3) := by decide +kernel
theorem dX7_append_9 : decode cX7_append 9 = .ok (.iload_n 1, 1) := by decide +kernel
theorem dX7_append_10 : decode cX7_append 10 = .ok (.iload_n 3, 1) := by decide +kernel
theorem dX7_append_11 : decode cX7_append 11 = .ok (.invokestatic 195, 3) := by decide +kernel
theorem dX7_append_14 : decode cX7_append 14 = .ok (.istore 4, 2) := by decide +kernel
theorem dX7_append_16 : decode cX7_append 16 = .ok (.iload_n 2, 1) := by decide +kernel
theorem dX7_append_17 : decode cX7_append 17 = .ok (.iload 4, 2) := by decide +kernel
theorem dX7_append_19 : decode cX7_append 19 = .ok (.ifCond .ne 7, 3) := by decide +kernel
theorem dX7_append_22 : decode cX7_append 22 = .ok (.iconst 0, 1) := by decide +kernel
theorem dX7_append_23 : decode cX7_append 23 = .ok (.goto 21, 3) := by decide +kernel
theorem dX7_append_26 : decode cX7_append 26 = .ok (.iload 4, 2) := by decide +kernel
theorem dX7_append_28 : decode cX7_append 28 = .ok (.bipush 32, 2) := by decide +kernel
theorem dX7_append_30 : decode cX7_append 30 = .ok (.bipush 126, 2) := by decide +kernel
theorem dX7_append_32 : decode cX7_append 32 = .ok (.invokestatic 72, 3) := by decide +kernel
theorem dX7_append_35 : decode cX7_append 35 = .ok (.ifCond .eq 7, 3) := by decide +kernel
theorem dX7_append_38 : decode cX7_append 38 = .ok (.iconst 1, 1) := by decide +kernel
theorem dX7_append_39 : decode cX7_append 39 = .ok (.goto 5, 3) := by decide +kernel
theorem dX7_append_42 : decode cX7_append 42 = .ok (.bipush 100, 2) := by decide +kernel
theorem dX7_append_44 : decode cX7_append 44 = .ok (.iadd, 1) := by decide +kernel
theorem dX7_append_45 : decode cX7_append 45 = .ok (.istore_n 2, 1) := by decide +kernel
theorem dX7_append_46 : decode cX7_append 46 = .ok (.iinc 3 1, 3) := by decide +kernel
theorem dX7_append_49 : decode cX7_append 49 = .ok (.goto (-45), 3) := by decide +kernel
theorem dX7_append_52 : decode cX7_append 52 = .ok (.iload_n 2, 1) := by decide +kernel
theorem dX7_append_53 : decode cX7_append 53 = .ok (.iconst 4, 1) := by decide +kernel
theorem dX7_append_54 : decode cX7_append 54 = .ok (.if_icmp .le 9, 3) := by decide +kernel
theorem dX7_append_57 : decode cX7_append 57 = .ok (.aload_n 0, 1) := by decide +kernel
theorem dX7_append_58 : decode cX7_append 58 = .ok (.iconst 1, 1) := by decide +kernel
theorem dX7_append_59 : decode cX7_append 59 = .ok (.invokevirtual 51, 3) := by decide +kernel
theorem dX7_append_62 : decode cX7_append 62 = .ok (.ireturn, 1) := by decide +kernel
theorem dX7_append_63 : decode cX7_append 63 = .ok (.aload_n 0, 1) := by decide +kernel
theorem dX7_append_64 : decode cX7_append 64 = .ok (.getfield 192, 3) := by decide +kernel
theorem dX7_append_67 : decode cX7_append 67 = .ok (.iload_n 2, 1) := by decide +kernel
theorem dX7_append_68 : decode cX7_append 68 = .ok (.iadd, 1) := by decide +kernel
theorem dX7_append_69 : decode cX7_append 69 = .ok (.bipush 60, 2) := by decide +kernel
theorem dX7_append_71 : decode cX7_append 71 = .ok (.if_icmp .le 9, 3) := by decide +kernel
theorem dX7_append_74 : decode cX7_append 74 = .ok (.aload_n 0, 1) := by decide +kernel
theorem dX7_append_75 : decode cX7_append 75 = .ok (.iconst 2, 1) := by decide +kernel
theorem dX7_append_76 : decode cX7_append 76 = .ok (.invokevirtual 51, 3) := by decide +kernel
theorem dX7_append_79 : decode cX7_append 79 = .ok (.ireturn, 1) := by decide +kernel
theorem dX7_append_80 : decode cX7_append 80 = .ok (.iconst 0, 1) := by decide +kernel
theorem dX7_append_81 : decode cX7_append 81 = .ok (.istore_n 3, 1) := by decide +kernel
theorem dX7_append_82 : decode cX7_append 82 = .ok (.iload_n 3, 1) := by decide +kernel
theorem dX7_append_83 : decode cX7_append 83 = .ok (.iconst 4, 1) := by decide +kernel
theorem dX7_append_84 : decode cX7_append 84 = .ok (.if_icmp .ge 41, 3) := by decide +kernel
theorem dX7_append_87 : decode cX7_append 87 = .ok (.iload_n 1, 1) := by decide +kernel
theorem dX7_append_88 : decode cX7_append 88 = .ok (.iload_n 3, 1) := by decide +kernel
theorem dX7_append_89 : decode cX7_append 89 = .ok (.invokestatic 195, 3) := by decide +kernel
theorem dX7_append_92 : decode cX7_append 92 = .ok (.ifCond .eq 27, 3) := by decide +kernel
theorem dX7_append_95 : decode cX7_append 95 = .ok (.aload_n 0, 1) := by decide +kernel
theorem dX7_append_96 : decode cX7_append 96 = .ok (.getfield 22, 3) := by decide +kernel
theorem dX7_append_99 : decode cX7_append 99 = .ok (.aload_n 0, 1) := by decide +kernel
theorem dX7_append_100 : decode cX7_append 100 = .ok (.getfield 192, 3) := by decide +kernel
theorem dX7_append_103 : decode cX7_append 103 = .ok (.iload_n 1, 1) := by decide +kernel
theorem dX7_append_104 : decode cX7_append 104 = .ok (.iload_n 3, 1) := by decide +kernel
theorem dX7_append_105 : decode cX7_append 105 = .ok (.invokestatic 195, 3) := by decide +kernel
theorem dX7_append_108 : decode cX7_append 108 = .ok (.iastore, 1) := by decide +kernel
theorem dX7_append_109 : decode cX7_append 109 = .ok (.aload_n 0, 1) := by decide +kernel
theorem dX7_append_110 : decode cX7_append 110 = .ok (.dup, 1) := by decide +kernel
theorem dX7_append_111 : decode cX7_append 111 = .ok (.getfield 192, 3) := by decide +kernel
theorem dX7_append_114 : decode cX7_append 114 = .ok (.iconst 1, 1) := by decide +kernel
theorem dX7_append_115 : decode cX7_append 115 = .ok (.iadd, 1) := by decide +kernel
theorem dX7_append_116 : decode cX7_append 116 = .ok (.putfield 192, 3) := by decide +kernel
theorem dX7_append_119 : decode cX7_append 119 = .ok (.iinc 3 1, 3) := by decide +kernel
theorem dX7_append_122 : decode cX7_append 122 = .ok (.goto (-40), 3) := by decide +kernel
theorem dX7_append_125 : decode cX7_append 125 = .ok (.aload_n 0, 1) := by decide +kernel
theorem dX7_append_126 : decode cX7_append 126 = .ok (.aload_n 0, 1) := by decide +kernel
theorem dX7_append_127 : decode cX7_append 127 = .ok (.getfield 192, 3) := by decide +kernel
theorem dX7_append_130 : decode cX7_append 130 = .ok (.invokevirtual 69, 3) := by decide +kernel
theorem dX7_append_133 : decode cX7_append 133 = .ok (.ireturn, 1) := by decide +kernel
theorem dX7_here_0 : decode cX7_here 0 = .ok (.aload_n 0, 1) := by decide +kernel
theorem dX7_here_1 : decode cX7_here 1 = .ok (.getfield 198, 3) := by decide +kernel
theorem dX7_here_4 : decode cX7_here 4 = .ok (.aload_n 0, 1) := by decide +kernel
theorem dX7_here_5 : decode cX7_here 5 = .ok (.getfield 192, 3) := by decide +kernel
theorem dX7_here_8 : decode cX7_here 8 = .ok (.if_icmp .ge 15, 3) := by decide +kernel
theorem dX7_here_11 : decode cX7_here 11 = .ok (.aload_n 0, 1) := by decide +kernel
theorem dX7_here_12 : decode cX7_here 12 = .ok (.getfield 22, 3) := by decide +kernel
theorem dX7_here_15 : decode cX7_here 15 = .ok (.aload_n 0, 1) := by decide +kernel
theorem dX7_here_16 : decode cX7_here 16 = .ok (.getfield 198, 3) := by decide +kernel
theorem dX7_here_19 : decode cX7_here 19 = .ok (.iaload, 1) := by decide +kernel
theorem dX7_here_20 : decode cX7_here 20 = .ok (.goto 4, 3) := by decide +kernel
theorem dX7_here_23 : decode cX7_here 23 = .ok (.iconst (-1), 1) := by decide +kernel
theorem dX7_here_24 : decode cX7_here 24 = .ok (.ireturn, 1) := by decide +kernel
set_option maxRecDepth 20000 in
theorem ggX7_needs_X7_here : GoodIn wsX7_needs wsX7_here := goodIn_ca (goodIn_r _ [7, 2, 8, 9, 10, 11, 12, 13, 14, 15, 16, 17, 18, 19, 20, 21, 22, 23, 24, 25, 26, 27] (by decide +kernel) (by decide +kernel)) (goodIn_sub (fun _ h => List.mem_cons_of_mem _ (List.mem_append_right _ h)) (by decide +kernel))
set_option maxRecDepth 20000 in
theorem gX7_needs_X7_here : GoodIn wsX7_needs (wsV RX7 205 RX7 yX7_here wsX7_here) := goodIn_app (goodIn_of _ (by decide +kernel)) ggX7_needs_X7_here
theorem dX7_needs_0 : decode cX7_needs 0 = .ok (.aload_n 0, 1) := by decide +kernel
theorem dX7_needs_1 : decode cX7_needs 1 = .ok (.aload_n 0, 1) := by decide +kernel
theorem dX7_needs_2 : decode cX7_needs 2 = .ok (.getfield 201, 3) := by decide +kernel
theorem dX7_needs_5 : decode cX7_needs 5 = .ok (.ifCond .ne 11, 3) := by decide +kernel
theorem dX7_needs_8 : decode cX7_needs 8 = .ok (.aload_n 0, 1) := by decide +kernel
theorem dX7_needs_9 : decode cX7_needs 9 = .ok (.invokevirtual 205, 3) := by decide +kernel
theorem dX7_needs_12 : decode cX7_needs 12 = .ok (.iload_n 1, 1) := by decide +kernel
theorem dX7_needs_13 : decode cX7_needs 13 = .ok (.if_icmp .eq 7, 3) := by decide +kernel
theorem dX7_needs_16 : decode cX7_needs 16 = .ok (.iconst 1, 1) := by decide +kernel
theorem dX7_needs_17 : decode cX7_needs 17 = .ok (.goto 4, 3) := by decide +kernel
theorem dX7_needs_20 : decode cX7_needs 20 = .ok (.iconst 0, 1) := by decide +kernel
theorem dX7_needs_21 : decode cX7_needs 21 = .ok (.putfield 201, 3) := by decide +kernel
theorem dX7_needs_24 : decode cX7_needs 24 = .ok (.aload_n 0, 1) := by decide +kernel
theorem dX7_needs_25 : decode cX7_needs 25 = .ok (.dup, 1) := by decide +kernel
theorem dX7_needs_26 : decode cX7_needs 26 = .ok (.getfield 198, 3) := by decide +kernel
theorem dX7_needs_29 : decode cX7_needs 29 = .ok (.aload_n 0, 1) := by decide +kernel
theorem dX7_needs_30 : decode cX7_needs 30 = .ok (.getfield 201, 3) := by decide +kernel
theorem dX7_needs_33 : decode cX7_needs 33 = .ok (.ifCond .eq 7, 3) := by decide +kernel
theorem dX7_needs_36 : decode cX7_needs 36 = .ok (.iconst 0, 1) := by decide +kernel
theorem dX7_needs_37 : decode cX7_needs 37 = .ok (.goto 4, 3) := by decide +kernel
theorem dX7_needs_40 : decode cX7_needs 40 = .ok (.iconst 1, 1) := by decide +kernel
theorem dX7_needs_41 : decode cX7_needs 41 = .ok (.iadd, 1) := by decide +kernel
theorem dX7_needs_42 : decode cX7_needs 42 = .ok (.putfield 198, 3) := by decide +kernel
theorem dX7_needs_45 : decode cX7_needs 45 = .ok (.return_, 1) := by decide +kernel
set_option maxRecDepth 20000 in
theorem ggX7_needsThree_X7_needs : GoodIn wsX7_needsThree wsX7_needs := goodIn_ca (goodIn_r _ [5, 6, 7, 8, 9, 10, 4, 11, 12, 13, 14, 15, 16, 17, 18, 19, 20, 21, 22, 23, 24, 25, 26, 27, 28, 29, 30, 31] (by decide +kernel) (by decide +kernel)) (goodIn_sub (fun _ h => List.mem_cons_of_mem _ (List.mem_append_right _ h)) (by decide +kernel))
set_option maxRecDepth 20000 in
theorem gX7_needsThree_X7_needs : GoodIn wsX7_needsThree (wsV RX7 208 RX7 yX7_needs wsX7_needs) := goodIn_app (goodIn_of _ (by decide +kernel)) ggX7_needsThree_X7_needs
theorem dX7_needsThree_0 : decode cX7_needsThree 0 = .ok (.aload_n 0, 1) := by decide +kernel
theorem dX7_needsThree_1 : decode cX7_needsThree 1 = .ok (.iload_n 1, 1) := by decide +kernel
theorem dX7_needsThree_2 : decode cX7_needsThree 2 = .ok (.invokevirtual 208, 3) := by decide +kernel
theorem dX7_needsThree_5 : decode cX7_needsThree 5 = .ok (.aload_n 0, 1) := by decide +kernel
theorem dX7_needsThree_6 : decode cX7_needsThree 6 = .ok (.iload_n 2, 1) := by decide +kernel
theorem dX7_needsThree_7 : decode cX7_needsThree 7 = .ok (.invokevirtual 208, 3) := by decide +kernel
theorem dX7_needsThree_10 : decode cX7_needsThree 10 = .ok (.aload_n 0, 1) := by decide +kernel
theorem dX7_needsThree_11 : decode cX7_needsThree 11 = .ok (.iload_n 3, 1) := by decide +kernel
theorem dX7_needsThree_12 : decode cX7_needsThree 12 = .ok (.invokevirtual 208, 3) := by decide +kernel
theorem dX7_needsThree_15 : decode cX7_needsThree 15 = .ok (.return_, 1) := by decide +kernel
theorem dX7_takes_0 : decode cX7_takes 0 = .ok (.aload_n 0, 1) := by decide +kernel
theorem dX7_takes_1 : decode cX7_takes 1 = .ok (.aload_n 0, 1) := by decide +kernel
theorem dX7_takes_2 : decode cX7_takes 2 = .ok (.getfield 201, 3) := by decide +kernel
theorem dX7_takes_5 : decode cX7_takes 5 = .ok (.ifCond .ne 8, 3) := by decide +kernel
theorem dX7_takes_8 : decode cX7_takes 8 = .ok (.iload_n 1, 1) := by decide +kernel
theorem dX7_takes_9 : decode cX7_takes 9 = .ok (.iconst (-1), 1) := by decide +kernel
theorem dX7_takes_10 : decode cX7_takes 10 = .ok (.if_icmp .ne 7, 3) := by decide +kernel
theorem dX7_takes_13 : decode cX7_takes 13 = .ok (.iconst 1, 1) := by decide +kernel
theorem dX7_takes_14 : decode cX7_takes 14 = .ok (.goto 4, 3) := by decide +kernel
theorem dX7_takes_17 : decode cX7_takes 17 = .ok (.iconst 0, 1) := by decide +kernel
theorem dX7_takes_18 : decode cX7_takes 18 = .ok (.putfield 201, 3) := by decide +kernel
theorem dX7_takes_21 : decode cX7_takes 21 = .ok (.aload_n 0, 1) := by decide +kernel
theorem dX7_takes_22 : decode cX7_takes 22 = .ok (.dup, 1) := by decide +kernel
theorem dX7_takes_23 : decode cX7_takes 23 = .ok (.getfield 198, 3) := by decide +kernel
theorem dX7_takes_26 : decode cX7_takes 26 = .ok (.aload_n 0, 1) := by decide +kernel
theorem dX7_takes_27 : decode cX7_takes 27 = .ok (.getfield 201, 3) := by decide +kernel
theorem dX7_takes_30 : decode cX7_takes 30 = .ok (.ifCond .eq 7, 3) := by decide +kernel
theorem dX7_takes_33 : decode cX7_takes 33 = .ok (.iconst 0, 1) := by decide +kernel
theorem dX7_takes_34 : decode cX7_takes 34 = .ok (.goto 4, 3) := by decide +kernel
theorem dX7_takes_37 : decode cX7_takes 37 = .ok (.iconst 1, 1) := by decide +kernel
theorem dX7_takes_38 : decode cX7_takes 38 = .ok (.iadd, 1) := by decide +kernel
theorem dX7_takes_39 : decode cX7_takes 39 = .ok (.putfield 198, 3) := by decide +kernel
theorem dX7_takes_42 : decode cX7_takes 42 = .ok (.iload_n 1, 1) := by decide +kernel
theorem dX7_takes_43 : decode cX7_takes 43 = .ok (.ireturn, 1) := by decide +kernel
set_option maxRecDepth 20000 in
theorem ggX7_figure_X7_here : GoodIn wsX7_figure wsX7_here := goodIn_ca (goodIn_r _ [5, 6, 7, 8, 17, 18, 19, 20, 21, 22, 23, 24, 25, 26, 27, 28, 29, 30, 31, 32, 33, 34] (by decide +kernel) (by decide +kernel)) (goodIn_sub (fun _ h => List.mem_cons_of_mem _ (List.mem_append_right _ h)) (by decide +kernel))
set_option maxRecDepth 20000 in
theorem gX7_figure_X7_here : GoodIn wsX7_figure (wsV RX7 205 RX7 yX7_here wsX7_here) := goodIn_app (goodIn_of _ (by decide +kernel)) ggX7_figure_X7_here
set_option maxRecDepth 20000 in
theorem ggX7_figure_X7_in : GoodIn wsX7_figure wsX7_in := goodIn_r _ [11] (by decide +kernel) (by decide +kernel)
set_option maxRecDepth 20000 in
theorem gX7_figure_X7_in : GoodIn wsX7_figure (va_wsS RX7 72 yX7_in wsX7_in) := goodIn_app (goodIn_of _ (by decide +kernel)) ggX7_figure_X7_in
set_option maxRecDepth 20000 in
theorem ggX7_figure_X7_takes : GoodIn wsX7_figure wsX7_takes := goodIn_r _ [15, 16, 6, 17, 18, 19, 20, 21, 22, 23, 24, 25, 26, 27, 28, 29, 30, 31, 32, 33, 34] (by decide +kernel) (by decide +kernel)
set_option maxRecDepth 20000 in
theorem gX7_figure_X7_takes : GoodIn wsX7_figure (wsV RX7 211 RX7 yX7_takes wsX7_takes) := goodIn_app (goodIn_of _ (by decide +kernel)) ggX7_figure_X7_takes
theorem dX7_figure_0 : decode cX7_figure 0 = .ok (.aload_n 0, 1) := by decide +kernel
theorem dX7_figure_1 : decode cX7_figure 1 = .ok (.invokevirtual 205, 3) := by decide +kernel
theorem dX7_figure_4 : decode cX7_figure 4 = .ok (.istore_n 1, 1) := by decide +kernel
theorem dX7_figure_5 : decode cX7_figure 5 = .ok (.aload_n 0, 1) := by decide +kernel
theorem dX7_figure_6 : decode cX7_figure 6 = .ok (.iload_n 1, 1) := by decide +kernel
theorem dX7_figure_7 : decode cX7_figure 7 = .ok (.bipush 48, 2) := by decide +kernel
theorem dX7_figure_9 : decode cX7_figure 9 = .ok (.bipush 57, 2) := by decide +kernel
theorem dX7_figure_11 : decode cX7_figure 11 = .ok (.invokestatic 72, 3) := by decide +kernel
theorem dX7_figure_14 : decode cX7_figure 14 = .ok (.ifCond .eq 10, 3) := by decide +kernel
theorem dX7_figure_17 : decode cX7_figure 17 = .ok (.iload_n 1, 1) := by decide +kernel
theorem dX7_figure_18 : decode cX7_figure 18 = .ok (.bipush 48, 2) := by decide +kernel
theorem dX7_figure_20 : decode cX7_figure 20 = .ok (.isub, 1) := by decide +kernel
theorem dX7_figure_21 : decode cX7_figure 21 = .ok (.goto 4, 3) := by decide +kernel
theorem dX7_figure_24 : decode cX7_figure 24 = .ok (.iconst (-1), 1) := by decide +kernel
theorem dX7_figure_25 : decode cX7_figure 25 = .ok (.invokevirtual 211, 3) := by decide +kernel
theorem dX7_figure_28 : decode cX7_figure 28 = .ok (.ireturn, 1) := by decide +kernel
set_option maxRecDepth 20000 in
theorem ggX7_gender_X7_here : GoodIn wsX7_gender wsX7_here := goodIn_ca (goodIn_r _ [5, 6, 7, 8, 14, 15, 16, 17, 18, 19, 20, 21, 22, 23, 24, 25, 26, 27, 28, 29, 30, 31] (by decide +kernel) (by decide +kernel)) (goodIn_sub (fun _ h => List.mem_cons_of_mem _ (List.mem_append_right _ h)) (by decide +kernel))
set_option maxRecDepth 20000 in
theorem gX7_gender_X7_here : GoodIn wsX7_gender (wsV RX7 205 RX7 yX7_here wsX7_here) := goodIn_app (goodIn_of _ (by decide +kernel)) ggX7_gender_X7_here
set_option maxRecDepth 20000 in
theorem ggX7_gender_X7_takes : GoodIn wsX7_gender wsX7_takes := goodIn_r _ [12, 13, 6, 14, 15, 16, 17, 18, 19, 20, 21, 22, 23, 24, 25, 26, 27, 28, 29, 30, 31] (by decide +kernel) (by decide +kernel)
set_option maxRecDepth 20000 in
theorem gX7_gender_X7_takes : GoodIn wsX7_gender (wsV RX7 211 RX7 yX7_takes wsX7_takes) := goodIn_app (goodIn_of _ (by decide +kernel)) ggX7_gender_X7_takes
theorem dX7_gender_0 : decode cX7_gender 0 = .ok (.aload_n 0, 1) := by decide +kernel
theorem dX7_gender_1 : decode cX7_gender 1 = .ok (.invokevirtual 205, 3) := by decide +kernel
theorem dX7_gender_4 : decode cX7_gender 4 = .ok (.istore_n 1, 1) := by decide +kernel
theorem dX7_gender_5 : decode cX7_gender 5 = .ok (.aload_n 0, 1) := by decide +kernel
theorem dX7_gender_6 : decode cX7_gender 6 = .ok (.iload_n 1, 1) := by decide +kernel
theorem dX7_gender_7 : decode cX7_gender 7 = .ok (.bipush 111, 2) := by decide +kernel
theorem dX7_gender_9 : decode cX7_gender 9 = .ok (.if_icmp .ne 7, 3) := by decide +kernel
theorem dX7_gender_12 : decode cX7_gender 12 = .ok (.iconst 0, 1) := by decide +kernel
theorem dX7_gender_13 : decode cX7_gender 13 = .ok (.goto 24, 3) := by decide +kernel
theorem dX7_gender_16 : decode cX7_gender 16 = .ok (.iload_n 1, 1) := by decide +kernel
theorem dX7_gender_17 : decode cX7_gender 17 = .ok (.bipush 105, 2) := by decide +kernel
theorem dX7_gender_19 : decode cX7_gender 19 = .ok (.if_icmp .ne 7, 3) := by decide +kernel
theorem dX7_gender_22 : decode cX7_gender 22 = .ok (.iconst 1, 1) := by decide +kernel
theorem dX7_gender_23 : decode cX7_gender 23 = .ok (.goto 14, 3) := by decide +kernel
theorem dX7_gender_26 : decode cX7_gender 26 = .ok (.iload_n 1, 1) := by decide +kernel
theorem dX7_gender_27 : decode cX7_gender 27 = .ok (.bipush 103, 2) := by decide +kernel
theorem dX7_gender_29 : decode cX7_gender 29 = .ok (.if_icmp .ne 7, 3) := by decide +kernel
theorem dX7_gender_32 : decode cX7_gender 32 = .ok (.iconst 2, 1) := by decide +kernel
theorem dX7_gender_33 : decode cX7_gender 33 = .ok (.goto 4, 3) := by decide +kernel
theorem dX7_gender_36 : decode cX7_gender 36 = .ok (.iconst (-1), 1) := by decide +kernel
theorem dX7_gender_37 : decode cX7_gender 37 = .ok (.invokevirtual 211, 3) := by decide +kernel
theorem dX7_gender_40 : decode cX7_gender 40 = .ok (.ireturn, 1) := by decide +kernel
set_option maxRecDepth 20000 in
theorem ggX7_number_X7_here : GoodIn wsX7_number wsX7_here := goodIn_ca (goodIn_r _ [5, 6, 7, 8, 14, 15, 16, 17, 18, 19, 20, 21, 22, 23, 24, 25, 26, 27, 28, 29, 30, 31] (by decide +kernel) (by decide +kernel)) (goodIn_sub (fun _ h => List.mem_cons_of_mem _ (List.mem_append_right _ h)) (by decide +kernel))
set_option maxRecDepth 20000 in
theorem gX7_number_X7_here : GoodIn wsX7_number (wsV RX7 205 RX7 yX7_here wsX7_here) := goodIn_app (goodIn_of _ (by decide +kernel)) ggX7_number_X7_here
set_option maxRecDepth 20000 in
theorem ggX7_number_X7_takes : GoodIn wsX7_number wsX7_takes := goodIn_r _ [12, 13, 6, 14, 15, 16, 17, 18, 19, 20, 21, 22, 23, 24, 25, 26, 27, 28, 29, 30, 31] (by decide +kernel) (by decide +kernel)
set_option maxRecDepth 20000 in
theorem gX7_number_X7_takes : GoodIn wsX7_number (wsV RX7 211 RX7 yX7_takes wsX7_takes) := goodIn_app (goodIn_of _ (by decide +kernel)) ggX7_number_X7_takes
theorem dX7_number_0 : decode cX7_number 0 = .ok (.aload_n 0, 1) := by decide +kernel
theorem dX7_number_1 : decode cX7_number 1 = .ok (.invokevirtual 205, 3) := by decide +kernel
theorem dX7_number_4 : decode cX7_number 4 = .ok (.istore_n 1, 1) := by decide +kernel
theorem dX7_number_5 : decode cX7_number 5 = .ok (.aload_n 0, 1) := by decide +kernel
theorem dX7_number_6 : decode cX7_number 6 = .ok (.iload_n 1, 1) := by decide +kernel
theorem dX7_number_7 : decode cX7_number 7 = .ok (.bipush 115, 2) := by decide +kernel
theorem dX7_number_9 : decode cX7_number 9 = .ok (.if_icmp .ne 7, 3) := by decide +kernel
theorem dX7_number_12 : decode cX7_number 12 = .ok (.iconst 0, 1) := by decide +kernel
theorem dX7_number_13 : decode cX7_number 13 = .ok (.goto 14, 3) := by decide +kernel
theorem dX7_number_16 : decode cX7_number 16 = .ok (.iload_n 1, 1) := by decide +kernel
theorem dX7_number_17 : decode cX7_number 17 = .ok (.bipush 100, 2) := by decide +kernel
theorem dX7_number_19 : decode cX7_number 19 = .ok (.if_icmp .ne 7, 3) := by decide +kernel
theorem dX7_number_22 : decode cX7_number 22 = .ok (.iconst 1, 1) := by decide +kernel
theorem dX7_number_23 : decode cX7_number 23 = .ok (.goto 4, 3) := by decide +kernel
theorem dX7_number_26 : decode cX7_number 26 = .ok (.iconst (-1), 1) := by decide +kernel
theorem dX7_number_27 : decode cX7_number 27 = .ok (.invokevirtual 211, 3) := by decide +kernel
theorem dX7_number_30 : decode cX7_number 30 = .ok (.ireturn, 1) := by decide +kernel
set_option maxRecDepth 20000 in
theorem ggX7_grammarCase_X7_here : GoodIn wsX7_grammarCase wsX7_here := goodIn_ca (goodIn_r _ [5, 6, 7, 8, 14, 15, 16, 17, 18, 19, 20, 21, 22, 23, 24, 25, 26, 27, 28, 29, 30, 31] (by decide +kernel) (by decide +kernel)) (goodIn_sub (fun _ h => List.mem_cons_of_mem _ (List.mem_append_right _ h)) (by decide +kernel))
set_option maxRecDepth 20000 in
theorem gX7_grammarCase_X7_here : GoodIn wsX7_grammarCase (wsV RX7 205 RX7 yX7_here wsX7_here) := goodIn_app (goodIn_of _ (by decide +kernel)) ggX7_grammarCase_X7_here
set_option maxRecDepth 20000 in
theorem ggX7_grammarCase_X7_takes : GoodIn wsX7_grammarCase wsX7_takes := goodIn_r _ [12, 13, 6, 14, 15, 16, 17, 18, 19, 20, 21, 22, 23, 24, 25, 26, 27, 28, 29, 30, 31] (by decide +kernel) (by decide +kernel)
set_option maxRecDepth 20000 in
theorem gX7_grammarCase_X7_takes : GoodIn wsX7_grammarCase (wsV RX7 211 RX7 yX7_takes wsX7_takes) := goodIn_app (goodIn_of _ (by decide +kernel)) ggX7_grammarCase_X7_takes
theorem dX7_grammarCase_0 : decode cX7_grammarCase 0 = .ok (.aload_n 0, 1) := by decide +kernel
theorem dX7_grammarCase_1 : decode cX7_grammarCase 1 = .ok (.invokevirtual 205, 3) := by decide +kernel
theorem dX7_grammarCase_4 : decode cX7_grammarCase 4 = .ok (.istore_n 1, 1) := by decide +kernel
theorem dX7_grammarCase_5 : decode cX7_grammarCase 5 = .ok (.aload_n 0, 1) := by decide +kernel
theorem dX7_grammarCase_6 : decode cX7_grammarCase 6 = .ok (.iload_n 1, 1) := by decide +kernel
theorem dX7_grammarCase_7 : decode cX7_grammarCase 7 = .ok (.bipush 79, 2) := by decide +kernel
theorem dX7_grammarCase_9 : decode cX7_grammarCase 9 = .ok (.if_icmp .ne 7, 3) := by decide +kernel
theorem dX7_grammarCase_12 : decode cX7_grammarCase 12 = .ok (.iconst 0, 1) := by decide +kernel
theorem dX7_grammarCase_13 : decode cX7_grammarCase 13 = .ok (.goto 34, 3) := by decide +kernel
theorem dX7_grammarCase_16 : decode cX7_grammarCase 16 = .ok (.iload_n 1, 1) := by decide +kernel
theorem dX7_grammarCase_17 : decode cX7_grammarCase 17 = .ok (.bipush 83, 2) := by decide +kernel
theorem dX7_grammarCase_19 : decode cX7_grammarCase 19 = .ok (.if_icmp .ne 7, 3) := by decide +kernel
theorem dX7_grammarCase_22 : decode cX7_grammarCase 22 = .ok (.iconst 1, 1) := by decide +kernel
theorem dX7_grammarCase_23 : decode cX7_grammarCase 23 = .ok (.goto 24, 3) := by decide +kernel
theorem dX7_grammarCase_26 : decode cX7_grammarCase 26 = .ok (.iload_n 1, 1) := by decide +kernel
theorem dX7_grammarCase_27 : decode cX7_grammarCase 27 = .ok (.bipush 65, 2) := by decide +kernel
theorem dX7_grammarCase_29 : decode cX7_grammarCase 29 = .ok (.if_icmp .ne 7, 3) := by decide +kernel
theorem dX7_grammarCase_32 : decode cX7_grammarCase 32 = .ok (.iconst 2, 1) := by decide +kernel
theorem dX7_grammarCase_33 : decode cX7_grammarCase 33 = .ok (.goto 14, 3) := by decide +kernel
theorem dX7_grammarCase_36 : decode cX7_grammarCase 36 = .ok (.iload_n 1, 1) := by decide +kernel
theorem dX7_grammarCase_37 : decode cX7_grammarCase 37 = .ok (.bipush 76, 2) := by decide +kernel
theorem dX7_grammarCase_39 : decode cX7_grammarCase 39 = .ok (.if_icmp .ne 7, 3) := by decide +kernel
theorem dX7_grammarCase_42 : decode cX7_grammarCase 42 = .ok (.iconst 3, 1) := by decide +kernel
theorem dX7_grammarCase_43 : decode cX7_grammarCase 43 = .ok (.goto 4, 3) := by decide +kernel
theorem dX7_grammarCase_46 : decode cX7_grammarCase 46 = .ok (.iconst (-1), 1) := by decide +kernel
theorem dX7_grammarCase_47 : decode cX7_grammarCase 47 = .ok (.invokevirtual 211, 3) := by decide +kernel
theorem dX7_grammarCase_50 : decode cX7_grammarCase 50 = .ok (.ireturn, 1) := by decide +kernel
set_option maxRecDepth 20000 in
theorem ggX7_letter_X7_here : GoodIn wsX7_letter wsX7_here := goodIn_ca (goodIn_r _ [5, 6, 7, 8, 17, 18, 19, 20, 21, 22, 23, 24, 25, 26, 27, 28, 29, 30, 31, 32, 33, 34] (by decide +kernel) (by decide +kernel)) (goodIn_sub (fun _ h => List.mem_cons_of_mem _ (List.mem_append_right _ h)) (by decide +kernel))
set_option maxRecDepth 20000 in
theorem gX7_letter_X7_here : GoodIn wsX7_letter (wsV RX7 205 RX7 yX7_here wsX7_here) := goodIn_app (goodIn_of _ (by decide +kernel)) ggX7_letter_X7_here
set_option maxRecDepth 20000 in
theorem ggX7_letter_X7_in : GoodIn wsX7_letter wsX7_in := goodIn_r _ [11] (by decide +kernel) (by decide +kernel)
set_option maxRecDepth 20000 in
theorem gX7_letter_X7_in : GoodIn wsX7_letter (va_wsS RX7 72 yX7_in wsX7_in) := goodIn_app (goodIn_of _ (by decide +kernel)) ggX7_letter_X7_in
set_option maxRecDepth 20000 in
theorem ggX7_letter_X7_takes : GoodIn wsX7_letter wsX7_takes := goodIn_r _ [15, 16, 6, 17, 18, 19, 20, 21, 22, 23, 24, 25, 26, 27, 28, 29, 30, 31, 32, 33, 34] (by decide +kernel) (by decide +kernel)
set_option maxRecDepth 20000 in
theorem gX7_letter_X7_takes : GoodIn wsX7_letter (wsV RX7 211 RX7 yX7_takes wsX7_takes) := goodIn_app (goodIn_of _ (by decide +kernel)) ggX7_letter_X7_takes
theorem dX7_letter_0 : decode cX7_letter 0 = .ok (.aload_n 0, 1) := by decide +kernel
theorem dX7_letter_1 : decode cX7_letter 1 = .ok (.invokevirtual 205, 3) := by decide +kernel
theorem dX7_letter_4 : decode cX7_letter 4 = .ok (.istore_n 1, 1) := by decide +kernel
theorem dX7_letter_5 : decode cX7_letter 5 = .ok (.aload_n 0, 1) := by decide +kernel
theorem dX7_letter_6 : decode cX7_letter 6 = .ok (.iload_n 1, 1) := by decide +kernel
theorem dX7_letter_7 : decode cX7_letter 7 = .ok (.bipush 97, 2) := by decide +kernel
theorem dX7_letter_9 : decode cX7_letter 9 = .ok (.bipush 122, 2) := by decide +kernel
theorem dX7_letter_11 : decode cX7_letter 11 = .ok (.invokestatic 72, 3) := by decide +kernel
theorem dX7_letter_14 : decode cX7_letter 14 = .ok (.ifCond .eq 10, 3) := by decide +kernel
theorem dX7_letter_17 : decode cX7_letter 17 = .ok (.iload_n 1, 1) := by decide +kernel
theorem dX7_letter_18 : decode cX7_letter 18 = .ok (.bipush 97, 2) := by decide +kernel
theorem dX7_letter_20 : decode cX7_letter 20 = .ok (.isub, 1) := by decide +kernel
theorem dX7_letter_21 : decode cX7_letter 21 = .ok (.goto 4, 3) := by decide +kernel
theorem dX7_letter_24 : decode cX7_letter 24 = .ok (.iconst (-1), 1) := by decide +kernel
theorem dX7_letter_25 : decode cX7_letter 25 = .ok (.invokevirtual 211, 3) := by decide +kernel
theorem dX7_letter_28 : decode cX7_letter 28 = .ok (.ireturn, 1) := by decide +kernel
set_option maxRecDepth 20000 in
theorem ggX7_readsS_X7_here : GoodIn wsX7_readsS wsX7_here := goodIn_ca (goodIn_r _ [8, 3, 9, 10, 34, 35, 36, 37, 38, 39, 40, 41, 42, 43, 44, 45, 46, 47, 48, 49, 50, 51] (by decide +kernel) (by decide +kernel)) (goodIn_sub (fun _ h => List.mem_cons_of_mem _ (List.mem_append_right _ h)) (by decide +kernel))
set_option maxRecDepth 20000 in
theorem gX7_readsS_X7_here : GoodIn wsX7_readsS (wsV RX7 205 RX7 yX7_here wsX7_here) := goodIn_app (goodIn_of _ (by decide +kernel)) ggX7_readsS_X7_here
set_option maxRecDepth 20000 in
theorem ggX7_readsS_X7_needsThree : GoodIn wsX7_readsS wsX7_needsThree := goodIn_ca (goodIn_r _ [14, 15, 16, 17, 7, 18, 2, 3, 4, 5, 6, 8, 9, 10, 34, 35, 36, 37, 38, 39, 40, 41, 42, 43, 44, 45, 46, 47, 48, 49, 50, 51] (by decide +kernel) (by decide +kernel)) (goodIn_sub (fun _ h => List.mem_cons_of_mem _ (List.mem_append_right _ h)) (by decide +kernel))
set_option maxRecDepth 20000 in
theorem gX7_readsS_X7_needsThree : GoodIn wsX7_readsS (wsV RX7 214 RX7 yX7_needsThree wsX7_needsThree) := goodIn_app (goodIn_of _ (by decide +kernel)) ggX7_readsS_X7_needsThree
set_option maxRecDepth 20000 in
theorem ggX7_readsS_X7_grammarCase : GoodIn wsX7_readsS wsX7_grammarCase := goodIn_ca (goodIn_r _ [22, 4, 5, 6, 7, 8, 3, 9, 10, 23, 24, 25, 26, 2, 34, 35, 36, 37, 38, 39, 40, 41, 42, 43, 44, 45, 46, 47, 48, 49, 50, 51] (by decide +kernel) (by decide +kernel)) (goodIn_sub (fun _ h => List.mem_cons_of_mem _ (List.mem_append_right _ h)) (by decide +kernel))
set_option maxRecDepth 20000 in
theorem gX7_readsS_X7_grammarCase : GoodIn wsX7_readsS (wsV RX7 218 RX7 yX7_grammarCase wsX7_grammarCase) := goodIn_app (goodIn_of _ (by decide +kernel)) ggX7_readsS_X7_grammarCase
set_option maxRecDepth 20000 in
theorem ggX7_readsS_X7_figure : GoodIn wsX7_readsS wsX7_figure := goodIn_ca (goodIn_r _ [30, 4, 5, 6, 7, 8, 3, 9, 10, 31, 32, 33, 23, 24, 25, 26, 2, 34, 35, 36, 37, 38, 39, 40, 41, 42, 43, 44, 45, 46, 47, 48, 49, 50, 51] (by decide +kernel) (by decide +kernel)) (goodIn_sub (fun _ h => List.mem_cons_of_mem _ (List.mem_append_right _ h)) (by decide +kernel))
set_option maxRecDepth 20000 in
theorem gX7_readsS_X7_figure : GoodIn wsX7_readsS (wsV RX7 221 RX7 yX7_figure wsX7_figure) := goodIn_app (goodIn_of _ (by decide +kernel)) ggX7_readsS_X7_figure
set_option maxRecDepth 20000 in
theorem ggX7_readsS_X7_needs : GoodIn wsX7_readsS wsX7_needs := goodIn_ca (goodIn_r _ [18, 2, 3, 4, 5, 6, 7, 8, 9, 10, 34, 35, 36, 37, 38, 39, 40, 41, 42, 43, 44, 45, 46, 47, 48, 49, 50, 51] (by decide +kernel) (by decide +kernel)) (goodIn_sub (fun _ h => List.mem_cons_of_mem _ (List.mem_append_right _ h)) (by decide +kernel))
set_option maxRecDepth 20000 in
theorem gX7_readsS_X7_needs : GoodIn wsX7_readsS (wsV RX7 208 RX7 yX7_needs wsX7_needs) := goodIn_app (goodIn_of _ (by decide +kernel)) ggX7_readsS_X7_needs
theorem dX7_readsS_0 : decode cX7_readsS 0 = .ok (.aload_n 0, 1) := by decide +kernel
theorem dX7_readsS_1 : decode cX7_readsS 1 = .ok (.invokevirtual 205, 3) := by decide +kernel
theorem dX7_readsS_4 : decode cX7_readsS 4 = .ok (.istore_n 2, 1) := by decide +kernel
theorem dX7_readsS_5 : decode cX7_readsS 5 = .ok (.iload_n 2, 1) := by decide +kernel
theorem dX7_readsS_6 : decode cX7_readsS 6 = .ok (.bipush 105, 2) := by decide +kernel
theorem dX7_readsS_8 : decode cX7_readsS 8 = .ok (.if_icmp .ne 36, 3) := by decide +kernel
theorem dX7_readsS_11 : decode cX7_readsS 11 = .ok (.aload_n 0, 1) := by decide +kernel
theorem dX7_readsS_12 : decode cX7_readsS 12 = .ok (.getfield 36, 3) := by decide +kernel
theorem dX7_readsS_15 : decode cX7_readsS 15 = .ok (.iload_n 1, 1) := by decide +kernel
theorem dX7_readsS_16 : decode cX7_readsS 16 = .ok (.bipush 116, 2) := by decide +kernel
theorem dX7_readsS_18 : decode cX7_readsS 18 = .ok (.iastore, 1) := by decide +kernel
theorem dX7_readsS_19 : decode cX7_readsS 19 = .ok (.aload_n 0, 1) := by decide +kernel
theorem dX7_readsS_20 : decode cX7_readsS 20 = .ok (.bipush 105, 2) := by decide +kernel
theorem dX7_readsS_22 : decode cX7_readsS 22 = .ok (.bipush 108, 2) := by decide +kernel
theorem dX7_readsS_24 : decode cX7_readsS 24 = .ok (.bipush 108, 2) := by decide +kernel
theorem dX7_readsS_26 : decode cX7_readsS 26 = .ok (.invokevirtual 214, 3) := by decide +kernel
theorem dX7_readsS_29 : decode cX7_readsS 29 = .ok (.aload_n 0, 1) := by decide +kernel
theorem dX7_readsS_30 : decode cX7_readsS 30 = .ok (.getfield 36, 3) := by decide +kernel
theorem dX7_readsS_33 : decode cX7_readsS 33 = .ok (.iload_n 1, 1) := by decide +kernel
theorem dX7_readsS_34 : decode cX7_readsS 34 = .ok (.iconst 1, 1) := by decide +kernel
theorem dX7_readsS_35 : decode cX7_readsS 35 = .ok (.iadd, 1) := by decide +kernel
theorem dX7_readsS_36 : decode cX7_readsS 36 = .ok (.aload_n 0, 1) := by decide +kernel
theorem dX7_readsS_37 : decode cX7_readsS 37 = .ok (.invokevirtual 218, 3) := by decide +kernel
theorem dX7_readsS_40 : decode cX7_readsS 40 = .ok (.iastore, 1) := by decide +kernel
theorem dX7_readsS_41 : decode cX7_readsS 41 = .ok (.goto 140, 3) := by decide +kernel
theorem dX7_readsS_44 : decode cX7_readsS 44 = .ok (.iload_n 2, 1) := by decide +kernel
theorem dX7_readsS_45 : decode cX7_readsS 45 = .ok (.bipush 104, 2) := by decide +kernel
theorem dX7_readsS_47 : decode cX7_readsS 47 = .ok (.if_icmp .ne 36, 3) := by decide +kernel
theorem dX7_readsS_50 : decode cX7_readsS 50 = .ok (.aload_n 0, 1) := by decide +kernel
theorem dX7_readsS_51 : decode cX7_readsS 51 = .ok (.getfield 36, 3) := by decide +kernel
theorem dX7_readsS_54 : decode cX7_readsS 54 = .ok (.iload_n 1, 1) := by decide +kernel
theorem dX7_readsS_55 : decode cX7_readsS 55 = .ok (.bipush 104, 2) := by decide +kernel
theorem dX7_readsS_57 : decode cX7_readsS 57 = .ok (.iastore, 1) := by decide +kernel
theorem dX7_readsS_58 : decode cX7_readsS 58 = .ok (.aload_n 0, 1) := by decide +kernel
theorem dX7_readsS_59 : decode cX7_readsS 59 = .ok (.bipush 104, 2) := by decide +kernel
theorem dX7_readsS_61 : decode cX7_readsS 61 = .ok (.bipush 117, 2) := by decide +kernel
theorem dX7_readsS_63 : decode cX7_readsS 63 = .ok (.bipush 116, 2) := by decide +kernel
theorem dX7_readsS_65 : decode cX7_readsS 65 = .ok (.invokevirtual 214, 3) := by decide +kernel
theorem dX7_readsS_68 : decode cX7_readsS 68 = .ok (.aload_n 0, 1) := by decide +kernel
theorem dX7_readsS_69 : decode cX7_readsS 69 = .ok (.getfield 36, 3) := by decide +kernel
theorem dX7_readsS_72 : decode cX7_readsS 72 = .ok (.iload_n 1, 1) := by decide +kernel
theorem dX7_readsS_73 : decode cX7_readsS 73 = .ok (.iconst 1, 1) := by decide +kernel
theorem dX7_readsS_74 : decode cX7_readsS 74 = .ok (.iadd, 1) := by decide +kernel
theorem dX7_readsS_75 : decode cX7_readsS 75 = .ok (.aload_n 0, 1) := by decide +kernel
theorem dX7_readsS_76 : decode cX7_readsS 76 = .ok (.invokevirtual 221, 3) := by decide +kernel
theorem dX7_readsS_79 : decode cX7_readsS 79 = .ok (.iastore, 1) := by decide +kernel
theorem dX7_readsS_80 : decode cX7_readsS 80 = .ok (.goto 101, 3) := by decide +kernel
theorem dX7_readsS_83 : decode cX7_readsS 83 = .ok (.aload_n 0, 1) := by decide +kernel
theorem dX7_readsS_84 : decode cX7_readsS 84 = .ok (.getfield 36, 3) := by decide +kernel
theorem dX7_readsS_87 : decode cX7_readsS 87 = .ok (.iload_n 1, 1) := by decide +kernel
theorem dX7_readsS_88 : decode cX7_readsS 88 = .ok (.bipush 115, 2) := by decide +kernel
theorem dX7_readsS_90 : decode cX7_readsS 90 = .ok (.iastore, 1) := by decide +kernel
theorem dX7_readsS_91 : decode cX7_readsS 91 = .ok (.aload_n 0, 1) := by decide +kernel
theorem dX7_readsS_92 : decode cX7_readsS 92 = .ok (.bipush 101, 2) := by decide +kernel
theorem dX7_readsS_94 : decode cX7_readsS 94 = .ok (.invokevirtual 208, 3) := by decide +kernel
theorem dX7_readsS_97 : decode cX7_readsS 97 = .ok (.aload_n 0, 1) := by decide +kernel
theorem dX7_readsS_98 : decode cX7_readsS 98 = .ok (.bipush 116, 2) := by decide +kernel
theorem dX7_readsS_100 : decode cX7_readsS 100 = .ok (.invokevirtual 208, 3) := by decide +kernel
theorem dX7_readsS_103 : decode cX7_readsS 103 = .ok (.aload_n 0, 1) := by decide +kernel
theorem dX7_readsS_104 : decode cX7_readsS 104 = .ok (.getfield 36, 3) := by decide +kernel
theorem dX7_readsS_107 : decode cX7_readsS 107 = .ok (.iload_n 1, 1) := by decide +kernel
theorem dX7_readsS_108 : decode cX7_readsS 108 = .ok (.iconst 1, 1) := by decide +kernel
theorem dX7_readsS_109 : decode cX7_readsS 109 = .ok (.iadd, 1) := by decide +kernel
theorem dX7_readsS_110 : decode cX7_readsS 110 = .ok (.aload_n 0, 1) := by decide +kernel
theorem dX7_readsS_111 : decode cX7_readsS 111 = .ok (.invokevirtual 221, 3) := by decide +kernel
theorem dX7_readsS_114 : decode cX7_readsS 114 = .ok (.iastore, 1) := by decide +kernel
theorem dX7_readsS_115 : decode cX7_readsS 115 = .ok (.aload_n 0, 1) := by decide +kernel
theorem dX7_readsS_116 : decode cX7_readsS 116 = .ok (.bipush 64, 2) := by decide +kernel
theorem dX7_readsS_118 : decode cX7_readsS 118 = .ok (.invokevirtual 208, 3) := by decide +kernel
theorem dX7_readsS_121 : decode cX7_readsS 121 = .ok (.aload_n 0, 1) := by decide +kernel
theorem dX7_readsS_122 : decode cX7_readsS 122 = .ok (.getfield 201, 3) := by decide +kernel
theorem dX7_readsS_125 : decode cX7_readsS 125 = .ok (.ifCond .ne 16, 3) := by decide +kernel
theorem dX7_readsS_128 : decode cX7_readsS 128 = .ok (.aload_n 0, 1) := by decide +kernel
theorem dX7_readsS_129 : decode cX7_readsS 129 = .ok (.invokevirtual 205, 3) := by decide +kernel
theorem dX7_readsS_132 : decode cX7_readsS 132 = .ok (.bipush 45, 2) := by decide +kernel
theorem dX7_readsS_134 : decode cX7_readsS 134 = .ok (.if_icmp .ne 7, 3) := by decide +kernel
theorem dX7_readsS_137 : decode cX7_readsS 137 = .ok (.iconst 1, 1) := by decide +kernel
theorem dX7_readsS_138 : decode cX7_readsS 138 = .ok (.goto 4, 3) := by decide +kernel
theorem dX7_readsS_141 : decode cX7_readsS 141 = .ok (.iconst 0, 1) := by decide +kernel
theorem dX7_readsS_142 : decode cX7_readsS 142 = .ok (.istore_n 3, 1) := by decide +kernel
theorem dX7_readsS_143 : decode cX7_readsS 143 = .ok (.aload_n 0, 1) := by decide +kernel
theorem dX7_readsS_144 : decode cX7_readsS 144 = .ok (.dup, 1) := by decide +kernel
theorem dX7_readsS_145 : decode cX7_readsS 145 = .ok (.getfield 198, 3) := by decide +kernel
theorem dX7_readsS_148 : decode cX7_readsS 148 = .ok (.iload_n 3, 1) := by decide +kernel
theorem dX7_readsS_149 : decode cX7_readsS 149 = .ok (.ifCond .eq 7, 3) := by decide +kernel
theorem dX7_readsS_152 : decode cX7_readsS 152 = .ok (.iconst 1, 1) := by decide +kernel
theorem dX7_readsS_153 : decode cX7_readsS 153 = .ok (.goto 4, 3) := by decide +kernel
theorem dX7_readsS_156 : decode cX7_readsS 156 = .ok (.iconst 0, 1) := by decide +kernel
theorem dX7_readsS_157 : decode cX7_readsS 157 = .ok (.iadd, 1) := by decide +kernel
theorem dX7_readsS_158 : decode cX7_readsS 158 = .ok (.putfield 198, 3) := by decide +kernel
theorem dX7_readsS_161 : decode cX7_readsS 161 = .ok (.aload_n 0, 1) := by decide +kernel
theorem dX7_readsS_162 : decode cX7_readsS 162 = .ok (.getfield 36, 3) := by decide +kernel
theorem dX7_readsS_165 : decode cX7_readsS 165 = .ok (.iload_n 1, 1) := by decide +kernel
theorem dX7_readsS_166 : decode cX7_readsS 166 = .ok (.iconst 2, 1) := by decide +kernel
theorem dX7_readsS_167 : decode cX7_readsS 167 = .ok (.iadd, 1) := by decide +kernel
theorem dX7_readsS_168 : decode cX7_readsS 168 = .ok (.iload_n 3, 1) := by decide +kernel
theorem dX7_readsS_169 : decode cX7_readsS 169 = .ok (.ifCond .eq 7, 3) := by decide +kernel
theorem dX7_readsS_172 : decode cX7_readsS 172 = .ok (.iconst (-1), 1) := by decide +kernel
theorem dX7_readsS_173 : decode cX7_readsS 173 = .ok (.goto 7, 3) := by decide +kernel
theorem dX7_readsS_176 : decode cX7_readsS 176 = .ok (.aload_n 0, 1) := by decide +kernel
theorem dX7_readsS_177 : decode cX7_readsS 177 = .ok (.invokevirtual 221, 3) := by decide +kernel
theorem dX7_readsS_180 : decode cX7_readsS 180 = .ok (.iastore, 1) := by decide +kernel
theorem dX7_readsS_181 : decode cX7_readsS 181 = .ok (.return_, 1) := by decide +kernel
set_option maxRecDepth 20000 in
theorem ggX7_readsK_X7_here : GoodIn wsX7_readsK wsX7_here := goodIn_ca (goodIn_r _ [6, 7, 8, 9, 42, 43, 44, 45, 46, 47, 48, 49, 50, 51, 52, 53, 54, 55, 56, 57, 58, 59] (by decide +kernel) (by decide +kernel)) (goodIn_sub (fun _ h => List.mem_cons_of_mem _ (List.mem_append_right _ h)) (by decide +kernel))
set_option maxRecDepth 20000 in
theorem gX7_readsK_X7_here : GoodIn wsX7_readsK (wsV RX7 205 RX7 yX7_here wsX7_here) := goodIn_app (goodIn_of _ (by decide +kernel)) ggX7_readsK_X7_here
set_option maxRecDepth 20000 in
theorem ggX7_readsK_X7_needsThree : GoodIn wsX7_readsK wsX7_needsThree := goodIn_ca (goodIn_r _ [13, 14, 15, 16, 5, 17, 18, 7, 2, 3, 4, 6, 8, 9, 42, 43, 44, 45, 46, 47, 48, 49, 50, 51, 52, 53, 54, 55, 56, 57, 58, 59] (by decide +kernel) (by decide +kernel)) (goodIn_sub (fun _ h => List.mem_cons_of_mem _ (List.mem_append_right _ h)) (by decide +kernel))
set_option maxRecDepth 20000 in
theorem gX7_readsK_X7_needsThree : GoodIn wsX7_readsK (wsV RX7 214 RX7 yX7_needsThree wsX7_needsThree) := goodIn_app (goodIn_of _ (by decide +kernel)) ggX7_readsK_X7_needsThree
set_option maxRecDepth 20000 in
theorem ggX7_readsK_X7_needs : GoodIn wsX7_readsK wsX7_needs := goodIn_ca (goodIn_r _ [17, 18, 7, 2, 3, 4, 5, 6, 8, 9, 42, 43, 44, 45, 46, 47, 48, 49, 50, 51, 52, 53, 54, 55, 56, 57, 58, 59] (by decide +kernel) (by decide +kernel)) (goodIn_sub (fun _ h => List.mem_cons_of_mem _ (List.mem_append_right _ h)) (by decide +kernel))
set_option maxRecDepth 20000 in
theorem gX7_readsK_X7_needs : GoodIn wsX7_readsK (wsV RX7 208 RX7 yX7_needs wsX7_needs) := goodIn_app (goodIn_of _ (by decide +kernel)) ggX7_readsK_X7_needs
set_option maxRecDepth 20000 in
theorem ggX7_readsK_X7_figure : GoodIn wsX7_readsK wsX7_figure := goodIn_ca (goodIn_r _ [22, 2, 3, 4, 5, 6, 7, 8, 9, 23, 24, 25, 26, 27, 28, 29, 18, 42, 43, 44, 45, 46, 47, 48, 49, 50, 51, 52, 53, 54, 55, 56, 57, 58, 59] (by decide +kernel) (by decide +kernel)) (goodIn_sub (fun _ h => List.mem_cons_of_mem _ (List.mem_append_right _ h)) (by decide +kernel))
set_option maxRecDepth 20000 in
theorem gX7_readsK_X7_figure : GoodIn wsX7_readsK (wsV RX7 221 RX7 yX7_figure wsX7_figure) := goodIn_app (goodIn_of _ (by decide +kernel)) ggX7_readsK_X7_figure
set_option maxRecDepth 20000 in
theorem ggX7_readsK_X7_gender : GoodIn wsX7_readsK wsX7_gender := goodIn_ca (goodIn_r _ [33, 2, 3, 4, 5, 6, 7, 8, 9, 26, 27, 28, 29, 18, 42, 43, 44, 45, 46, 47, 48, 49, 50, 51, 52, 53, 54, 55, 56, 57, 58, 59] (by decide +kernel) (by decide +kernel)) (goodIn_sub (fun _ h => List.mem_cons_of_mem _ (List.mem_append_right _ h)) (by decide +kernel))
set_option maxRecDepth 20000 in
theorem gX7_readsK_X7_gender : GoodIn wsX7_readsK (wsV RX7 224 RX7 yX7_gender wsX7_gender) := goodIn_app (goodIn_of _ (by decide +kernel)) ggX7_readsK_X7_gender
set_option maxRecDepth 20000 in
theorem ggX7_readsK_X7_number : GoodIn wsX7_readsK wsX7_number := goodIn_ca (goodIn_r _ [37, 2, 3, 4, 5, 6, 7, 8, 9, 26, 27, 28, 29, 18, 42, 43, 44, 45, 46, 47, 48, 49, 50, 51, 52, 53, 54, 55, 56, 57, 58, 59] (by decide +kernel) (by decide +kernel)) (goodIn_sub (fun _ h => List.mem_cons_of_mem _ (List.mem_append_right _ h)) (by decide +kernel))
set_option maxRecDepth 20000 in
theorem gX7_readsK_X7_number : GoodIn wsX7_readsK (wsV RX7 227 RX7 yX7_number wsX7_number) := goodIn_app (goodIn_of _ (by decide +kernel)) ggX7_readsK_X7_number
set_option maxRecDepth 20000 in
theorem ggX7_readsK_X7_grammarCase : GoodIn wsX7_readsK wsX7_grammarCase := goodIn_ca (goodIn_r _ [41, 2, 3, 4, 5, 6, 7, 8, 9, 26, 27, 28, 29, 18, 42, 43, 44, 45, 46, 47, 48, 49, 50, 51, 52, 53, 54, 55, 56, 57, 58, 59] (by decide +kernel) (by decide +kernel)) (goodIn_sub (fun _ h => List.mem_cons_of_mem _ (List.mem_append_right _ h)) (by decide +kernel))
set_option maxRecDepth 20000 in
theorem gX7_readsK_X7_grammarCase : GoodIn wsX7_readsK (wsV RX7 218 RX7 yX7_grammarCase wsX7_grammarCase) := goodIn_app (goodIn_of _ (by decide +kernel)) ggX7_readsK_X7_grammarCase
theorem dX7_readsK_0 : decode cX7_readsK 0 = .ok (.aload_n 0, 1) := by decide +kernel
theorem dX7_readsK_1 : decode cX7_readsK 1 = .ok (.invokevirtual 205, 3) := by decide +kernel
theorem dX7_readsK_4 : decode cX7_readsK 4 = .ok (.bipush 110, 2) := by decide +kernel
theorem dX7_readsK_6 : decode cX7_readsK 6 = .ok (.if_icmp .ne 84, 3) := by decide +kernel
theorem dX7_readsK_9 : decode cX7_readsK 9 = .ok (.aload_n 0, 1) := by decide +kernel
theorem dX7_readsK_10 : decode cX7_readsK 10 = .ok (.getfield 36, 3) := by decide +kernel
theorem dX7_readsK_13 : decode cX7_readsK 13 = .ok (.iload_n 1, 1) := by decide +kernel
theorem dX7_readsK_14 : decode cX7_readsK 14 = .ok (.bipush 110, 2) := by decide +kernel
theorem dX7_readsK_16 : decode cX7_readsK 16 = .ok (.iastore, 1) := by decide +kernel
theorem dX7_readsK_17 : decode cX7_readsK 17 = .ok (.aload_n 0, 1) := by decide +kernel
theorem dX7_readsK_18 : decode cX7_readsK 18 = .ok (.bipush 110, 2) := by decide +kernel
theorem dX7_readsK_20 : decode cX7_readsK 20 = .ok (.bipush 111, 2) := by decide +kernel
theorem dX7_readsK_22 : decode cX7_readsK 22 = .ok (.bipush 99, 2) := by decide +kernel
theorem dX7_readsK_24 : decode cX7_readsK 24 = .ok (.invokevirtual 214, 3) := by decide +kernel
theorem dX7_readsK_27 : decode cX7_readsK 27 = .ok (.aload_n 0, 1) := by decide +kernel
theorem dX7_readsK_28 : decode cX7_readsK 28 = .ok (.bipush 107, 2) := by decide +kernel
theorem dX7_readsK_30 : decode cX7_readsK 30 = .ok (.invokevirtual 208, 3) := by decide +kernel
theorem dX7_readsK_33 : decode cX7_readsK 33 = .ok (.aload_n 0, 1) := by decide +kernel
theorem dX7_readsK_34 : decode cX7_readsK 34 = .ok (.getfield 36, 3) := by decide +kernel
theorem dX7_readsK_37 : decode cX7_readsK 37 = .ok (.iload_n 1, 1) := by decide +kernel
theorem dX7_readsK_38 : decode cX7_readsK 38 = .ok (.iconst 1, 1) := by decide +kernel
theorem dX7_readsK_39 : decode cX7_readsK 39 = .ok (.iadd, 1) := by decide +kernel
theorem dX7_readsK_40 : decode cX7_readsK 40 = .ok (.aload_n 0, 1) := by decide +kernel
theorem dX7_readsK_41 : decode cX7_readsK 41 = .ok (.invokevirtual 221, 3) := by decide +kernel
theorem dX7_readsK_44 : decode cX7_readsK 44 = .ok (.iastore, 1) := by decide +kernel
theorem dX7_readsK_45 : decode cX7_readsK 45 = .ok (.aload_n 0, 1) := by decide +kernel
theorem dX7_readsK_46 : decode cX7_readsK 46 = .ok (.bipush 58, 2) := by decide +kernel
theorem dX7_readsK_48 : decode cX7_readsK 48 = .ok (.invokevirtual 208, 3) := by decide +kernel
theorem dX7_readsK_51 : decode cX7_readsK 51 = .ok (.aload_n 0, 1) := by decide +kernel
theorem dX7_readsK_52 : decode cX7_readsK 52 = .ok (.getfield 36, 3) := by decide +kernel
theorem dX7_readsK_55 : decode cX7_readsK 55 = .ok (.iload_n 1, 1) := by decide +kernel
theorem dX7_readsK_56 : decode cX7_readsK 56 = .ok (.iconst 2, 1) := by decide +kernel
theorem dX7_readsK_57 : decode cX7_readsK 57 = .ok (.iadd, 1) := by decide +kernel
theorem dX7_readsK_58 : decode cX7_readsK 58 = .ok (.aload_n 0, 1) := by decide +kernel
theorem dX7_readsK_59 : decode cX7_readsK 59 = .ok (.invokevirtual 224, 3) := by decide +kernel
theorem dX7_readsK_62 : decode cX7_readsK 62 = .ok (.iastore, 1) := by decide +kernel
theorem dX7_readsK_63 : decode cX7_readsK 63 = .ok (.aload_n 0, 1) := by decide +kernel
theorem dX7_readsK_64 : decode cX7_readsK 64 = .ok (.getfield 36, 3) := by decide +kernel
theorem dX7_readsK_67 : decode cX7_readsK 67 = .ok (.iload_n 1, 1) := by decide +kernel
theorem dX7_readsK_68 : decode cX7_readsK 68 = .ok (.iconst 3, 1) := by decide +kernel
theorem dX7_readsK_69 : decode cX7_readsK 69 = .ok (.iadd, 1) := by decide +kernel
theorem dX7_readsK_70 : decode cX7_readsK 70 = .ok (.aload_n 0, 1) := by decide +kernel
theorem dX7_readsK_71 : decode cX7_readsK 71 = .ok (.invokevirtual 227, 3) := by decide +kernel
theorem dX7_readsK_74 : decode cX7_readsK 74 = .ok (.iastore, 1) := by decide +kernel
theorem dX7_readsK_75 : decode cX7_readsK 75 = .ok (.aload_n 0, 1) := by decide +kernel
theorem dX7_readsK_76 : decode cX7_readsK 76 = .ok (.getfield 36, 3) := by decide +kernel
theorem dX7_readsK_79 : decode cX7_readsK 79 = .ok (.iload_n 1, 1) := by decide +kernel
theorem dX7_readsK_80 : decode cX7_readsK 80 = .ok (.iconst 4, 1) := by decide +kernel
theorem dX7_readsK_81 : decode cX7_readsK 81 = .ok (.iadd, 1) := by decide +kernel
theorem dX7_readsK_82 : decode cX7_readsK 82 = .ok (.aload_n 0, 1) := by decide +kernel
theorem dX7_readsK_83 : decode cX7_readsK 83 = .ok (.invokevirtual 218, 3) := by decide +kernel
theorem dX7_readsK_86 : decode cX7_readsK 86 = .ok (.iastore, 1) := by decide +kernel
theorem dX7_readsK_87 : decode cX7_readsK 87 = .ok (.goto 47, 3) := by decide +kernel
theorem dX7_readsK_90 : decode cX7_readsK 90 = .ok (.aload_n 0, 1) := by decide +kernel
theorem dX7_readsK_91 : decode cX7_readsK 91 = .ok (.getfield 36, 3) := by decide +kernel
theorem dX7_readsK_94 : decode cX7_readsK 94 = .ok (.iload_n 1, 1) := by decide +kernel
theorem dX7_readsK_95 : decode cX7_readsK 95 = .ok (.bipush 107, 2) := by decide +kernel
theorem dX7_readsK_97 : decode cX7_readsK 97 = .ok (.iastore, 1) := by decide +kernel
theorem dX7_readsK_98 : decode cX7_readsK 98 = .ok (.aload_n 0, 1) := by decide +kernel
theorem dX7_readsK_99 : decode cX7_readsK 99 = .ok (.bipush 101, 2) := by decide +kernel
theorem dX7_readsK_101 : decode cX7_readsK 101 = .ok (.invokevirtual 208, 3) := by decide +kernel
theorem dX7_readsK_104 : decode cX7_readsK 104 = .ok (.aload_n 0, 1) := by decide +kernel
theorem dX7_readsK_105 : decode cX7_readsK 105 = .ok (.bipush 121, 2) := by decide +kernel
theorem dX7_readsK_107 : decode cX7_readsK 107 = .ok (.invokevirtual 208, 3) := by decide +kernel
theorem dX7_readsK_110 : decode cX7_readsK 110 = .ok (.aload_n 0, 1) := by decide +kernel
theorem dX7_readsK_111 : decode cX7_readsK 111 = .ok (.getfield 36, 3) := by decide +kernel
theorem dX7_readsK_114 : decode cX7_readsK 114 = .ok (.iload_n 1, 1) := by decide +kernel
theorem dX7_readsK_115 : decode cX7_readsK 115 = .ok (.iconst 1, 1) := by decide +kernel
theorem dX7_readsK_116 : decode cX7_readsK 116 = .ok (.iadd, 1) := by decide +kernel
theorem dX7_readsK_117 : decode cX7_readsK 117 = .ok (.aload_n 0, 1) := by decide +kernel
theorem dX7_readsK_118 : decode cX7_readsK 118 = .ok (.invokevirtual 221, 3) := by decide +kernel
theorem dX7_readsK_121 : decode cX7_readsK 121 = .ok (.iastore, 1) := by decide +kernel
theorem dX7_readsK_122 : decode cX7_readsK 122 = .ok (.aload_n 0, 1) := by decide +kernel
theorem dX7_readsK_123 : decode cX7_readsK 123 = .ok (.getfield 36, 3) := by decide +kernel
theorem dX7_readsK_126 : decode cX7_readsK 126 = .ok (.iload_n 1, 1) := by decide +kernel
theorem dX7_readsK_127 : decode cX7_readsK 127 = .ok (.iconst 2, 1) := by decide +kernel
theorem dX7_readsK_128 : decode cX7_readsK 128 = .ok (.iadd, 1) := by decide +kernel
theorem dX7_readsK_129 : decode cX7_readsK 129 = .ok (.aload_n 0, 1) := by decide +kernel
theorem dX7_readsK_130 : decode cX7_readsK 130 = .ok (.invokevirtual 224, 3) := by decide +kernel
theorem dX7_readsK_133 : decode cX7_readsK 133 = .ok (.iastore, 1) := by decide +kernel
theorem dX7_readsK_134 : decode cX7_readsK 134 = .ok (.return_, 1) := by decide +kernel
set_option maxRecDepth 20000 in
theorem ggX7_readsDoor_X7_needsThree : GoodIn wsX7_readsDoor wsX7_needsThree := goodIn_ca (goodIn_r _ [6, 7, 8, 9, 5, 10, 11, 12, 13, 14, 15, 16, 17, 18, 38, 39, 40, 41, 42, 43, 44, 45, 46, 47, 48, 49, 50, 51, 52, 53, 54, 55] (by decide +kernel) (by decide +kernel)) (goodIn_sub (fun _ h => List.mem_cons_of_mem _ (List.mem_append_right _ h)) (by decide +kernel))
set_option maxRecDepth 20000 in
theorem gX7_readsDoor_X7_needsThree : GoodIn wsX7_readsDoor (wsV RX7 214 RX7 yX7_needsThree wsX7_needsThree) := goodIn_app (goodIn_of _ (by decide +kernel)) ggX7_readsDoor_X7_needsThree
set_option maxRecDepth 20000 in
theorem ggX7_readsDoor_X7_figure : GoodIn wsX7_readsDoor wsX7_figure := goodIn_ca (goodIn_r _ [22, 13, 14, 15, 5, 16, 12, 17, 18, 23, 24, 25, 26, 27, 28, 29, 11, 38, 39, 40, 41, 42, 43, 44, 45, 46, 47, 48, 49, 50, 51, 52, 53, 54, 55] (by decide +kernel) (by decide +kernel)) (goodIn_sub (fun _ h => List.mem_cons_of_mem _ (List.mem_append_right _ h)) (by decide +kernel))
set_option maxRecDepth 20000 in
theorem gX7_readsDoor_X7_figure : GoodIn wsX7_readsDoor (wsV RX7 221 RX7 yX7_figure wsX7_figure) := goodIn_app (goodIn_of _ (by decide +kernel)) ggX7_readsDoor_X7_figure
set_option maxRecDepth 20000 in
theorem ggX7_readsDoor_X7_gender : GoodIn wsX7_readsDoor wsX7_gender := goodIn_ca (goodIn_r _ [33, 13, 14, 15, 5, 16, 12, 17, 18, 26, 27, 28, 29, 11, 38, 39, 40, 41, 42, 43, 44, 45, 46, 47, 48, 49, 50, 51, 52, 53, 54, 55] (by decide +kernel) (by decide +kernel)) (goodIn_sub (fun _ h => List.mem_cons_of_mem _ (List.mem_append_right _ h)) (by decide +kernel))
set_option maxRecDepth 20000 in
theorem gX7_readsDoor_X7_gender : GoodIn wsX7_readsDoor (wsV RX7 224 RX7 yX7_gender wsX7_gender) := goodIn_app (goodIn_of _ (by decide +kernel)) ggX7_readsDoor_X7_gender
set_option maxRecDepth 20000 in
theorem ggX7_readsDoor_X7_number : GoodIn wsX7_readsDoor wsX7_number := goodIn_ca (goodIn_r _ [37, 13, 14, 15, 5, 16, 12, 17, 18, 26, 27, 28, 29, 11, 38, 39, 40, 41, 42, 43, 44, 45, 46, 47, 48, 49, 50, 51, 52, 53, 54, 55] (by decide +kernel) (by decide +kernel)) (goodIn_sub (fun _ h => List.mem_cons_of_mem _ (List.mem_append_right _ h)) (by decide +kernel))
set_option maxRecDepth 20000 in
theorem gX7_readsDoor_X7_number : GoodIn wsX7_readsDoor (wsV RX7 227 RX7 yX7_number wsX7_number) := goodIn_app (goodIn_of _ (by decide +kernel)) ggX7_readsDoor_X7_number
theorem dX7_readsDoor_0 : decode cX7_readsDoor 0 = .ok (.aload_n 0, 1) := by decide +kernel
theorem dX7_readsDoor_1 : decode cX7_readsDoor 1 = .ok (.bipush 111, 2) := by decide +kernel
theorem dX7_readsDoor_3 : decode cX7_readsDoor 3 = .ok (.bipush 111, 2) := by decide +kernel
theorem dX7_readsDoor_5 : decode cX7_readsDoor 5 = .ok (.bipush 114, 2) := by decide +kernel
theorem dX7_readsDoor_7 : decode cX7_readsDoor 7 = .ok (.invokevirtual 214, 3) := by decide +kernel
theorem dX7_readsDoor_10 : decode cX7_readsDoor 10 = .ok (.aload_n 0, 1) := by decide +kernel
theorem dX7_readsDoor_11 : decode cX7_readsDoor 11 = .ok (.getfield 36, 3) := by decide +kernel
theorem dX7_readsDoor_14 : decode cX7_readsDoor 14 = .ok (.iload_n 1, 1) := by decide +kernel
theorem dX7_readsDoor_15 : decode cX7_readsDoor 15 = .ok (.iconst 1, 1) := by decide +kernel
theorem dX7_readsDoor_16 : decode cX7_readsDoor 16 = .ok (.iadd, 1) := by decide +kernel
theorem dX7_readsDoor_17 : decode cX7_readsDoor 17 = .ok (.aload_n 0, 1) := by decide +kernel
theorem dX7_readsDoor_18 : decode cX7_readsDoor 18 = .ok (.invokevirtual 221, 3) := by decide +kernel
theorem dX7_readsDoor_21 : decode cX7_readsDoor 21 = .ok (.iastore, 1) := by decide +kernel
theorem dX7_readsDoor_22 : decode cX7_readsDoor 22 = .ok (.aload_n 0, 1) := by decide +kernel
theorem dX7_readsDoor_23 : decode cX7_readsDoor 23 = .ok (.getfield 36, 3) := by decide +kernel
theorem dX7_readsDoor_26 : decode cX7_readsDoor 26 = .ok (.iload_n 1, 1) := by decide +kernel
theorem dX7_readsDoor_27 : decode cX7_readsDoor 27 = .ok (.iconst 2, 1) := by decide +kernel
theorem dX7_readsDoor_28 : decode cX7_readsDoor 28 = .ok (.iadd, 1) := by decide +kernel
theorem dX7_readsDoor_29 : decode cX7_readsDoor 29 = .ok (.aload_n 0, 1) := by decide +kernel
theorem dX7_readsDoor_30 : decode cX7_readsDoor 30 = .ok (.invokevirtual 224, 3) := by decide +kernel
theorem dX7_readsDoor_33 : decode cX7_readsDoor 33 = .ok (.iastore, 1) := by decide +kernel
theorem dX7_readsDoor_34 : decode cX7_readsDoor 34 = .ok (.aload_n 0, 1) := by decide +kernel
theorem dX7_readsDoor_35 : decode cX7_readsDoor 35 = .ok (.getfield 36, 3) := by decide +kernel
theorem dX7_readsDoor_38 : decode cX7_readsDoor 38 = .ok (.iload_n 1, 1) := by decide +kernel
theorem dX7_readsDoor_39 : decode cX7_readsDoor 39 = .ok (.iconst 3, 1) := by decide +kernel
theorem dX7_readsDoor_40 : decode cX7_readsDoor 40 = .ok (.iadd, 1) := by decide +kernel
theorem dX7_readsDoor_41 : decode cX7_readsDoor 41 = .ok (.aload_n 0, 1) := by decide +kernel
theorem dX7_readsDoor_42 : decode cX7_readsDoor 42 = .ok (.invokevirtual 227, 3) := by decide +kernel
theorem dX7_readsDoor_45 : decode cX7_readsDoor 45 = .ok (.iastore, 1) := by decide +kernel
theorem dX7_readsDoor_46 : decode cX7_readsDoor 46 = .ok (.aload_n 0, 1) := by decide +kernel
theorem dX7_readsDoor_47 : decode cX7_readsDoor 47 = .ok (.getfield 36, 3) := by decide +kernel
theorem dX7_readsDoor_50 : decode cX7_readsDoor 50 = .ok (.iload_n 1, 1) := by decide +kernel
theorem dX7_readsDoor_51 : decode cX7_readsDoor 51 = .ok (.iconst 4, 1) := by decide +kernel
theorem dX7_readsDoor_52 : decode cX7_readsDoor 52 = .ok (.iadd, 1) := by decide +kernel
theorem dX7_readsDoor_53 : decode cX7_readsDoor 53 = .ok (.aload_n 0, 1) := by decide +kernel
theorem dX7_readsDoor_54 : decode cX7_readsDoor 54 = .ok (.invokevirtual 221, 3) := by decide +kernel
theorem dX7_readsDoor_57 : decode cX7_readsDoor 57 = .ok (.iastore, 1) := by decide +kernel
theorem dX7_readsDoor_58 : decode cX7_readsDoor 58 = .ok (.aload_n 0, 1) := by decide +kernel
theorem dX7_readsDoor_59 : decode cX7_readsDoor 59 = .ok (.getfield 36, 3) := by decide +kernel
theorem dX7_readsDoor_62 : decode cX7_readsDoor 62 = .ok (.iload_n 1, 1) := by decide +kernel
theorem dX7_readsDoor_63 : decode cX7_readsDoor 63 = .ok (.iconst 5, 1) := by decide +kernel
theorem dX7_readsDoor_64 : decode cX7_readsDoor 64 = .ok (.iadd, 1) := by decide +kernel
theorem dX7_readsDoor_65 : decode cX7_readsDoor 65 = .ok (.aload_n 0, 1) := by decide +kernel
theorem dX7_readsDoor_66 : decode cX7_readsDoor 66 = .ok (.invokevirtual 221, 3) := by decide +kernel
theorem dX7_readsDoor_69 : decode cX7_readsDoor 69 = .ok (.iastore, 1) := by decide +kernel
theorem dX7_readsDoor_70 : decode cX7_readsDoor 70 = .ok (.return_, 1) := by decide +kernel
set_option maxRecDepth 20000 in
theorem ggX7_readsEnd_X7_needs : GoodIn wsX7_readsEnd wsX7_needs := goodIn_ca (goodIn_r _ [6, 7, 8, 9, 10, 11, 5, 12, 13, 14, 38, 39, 40, 41, 42, 43, 44, 45, 46, 47, 48, 49, 50, 51, 52, 53, 54, 55] (by decide +kernel) (by decide +kernel)) (goodIn_sub (fun _ h => List.mem_cons_of_mem _ (List.mem_append_right _ h)) (by decide +kernel))
set_option maxRecDepth 20000 in
theorem gX7_readsEnd_X7_needs : GoodIn wsX7_readsEnd (wsV RX7 208 RX7 yX7_needs wsX7_needs) := goodIn_app (goodIn_of _ (by decide +kernel)) ggX7_readsEnd_X7_needs
set_option maxRecDepth 20000 in
theorem ggX7_readsEnd_X7_figure : GoodIn wsX7_readsEnd wsX7_figure := goodIn_ca (goodIn_r _ [18, 9, 10, 11, 5, 12, 8, 13, 14, 19, 20, 21, 22, 23, 24, 25, 7, 38, 39, 40, 41, 42, 43, 44, 45, 46, 47, 48, 49, 50, 51, 52, 53, 54, 55] (by decide +kernel) (by decide +kernel)) (goodIn_sub (fun _ h => List.mem_cons_of_mem _ (List.mem_append_right _ h)) (by decide +kernel))
set_option maxRecDepth 20000 in
theorem gX7_readsEnd_X7_figure : GoodIn wsX7_readsEnd (wsV RX7 221 RX7 yX7_figure wsX7_figure) := goodIn_app (goodIn_of _ (by decide +kernel)) ggX7_readsEnd_X7_figure
set_option maxRecDepth 20000 in
theorem ggX7_readsEnd_X7_grammarCase : GoodIn wsX7_readsEnd wsX7_grammarCase := goodIn_ca (goodIn_r _ [29, 9, 10, 11, 5, 12, 8, 13, 14, 22, 23, 24, 25, 7, 38, 39, 40, 41, 42, 43, 44, 45, 46, 47, 48, 49, 50, 51, 52, 53, 54, 55] (by decide +kernel) (by decide +kernel)) (goodIn_sub (fun _ h => List.mem_cons_of_mem _ (List.mem_append_right _ h)) (by decide +kernel))
set_option maxRecDepth 20000 in
theorem gX7_readsEnd_X7_grammarCase : GoodIn wsX7_readsEnd (wsV RX7 218 RX7 yX7_grammarCase wsX7_grammarCase) := goodIn_app (goodIn_of _ (by decide +kernel)) ggX7_readsEnd_X7_grammarCase
set_option maxRecDepth 20000 in
theorem ggX7_readsEnd_X7_number : GoodIn wsX7_readsEnd wsX7_number := goodIn_ca (goodIn_r _ [33, 9, 10, 11, 5, 12, 8, 13, 14, 22, 23, 24, 25, 7, 38, 39, 40, 41, 42, 43, 44, 45, 46, 47, 48, 49, 50, 51, 52, 53, 54, 55] (by decide +kernel) (by decide +kernel)) (goodIn_sub (fun _ h => List.mem_cons_of_mem _ (List.mem_append_right _ h)) (by decide +kernel))
set_option maxRecDepth 20000 in
theorem gX7_readsEnd_X7_number : GoodIn wsX7_readsEnd (wsV RX7 227 RX7 yX7_number wsX7_number) := goodIn_app (goodIn_of _ (by decide +kernel)) ggX7_readsEnd_X7_number
set_option maxRecDepth 20000 in
theorem ggX7_readsEnd_X7_letter : GoodIn wsX7_readsEnd wsX7_letter := goodIn_ca (goodIn_r _ [37, 9, 10, 11, 5, 12, 8, 13, 14, 19, 20, 21, 22, 23, 24, 25, 7, 38, 39, 40, 41, 42, 43, 44, 45, 46, 47, 48, 49, 50, 51, 52, 53, 54, 55] (by decide +kernel) (by decide +kernel)) (goodIn_sub (fun _ h => List.mem_cons_of_mem _ (List.mem_append_right _ h)) (by decide +kernel))
set_option maxRecDepth 20000 in
theorem gX7_readsEnd_X7_letter : GoodIn wsX7_readsEnd (wsV RX7 230 RX7 yX7_letter wsX7_letter) := goodIn_app (goodIn_of _ (by decide +kernel)) ggX7_readsEnd_X7_letter
theorem dX7_readsEnd_0 : decode cX7_readsEnd 0 = .ok (.aload_n 0, 1) := by decide +kernel
theorem dX7_readsEnd_1 : decode cX7_readsEnd 1 = .ok (.bipush 110, 2) := by decide +kernel
theorem dX7_readsEnd_3 : decode cX7_readsEnd 3 = .ok (.invokevirtual 208, 3) := by decide +kernel
theorem dX7_readsEnd_6 : decode cX7_readsEnd 6 = .ok (.aload_n 0, 1) := by decide +kernel
theorem dX7_readsEnd_7 : decode cX7_readsEnd 7 = .ok (.bipush 100, 2) := by decide +kernel
theorem dX7_readsEnd_9 : decode cX7_readsEnd 9 = .ok (.invokevirtual 208, 3) := by decide +kernel
theorem dX7_readsEnd_12 : decode cX7_readsEnd 12 = .ok (.aload_n 0, 1) := by decide +kernel
theorem dX7_readsEnd_13 : decode cX7_readsEnd 13 = .ok (.getfield 36, 3) := by decide +kernel
theorem dX7_readsEnd_16 : decode cX7_readsEnd 16 = .ok (.iload_n 1, 1) := by decide +kernel
theorem dX7_readsEnd_17 : decode cX7_readsEnd 17 = .ok (.iconst 1, 1) := by decide +kernel
theorem dX7_readsEnd_18 : decode cX7_readsEnd 18 = .ok (.iadd, 1) := by decide +kernel
theorem dX7_readsEnd_19 : decode cX7_readsEnd 19 = .ok (.aload_n 0, 1) := by decide +kernel
theorem dX7_readsEnd_20 : decode cX7_readsEnd 20 = .ok (.invokevirtual 221, 3) := by decide +kernel
theorem dX7_readsEnd_23 : decode cX7_readsEnd 23 = .ok (.iastore, 1) := by decide +kernel
theorem dX7_readsEnd_24 : decode cX7_readsEnd 24 = .ok (.aload_n 0, 1) := by decide +kernel
theorem dX7_readsEnd_25 : decode cX7_readsEnd 25 = .ok (.getfield 36, 3) := by decide +kernel
theorem dX7_readsEnd_28 : decode cX7_readsEnd 28 = .ok (.iload_n 1, 1) := by decide +kernel
theorem dX7_readsEnd_29 : decode cX7_readsEnd 29 = .ok (.iconst 2, 1) := by decide +kernel
theorem dX7_readsEnd_30 : decode cX7_readsEnd 30 = .ok (.iadd, 1) := by decide +kernel
theorem dX7_readsEnd_31 : decode cX7_readsEnd 31 = .ok (.aload_n 0, 1) := by decide +kernel
theorem dX7_readsEnd_32 : decode cX7_readsEnd 32 = .ok (.invokevirtual 218, 3) := by decide +kernel
theorem dX7_readsEnd_35 : decode cX7_readsEnd 35 = .ok (.iastore, 1) := by decide +kernel
theorem dX7_readsEnd_36 : decode cX7_readsEnd 36 = .ok (.aload_n 0, 1) := by decide +kernel
theorem dX7_readsEnd_37 : decode cX7_readsEnd 37 = .ok (.getfield 36, 3) := by decide +kernel
theorem dX7_readsEnd_40 : decode cX7_readsEnd 40 = .ok (.iload_n 1, 1) := by decide +kernel
theorem dX7_readsEnd_41 : decode cX7_readsEnd 41 = .ok (.iconst 3, 1) := by decide +kernel
theorem dX7_readsEnd_42 : decode cX7_readsEnd 42 = .ok (.iadd, 1) := by decide +kernel
theorem dX7_readsEnd_43 : decode cX7_readsEnd 43 = .ok (.aload_n 0, 1) := by decide +kernel
theorem dX7_readsEnd_44 : decode cX7_readsEnd 44 = .ok (.invokevirtual 227, 3) := by decide +kernel
theorem dX7_readsEnd_47 : decode cX7_readsEnd 47 = .ok (.iastore, 1) := by decide +kernel
theorem dX7_readsEnd_48 : decode cX7_readsEnd 48 = .ok (.aload_n 0, 1) := by decide +kernel
theorem dX7_readsEnd_49 : decode cX7_readsEnd 49 = .ok (.bipush 61, 2) := by decide +kernel
theorem dX7_readsEnd_51 : decode cX7_readsEnd 51 = .ok (.invokevirtual 208, 3) := by decide +kernel
theorem dX7_readsEnd_54 : decode cX7_readsEnd 54 = .ok (.aload_n 0, 1) := by decide +kernel
theorem dX7_readsEnd_55 : decode cX7_readsEnd 55 = .ok (.getfield 36, 3) := by decide +kernel
theorem dX7_readsEnd_58 : decode cX7_readsEnd 58 = .ok (.iload_n 1, 1) := by decide +kernel
theorem dX7_readsEnd_59 : decode cX7_readsEnd 59 = .ok (.iconst 4, 1) := by decide +kernel
theorem dX7_readsEnd_60 : decode cX7_readsEnd 60 = .ok (.iadd, 1) := by decide +kernel
theorem dX7_readsEnd_61 : decode cX7_readsEnd 61 = .ok (.aload_n 0, 1) := by decide +kernel
theorem dX7_readsEnd_62 : decode cX7_readsEnd 62 = .ok (.invokevirtual 230, 3) := by decide +kernel
theorem dX7_readsEnd_65 : decode cX7_readsEnd 65 = .ok (.iastore, 1) := by decide +kernel
theorem dX7_readsEnd_66 : decode cX7_readsEnd 66 = .ok (.return_, 1) := by decide +kernel
set_option maxRecDepth 20000 in
theorem ggX7_readsOrder_X7_here : GoodIn wsX7_readsOrder wsX7_here := goodIn_ca (goodIn_r _ [8, 1, 9, 10, 62, 63, 64, 65, 66, 67, 68, 69, 70, 71, 72, 73, 74, 75, 76, 77, 78, 79] (by decide +kernel) (by decide +kernel)) (goodIn_sub (fun _ h => List.mem_cons_of_mem _ (List.mem_append_right _ h)) (by decide +kernel))
set_option maxRecDepth 20000 in
theorem gX7_readsOrder_X7_here : GoodIn wsX7_readsOrder (wsV RX7 205 RX7 yX7_here wsX7_here) := goodIn_app (goodIn_of _ (by decide +kernel)) ggX7_readsOrder_X7_here
set_option maxRecDepth 20000 in
theorem ggX7_readsOrder_X7_readsDoor : GoodIn wsX7_readsOrder wsX7_readsDoor := goodIn_ca (goodIn_r _ [14, 2, 15, 16, 17, 7, 18, 19, 20, 21, 22, 3, 1, 4, 5, 6, 8, 9, 10, 23, 24, 25, 26, 27, 28, 29, 30, 31, 32, 33, 34, 35, 36, 37, 38, 39, 40, 41, 62, 63, 64, 65, 66, 67, 68, 69, 70, 71, 72, 73, 74, 75, 76, 77, 78, 79] (by decide +kernel) (by decide +kernel)) (goodIn_sub (fun _ h => List.mem_cons_of_mem _ (List.mem_append_right _ h)) (by decide +kernel))
set_option maxRecDepth 20000 in
theorem gX7_readsOrder_X7_readsDoor : GoodIn wsX7_readsOrder (wsV RX7 233 RX7 yX7_readsDoor wsX7_readsDoor) := goodIn_app (goodIn_of _ (by decide +kernel)) ggX7_readsOrder_X7_readsDoor
set_option maxRecDepth 20000 in
theorem ggX7_readsOrder_X7_readsS : GoodIn wsX7_readsOrder wsX7_readsS := goodIn_ca (goodIn_r _ [45, 2, 3, 1, 4, 5, 6, 7, 8, 9, 10, 15, 16, 17, 18, 19, 20, 21, 22, 46, 47, 48, 49, 30, 31, 32, 33, 23, 24, 25, 26, 27, 28, 29, 62, 63, 64, 65, 66, 67, 68, 69, 70, 71, 72, 73, 74, 75, 76, 77, 78, 79] (by decide +kernel) (by decide +kernel)) (goodIn_sub (fun _ h => List.mem_cons_of_mem _ (List.mem_append_right _ h)) (by decide +kernel))
set_option maxRecDepth 20000 in
theorem gX7_readsOrder_X7_readsS : GoodIn wsX7_readsOrder (wsV RX7 236 RX7 yX7_readsS wsX7_readsS) := goodIn_app (goodIn_of _ (by decide +kernel)) ggX7_readsOrder_X7_readsS
set_option maxRecDepth 20000 in
theorem ggX7_readsOrder_X7_needsThree : GoodIn wsX7_readsOrder wsX7_needsThree := goodIn_ca (goodIn_r _ [18, 19, 20, 21, 7, 22, 3, 1, 4, 5, 6, 8, 9, 10, 62, 63, 64, 65, 66, 67, 68, 69, 70, 71, 72, 73, 74, 75, 76, 77, 78, 79] (by decide +kernel) (by decide +kernel)) (goodIn_sub (fun _ h => List.mem_cons_of_mem _ (List.mem_append_right _ h)) (by decide +kernel))
set_option maxRecDepth 20000 in
theorem gX7_readsOrder_X7_needsThree : GoodIn wsX7_readsOrder (wsV RX7 214 RX7 yX7_needsThree wsX7_needsThree) := goodIn_app (goodIn_of _ (by decide +kernel)) ggX7_readsOrder_X7_needsThree
set_option maxRecDepth 20000 in
theorem ggX7_readsOrder_X7_needs : GoodIn wsX7_readsOrder wsX7_needs := goodIn_ca (goodIn_r _ [22, 3, 1, 4, 5, 6, 7, 8, 9, 10, 62, 63, 64, 65, 66, 67, 68, 69, 70, 71, 72, 73, 74, 75, 76, 77, 78, 79] (by decide +kernel) (by decide +kernel)) (goodIn_sub (fun _ h => List.mem_cons_of_mem _ (List.mem_append_right _ h)) (by decide +kernel))
set_option maxRecDepth 20000 in
theorem gX7_readsOrder_X7_needs : GoodIn wsX7_readsOrder (wsV RX7 208 RX7 yX7_needs wsX7_needs) := goodIn_app (goodIn_of _ (by decide +kernel)) ggX7_readsOrder_X7_needs
set_option maxRecDepth 20000 in
theorem ggX7_readsOrder_X7_figure : GoodIn wsX7_readsOrder wsX7_figure := goodIn_ca (goodIn_r _ [26, 4, 5, 6, 7, 8, 1, 9, 10, 27, 28, 29, 30, 31, 32, 33, 3, 62, 63, 64, 65, 66, 67, 68, 69, 70, 71, 72, 73, 74, 75, 76, 77, 78, 79] (by decide +kernel) (by decide +kernel)) (goodIn_sub (fun _ h => List.mem_cons_of_mem _ (List.mem_append_right _ h)) (by decide +kernel))
set_option maxRecDepth 20000 in
theorem gX7_readsOrder_X7_figure : GoodIn wsX7_readsOrder (wsV RX7 221 RX7 yX7_figure wsX7_figure) := goodIn_app (goodIn_of _ (by decide +kernel)) ggX7_readsOrder_X7_figure
set_option maxRecDepth 20000 in
theorem ggX7_readsOrder_X7_grammarCase : GoodIn wsX7_readsOrder wsX7_grammarCase := goodIn_ca (goodIn_r _ [49, 4, 5, 6, 7, 8, 1, 9, 10, 30, 31, 32, 33, 3, 62, 63, 64, 65, 66, 67, 68, 69, 70, 71, 72, 73, 74, 75, 76, 77, 78, 79] (by decide +kernel) (by decide +kernel)) (goodIn_sub (fun _ h => List.mem_cons_of_mem _ (List.mem_append_right _ h)) (by decide +kernel))
set_option maxRecDepth 20000 in
theorem gX7_readsOrder_X7_grammarCase : GoodIn wsX7_readsOrder (wsV RX7 218 RX7 yX7_grammarCase wsX7_grammarCase) := goodIn_app (goodIn_of _ (by decide +kernel)) ggX7_readsOrder_X7_grammarCase
set_option maxRecDepth 20000 in
theorem ggX7_readsOrder_X7_readsEnd : GoodIn wsX7_readsOrder wsX7_readsEnd := goodIn_ca (goodIn_r _ [53, 2, 19, 20, 21, 7, 22, 3, 1, 4, 5, 6, 8, 9, 10, 23, 24, 25, 26, 27, 28, 29, 30, 31, 32, 33, 46, 47, 48, 49, 38, 39, 40, 41, 54, 55, 56, 57, 62, 63, 64, 65, 66, 67, 68, 69, 70, 71, 72, 73, 74, 75, 76, 77, 78, 79] (by decide +kernel) (by decide +kernel)) (goodIn_sub (fun _ h => List.mem_cons_of_mem _ (List.mem_append_right _ h)) (by decide +kernel))
set_option maxRecDepth 20000 in
theorem gX7_readsOrder_X7_readsEnd : GoodIn wsX7_readsOrder (wsV RX7 239 RX7 yX7_readsEnd wsX7_readsEnd) := goodIn_app (goodIn_of _ (by decide +kernel)) ggX7_readsOrder_X7_readsEnd
set_option maxRecDepth 20000 in
theorem ggX7_readsOrder_X7_readsK : GoodIn wsX7_readsOrder wsX7_readsK := goodIn_ca (goodIn_r _ [61, 2, 4, 5, 6, 7, 8, 1, 9, 10, 15, 16, 17, 18, 19, 20, 21, 22, 3, 23, 24, 25, 26, 27, 28, 29, 30, 31, 32, 33, 34, 35, 36, 37, 38, 39, 40, 41, 46, 47, 48, 49, 62, 63, 64, 65, 66, 67, 68, 69, 70, 71, 72, 73, 74, 75, 76, 77, 78, 79] (by decide +kernel) (by decide +kernel)) (goodIn_sub (fun _ h => List.mem_cons_of_mem _ (List.mem_append_right _ h)) (by decide +kernel))
set_option maxRecDepth 20000 in
theorem gX7_readsOrder_X7_readsK : GoodIn wsX7_readsOrder (wsV RX7 242 RX7 yX7_readsK wsX7_readsK) := goodIn_app (goodIn_of _ (by decide +kernel)) ggX7_readsOrder_X7_readsK
theorem dX7_readsOrder_0 : decode cX7_readsOrder 0 = .ok (.aload_n 0, 1) := by decide +kernel
theorem dX7_readsOrder_1 : decode cX7_readsOrder 1 = .ok (.invokevirtual 205, 3) := by decide +kernel
theorem dX7_readsOrder_4 : decode cX7_readsOrder 4 = .ok (.istore_n 2, 1) := by decide +kernel
theorem dX7_readsOrder_5 : decode cX7_readsOrder 5 = .ok (.aload_n 0, 1) := by decide +kernel
theorem dX7_readsOrder_6 : decode cX7_readsOrder 6 = .ok (.dup, 1) := by decide +kernel
theorem dX7_readsOrder_7 : decode cX7_readsOrder 7 = .ok (.getfield 198, 3) := by decide +kernel
theorem dX7_readsOrder_10 : decode cX7_readsOrder 10 = .ok (.iconst 1, 1) := by decide +kernel
theorem dX7_readsOrder_11 : decode cX7_readsOrder 11 = .ok (.iadd, 1) := by decide +kernel
theorem dX7_readsOrder_12 : decode cX7_readsOrder 12 = .ok (.putfield 198, 3) := by decide +kernel
theorem dX7_readsOrder_15 : decode cX7_readsOrder 15 = .ok (.aload_n 0, 1) := by decide +kernel
theorem dX7_readsOrder_16 : decode cX7_readsOrder 16 = .ok (.getfield 36, 3) := by decide +kernel
theorem dX7_readsOrder_19 : decode cX7_readsOrder 19 = .ok (.iload_n 1, 1) := by decide +kernel
theorem dX7_readsOrder_20 : decode cX7_readsOrder 20 = .ok (.iload_n 2, 1) := by decide +kernel
theorem dX7_readsOrder_21 : decode cX7_readsOrder 21 = .ok (.iastore, 1) := by decide +kernel
theorem dX7_readsOrder_22 : decode cX7_readsOrder 22 = .ok (.iload_n 2, 1) := by decide +kernel
theorem dX7_readsOrder_23 : decode cX7_readsOrder 23 = .ok (.tableswitch 201 100 115 #[77, 142, 158, 93, 201, 201, 201, 150, 201, 201, 201, 201, 201, 201, 201, 85], 77) := by decide +kernel
theorem dX7_readsOrder_100 : decode cX7_readsOrder 100 = .ok (.aload_n 0, 1) := by decide +kernel
theorem dX7_readsOrder_101 : decode cX7_readsOrder 101 = .ok (.iload_n 1, 1) := by decide +kernel
theorem dX7_readsOrder_102 : decode cX7_readsOrder 102 = .ok (.invokevirtual 233, 3) := by decide +kernel
theorem dX7_readsOrder_105 : decode cX7_readsOrder 105 = .ok (.goto 134, 3) := by decide +kernel
theorem dX7_readsOrder_108 : decode cX7_readsOrder 108 = .ok (.aload_n 0, 1) := by decide +kernel
theorem dX7_readsOrder_109 : decode cX7_readsOrder 109 = .ok (.iload_n 1, 1) := by decide +kernel
theorem dX7_readsOrder_110 : decode cX7_readsOrder 110 = .ok (.invokevirtual 236, 3) := by decide +kernel
theorem dX7_readsOrder_113 : decode cX7_readsOrder 113 = .ok (.goto 126, 3) := by decide +kernel
theorem dX7_readsOrder_116 : decode cX7_readsOrder 116 = .ok (.aload_n 0, 1) := by decide +kernel
theorem dX7_readsOrder_117 : decode cX7_readsOrder 117 = .ok (.bipush 111, 2) := by decide +kernel
theorem dX7_readsOrder_119 : decode cX7_readsOrder 119 = .ok (.bipush 118, 2) := by decide +kernel
theorem dX7_readsOrder_121 : decode cX7_readsOrder 121 = .ok (.bipush 101, 2) := by decide +kernel
theorem dX7_readsOrder_123 : decode cX7_readsOrder 123 = .ok (.invokevirtual 214, 3) := by decide +kernel
theorem dX7_readsOrder_126 : decode cX7_readsOrder 126 = .ok (.aload_n 0, 1) := by decide +kernel
theorem dX7_readsOrder_127 : decode cX7_readsOrder 127 = .ok (.bipush 114, 2) := by decide +kernel
theorem dX7_readsOrder_129 : decode cX7_readsOrder 129 = .ok (.invokevirtual 208, 3) := by decide +kernel
theorem dX7_readsOrder_132 : decode cX7_readsOrder 132 = .ok (.aload_n 0, 1) := by decide +kernel
theorem dX7_readsOrder_133 : decode cX7_readsOrder 133 = .ok (.bipush 110, 2) := by decide +kernel
theorem dX7_readsOrder_135 : decode cX7_readsOrder 135 = .ok (.invokevirtual 208, 3) := by decide +kernel
theorem dX7_readsOrder_138 : decode cX7_readsOrder 138 = .ok (.aload_n 0, 1) := by decide +kernel
theorem dX7_readsOrder_139 : decode cX7_readsOrder 139 = .ok (.getfield 36, 3) := by decide +kernel
theorem dX7_readsOrder_142 : decode cX7_readsOrder 142 = .ok (.iload_n 1, 1) := by decide +kernel
theorem dX7_readsOrder_143 : decode cX7_readsOrder 143 = .ok (.iconst 1, 1) := by decide +kernel
theorem dX7_readsOrder_144 : decode cX7_readsOrder 144 = .ok (.iadd, 1) := by decide +kernel
theorem dX7_readsOrder_145 : decode cX7_readsOrder 145 = .ok (.aload_n 0, 1) := by decide +kernel
theorem dX7_readsOrder_146 : decode cX7_readsOrder 146 = .ok (.invokevirtual 221, 3) := by decide +kernel
theorem dX7_readsOrder_149 : decode cX7_readsOrder 149 = .ok (.iastore, 1) := by decide +kernel
theorem dX7_readsOrder_150 : decode cX7_readsOrder 150 = .ok (.aload_n 0, 1) := by decide +kernel
theorem dX7_readsOrder_151 : decode cX7_readsOrder 151 = .ok (.getfield 36, 3) := by decide +kernel
theorem dX7_readsOrder_154 : decode cX7_readsOrder 154 = .ok (.iload_n 1, 1) := by decide +kernel
theorem dX7_readsOrder_155 : decode cX7_readsOrder 155 = .ok (.iconst 2, 1) := by decide +kernel
theorem dX7_readsOrder_156 : decode cX7_readsOrder 156 = .ok (.iadd, 1) := by decide +kernel
theorem dX7_readsOrder_157 : decode cX7_readsOrder 157 = .ok (.aload_n 0, 1) := by decide +kernel
theorem dX7_readsOrder_158 : decode cX7_readsOrder 158 = .ok (.invokevirtual 218, 3) := by decide +kernel
theorem dX7_readsOrder_161 : decode cX7_readsOrder 161 = .ok (.iastore, 1) := by decide +kernel
theorem dX7_readsOrder_162 : decode cX7_readsOrder 162 = .ok (.goto 77, 3) := by decide +kernel
theorem dX7_readsOrder_165 : decode cX7_readsOrder 165 = .ok (.aload_n 0, 1) := by decide +kernel
theorem dX7_readsOrder_166 : decode cX7_readsOrder 166 = .ok (.iload_n 1, 1) := by decide +kernel
theorem dX7_readsOrder_167 : decode cX7_readsOrder 167 = .ok (.invokevirtual 239, 3) := by decide +kernel
theorem dX7_readsOrder_170 : decode cX7_readsOrder 170 = .ok (.goto 69, 3) := by decide +kernel
theorem dX7_readsOrder_173 : decode cX7_readsOrder 173 = .ok (.aload_n 0, 1) := by decide +kernel
theorem dX7_readsOrder_174 : decode cX7_readsOrder 174 = .ok (.iload_n 1, 1) := by decide +kernel
theorem dX7_readsOrder_175 : decode cX7_readsOrder 175 = .ok (.invokevirtual 242, 3) := by decide +kernel
theorem dX7_readsOrder_178 : decode cX7_readsOrder 178 = .ok (.goto 61, 3) := by decide +kernel
theorem dX7_readsOrder_181 : decode cX7_readsOrder 181 = .ok (.aload_n 0, 1) := by decide +kernel
theorem dX7_readsOrder_182 : decode cX7_readsOrder 182 = .ok (.bipush 114, 2) := by decide +kernel
theorem dX7_readsOrder_184 : decode cX7_readsOrder 184 = .ok (.bipush 101, 2) := by decide +kernel
theorem dX7_readsOrder_186 : decode cX7_readsOrder 186 = .ok (.bipush 101, 2) := by decide +kernel
theorem dX7_readsOrder_188 : decode cX7_readsOrder 188 = .ok (.invokevirtual 214, 3) := by decide +kernel
theorem dX7_readsOrder_191 : decode cX7_readsOrder 191 = .ok (.aload_n 0, 1) := by decide +kernel
theorem dX7_readsOrder_192 : decode cX7_readsOrder 192 = .ok (.getfield 36, 3) := by decide +kernel
theorem dX7_readsOrder_195 : decode cX7_readsOrder 195 = .ok (.iload_n 1, 1) := by decide +kernel
theorem dX7_readsOrder_196 : decode cX7_readsOrder 196 = .ok (.iconst 1, 1) := by decide +kernel
theorem dX7_readsOrder_197 : decode cX7_readsOrder 197 = .ok (.iadd, 1) := by decide +kernel
theorem dX7_readsOrder_198 : decode cX7_readsOrder 198 = .ok (.aload_n 0, 1) := by decide +kernel
theorem dX7_readsOrder_199 : decode cX7_readsOrder 199 = .ok (.invokevirtual 221, 3) := by decide +kernel
theorem dX7_readsOrder_202 : decode cX7_readsOrder 202 = .ok (.iastore, 1) := by decide +kernel
theorem dX7_readsOrder_203 : decode cX7_readsOrder 203 = .ok (.aload_n 0, 1) := by decide +kernel
theorem dX7_readsOrder_204 : decode cX7_readsOrder 204 = .ok (.bipush 62, 2) := by decide +kernel
theorem dX7_readsOrder_206 : decode cX7_readsOrder 206 = .ok (.invokevirtual 208, 3) := by decide +kernel
theorem dX7_readsOrder_209 : decode cX7_readsOrder 209 = .ok (.aload_n 0, 1) := by decide +kernel
theorem dX7_readsOrder_210 : decode cX7_readsOrder 210 = .ok (.getfield 36, 3) := by decide +kernel
theorem dX7_readsOrder_213 : decode cX7_readsOrder 213 = .ok (.iload_n 1, 1) := by decide +kernel
theorem dX7_readsOrder_214 : decode cX7_readsOrder 214 = .ok (.iconst 2, 1) := by decide +kernel
theorem dX7_readsOrder_215 : decode cX7_readsOrder 215 = .ok (.iadd, 1) := by decide +kernel
theorem dX7_readsOrder_216 : decode cX7_readsOrder 216 = .ok (.aload_n 0, 1) := by decide +kernel
theorem dX7_readsOrder_217 : decode cX7_readsOrder 217 = .ok (.invokevirtual 221, 3) := by decide +kernel
theorem dX7_readsOrder_220 : decode cX7_readsOrder 220 = .ok (.iastore, 1) := by decide +kernel
theorem dX7_readsOrder_221 : decode cX7_readsOrder 221 = .ok (.goto 18, 3) := by decide +kernel
theorem dX7_readsOrder_224 : decode cX7_readsOrder 224 = .ok (.aload_n 0, 1) := by decide +kernel
theorem dX7_readsOrder_225 : decode cX7_readsOrder 225 = .ok (.iconst 1, 1) := by decide +kernel
theorem dX7_readsOrder_226 : decode cX7_readsOrder 226 = .ok (.putfield 201, 3) := by decide +kernel
theorem dX7_readsOrder_229 : decode cX7_readsOrder 229 = .ok (.aload_n 0, 1) := by decide +kernel
theorem dX7_readsOrder_230 : decode cX7_readsOrder 230 = .ok (.dup, 1) := by decide +kernel
theorem dX7_readsOrder_231 : decode cX7_readsOrder 231 = .ok (.getfield 198, 3) := by decide +kernel
theorem dX7_readsOrder_234 : decode cX7_readsOrder 234 = .ok (.iconst 1, 1) := by decide +kernel
theorem dX7_readsOrder_235 : decode cX7_readsOrder 235 = .ok (.isub, 1) := by decide +kernel
theorem dX7_readsOrder_236 : decode cX7_readsOrder 236 = .ok (.putfield 198, 3) := by decide +kernel
theorem dX7_readsOrder_239 : decode cX7_readsOrder 239 = .ok (.return_, 1) := by decide +kernel
set_option maxRecDepth 20000 in
theorem ggX7_does_X7_doorComes : GoodIn wsX7_does wsX7_doorComes := goodIn_ca (goodIn_r _ [6, 7, 8, 9, 5, 10, 11, 12, 13, 14, 15, 16, 17, 18, 19, 20, 21, 22, 23, 24, 25, 26, 27, 28, 29, 30, 31, 106, 107, 108, 109, 110, 111, 112, 113, 114, 115, 116, 117, 118, 119, 120, 121, 122, 123] (by decide +kernel) (by decide +kernel)) (goodIn_sub (fun _ h => List.mem_cons_of_mem _ (List.mem_append_right _ h)) (by decide +kernel))
set_option maxRecDepth 20000 in
theorem gX7_does_X7_doorComes : GoodIn wsX7_does (wsV RX7 92 RX7 yX7_doorComes wsX7_doorComes) := goodIn_app (goodIn_of _ (by decide +kernel)) ggX7_does_X7_doorComes
set_option maxRecDepth 20000 in
theorem ggX7_does_X7_sillComes : GoodIn wsX7_does wsX7_sillComes := goodIn_ca (goodIn_r _ [35, 7, 36, 37, 5, 38, 11, 12, 13, 14, 15, 16, 17, 18, 22, 23, 24, 25, 26, 27, 28, 29, 30, 31, 106, 107, 108, 109, 110, 111, 112, 113, 114, 115, 116, 117, 118, 119, 120, 121, 122, 123] (by decide +kernel) (by decide +kernel)) (goodIn_sub (fun _ h => List.mem_cons_of_mem _ (List.mem_append_right _ h)) (by decide +kernel))
set_option maxRecDepth 20000 in
theorem gX7_does_X7_sillComes : GoodIn wsX7_does (wsV RX7 102 RX7 yX7_sillComes wsX7_sillComes) := goodIn_app (goodIn_of _ (by decide +kernel)) ggX7_does_X7_sillComes
set_option maxRecDepth 20000 in
theorem ggX7_does_X7_governs : GoodIn wsX7_does wsX7_governs := goodIn_ca (goodIn_r _ [42, 7, 43, 44, 45, 5, 46, 11, 12, 13, 14, 15, 16, 17, 18, 36, 37, 38, 22, 23, 24, 25, 26, 27, 28, 29, 30, 31, 106, 107, 108, 109, 110, 111, 112, 113, 114, 115, 116, 117, 118, 119, 120, 121, 122, 123] (by decide +kernel) (by decide +kernel)) (goodIn_sub (fun _ h => List.mem_cons_of_mem _ (List.mem_append_right _ h)) (by decide +kernel))
set_option maxRecDepth 20000 in
theorem gX7_does_X7_governs : GoodIn wsX7_does (wsV RX7 108 RX7 yX7_governs wsX7_governs) := goodIn_app (goodIn_of _ (by decide +kernel)) ggX7_does_X7_governs
set_option maxRecDepth 20000 in
theorem ggX7_does_X7_sets : GoodIn wsX7_does wsX7_sets := goodIn_ca (goodIn_r _ [50, 7, 51, 52, 53, 5, 54, 11, 12, 13, 43, 44, 45, 46, 14, 15, 16, 17, 18, 22, 23, 24, 25, 26, 27, 55, 56, 57, 58, 28, 29, 30, 31, 106, 107, 108, 109, 110, 111, 112, 113, 114, 115, 116, 117, 118, 119, 120, 121, 122, 123] (by decide +kernel) (by decide +kernel)) (goodIn_sub (fun _ h => List.mem_cons_of_mem _ (List.mem_append_right _ h)) (by decide +kernel))
set_option maxRecDepth 20000 in
theorem gX7_does_X7_sets : GoodIn wsX7_does (wsV RX7 115 RX7 yX7_sets wsX7_sets) := goodIn_app (goodIn_of _ (by decide +kernel)) ggX7_does_X7_sets
set_option maxRecDepth 20000 in
theorem ggX7_does_X7_tells : GoodIn wsX7_does wsX7_tells := goodIn_ca (goodIn_r _ [62, 7, 8, 9, 5, 10, 11, 12, 13, 36, 37, 38, 14, 15, 16, 17, 18, 63, 64, 65, 22, 23, 24, 25, 26, 27, 28, 29, 30, 31, 106, 107, 108, 109, 110, 111, 112, 113, 114, 115, 116, 117, 118, 119, 120, 121, 122, 123] (by decide +kernel) (by decide +kernel)) (goodIn_sub (fun _ h => List.mem_cons_of_mem _ (List.mem_append_right _ h)) (by decide +kernel))
set_option maxRecDepth 20000 in
theorem gX7_does_X7_tells : GoodIn wsX7_does (wsV RX7 118 RX7 yX7_tells wsX7_tells) := goodIn_app (goodIn_of _ (by decide +kernel)) ggX7_does_X7_tells
set_option maxRecDepth 20000 in
theorem ggX7_does_X7_keyComes : GoodIn wsX7_does wsX7_keyComes := goodIn_ca (goodIn_r _ [69, 7, 8, 9, 5, 10, 11, 12, 13, 14, 15, 16, 17, 18, 70, 71, 72, 73, 74, 75, 76, 77, 22, 23, 24, 25, 26, 27, 28, 29, 30, 31, 106, 107, 108, 109, 110, 111, 112, 113, 114, 115, 116, 117, 118, 119, 120, 121, 122, 123] (by decide +kernel) (by decide +kernel)) (goodIn_sub (fun _ h => List.mem_cons_of_mem _ (List.mem_append_right _ h)) (by decide +kernel))
set_option maxRecDepth 20000 in
theorem gX7_does_X7_keyComes : GoodIn wsX7_does (wsV RX7 128 RX7 yX7_keyComes wsX7_keyComes) := goodIn_app (goodIn_of _ (by decide +kernel)) ggX7_does_X7_keyComes
set_option maxRecDepth 20000 in
theorem ggX7_does_X7_knocks : GoodIn wsX7_does wsX7_knocks := goodIn_ca (goodIn_r _ [81, 7, 51, 52, 53, 5, 54, 11, 12, 13, 14, 15, 16, 17, 18, 8, 9, 10, 36, 37, 38, 82, 83, 84, 85, 22, 23, 24, 25, 26, 27, 86, 87, 88, 89, 55, 56, 57, 58, 90, 91, 92, 93, 28, 29, 30, 31, 106, 107, 108, 109, 110, 111, 112, 113, 114, 115, 116, 117, 118, 119, 120, 121, 122, 123] (by decide +kernel) (by decide +kernel)) (goodIn_sub (fun _ h => List.mem_cons_of_mem _ (List.mem_append_right _ h)) (by decide +kernel))
set_option maxRecDepth 20000 in
theorem gX7_does_X7_knocks : GoodIn wsX7_does (wsV RX7 154 RX7 yX7_knocks wsX7_knocks) := goodIn_app (goodIn_of _ (by decide +kernel)) ggX7_does_X7_knocks
set_option maxRecDepth 20000 in
theorem ggX7_does_X7_shuts : GoodIn wsX7_does wsX7_shuts := goodIn_ca (goodIn_r _ [97, 7, 51, 52, 53, 5, 54, 11, 12, 13, 14, 15, 16, 17, 18, 82, 83, 84, 85, 22, 23, 24, 25, 26, 27, 28, 29, 30, 31, 106, 107, 108, 109, 110, 111, 112, 113, 114, 115, 116, 117, 118, 119, 120, 121, 122, 123] (by decide +kernel) (by decide +kernel)) (goodIn_sub (fun _ h => List.mem_cons_of_mem _ (List.mem_append_right _ h)) (by decide +kernel))
set_option maxRecDepth 20000 in
theorem gX7_does_X7_shuts : GoodIn wsX7_does (wsV RX7 157 RX7 yX7_shuts wsX7_shuts) := goodIn_app (goodIn_of _ (by decide +kernel)) ggX7_does_X7_shuts
set_option maxRecDepth 20000 in
theorem ggX7_does_X7_frees : GoodIn wsX7_does wsX7_frees := goodIn_ca (goodIn_r _ [101, 7, 102, 103, 104, 5, 105, 11, 12, 13, 51, 52, 53, 54, 14, 15, 16, 17, 18, 22, 23, 24, 25, 26, 27, 74, 75, 76, 77, 82, 83, 84, 85, 28, 29, 30, 31, 106, 107, 108, 109, 110, 111, 112, 113, 114, 115, 116, 117, 118, 119, 120, 121, 122, 123] (by decide +kernel) (by decide +kernel)) (goodIn_sub (fun _ h => List.mem_cons_of_mem _ (List.mem_append_right _ h)) (by decide +kernel))
set_option maxRecDepth 20000 in
theorem gX7_does_X7_frees : GoodIn wsX7_does (wsV RX7 163 RX7 yX7_frees wsX7_frees) := goodIn_app (goodIn_of _ (by decide +kernel)) ggX7_does_X7_frees
theorem dX7_does_0 : decode cX7_does 0 = .ok (.aload_n 0, 1) := by decide +kernel
theorem dX7_does_1 : decode cX7_does 1 = .ok (.getfield 36, 3) := by decide +kernel
theorem dX7_does_4 : decode cX7_does 4 = .ok (.iload_n 1, 1) := by decide +kernel
theorem dX7_does_5 : decode cX7_does 5 = .ok (.iconst 1, 1) := by decide +kernel
theorem dX7_does_6 : decode cX7_does 6 = .ok (.iadd, 1) := by decide +kernel
theorem dX7_does_7 : decode cX7_does 7 = .ok (.iaload, 1) := by decide +kernel
theorem dX7_does_8 : decode cX7_does 8 = .ok (.istore_n 2, 1) := by decide +kernel
theorem dX7_does_9 : decode cX7_does 9 = .ok (.aload_n 0, 1) := by decide +kernel
theorem dX7_does_10 : decode cX7_does 10 = .ok (.getfield 36, 3) := by decide +kernel
theorem dX7_does_13 : decode cX7_does 13 = .ok (.iload_n 1, 1) := by decide +kernel
theorem dX7_does_14 : decode cX7_does 14 = .ok (.iconst 2, 1) := by decide +kernel
theorem dX7_does_15 : decode cX7_does 15 = .ok (.iadd, 1) := by decide +kernel
theorem dX7_does_16 : decode cX7_does 16 = .ok (.iaload, 1) := by decide +kernel
theorem dX7_does_17 : decode cX7_does 17 = .ok (.istore_n 3, 1) := by decide +kernel
theorem dX7_does_18 : decode cX7_does 18 = .ok (.aload_n 0, 1) := by decide +kernel
theorem dX7_does_19 : decode cX7_does 19 = .ok (.getfield 36, 3) := by decide +kernel
theorem dX7_does_22 : decode cX7_does 22 = .ok (.iload_n 1, 1) := by decide +kernel
theorem dX7_does_23 : decode cX7_does 23 = .ok (.iconst 3, 1) := by decide +kernel
theorem dX7_does_24 : decode cX7_does 24 = .ok (.iadd, 1) := by decide +kernel
theorem dX7_does_25 : decode cX7_does 25 = .ok (.iaload, 1) := by decide +kernel
theorem dX7_does_26 : decode cX7_does 26 = .ok (.istore 4, 2) := by decide +kernel
theorem dX7_does_28 : decode cX7_does 28 = .ok (.aload_n 0, 1) := by decide +kernel
theorem dX7_does_29 : decode cX7_does 29 = .ok (.getfield 36, 3) := by decide +kernel
theorem dX7_does_32 : decode cX7_does 32 = .ok (.iload_n 1, 1) := by decide +kernel
theorem dX7_does_33 : decode cX7_does 33 = .ok (.iconst 4, 1) := by decide +kernel
theorem dX7_does_34 : decode cX7_does 34 = .ok (.iadd, 1) := by decide +kernel
theorem dX7_does_35 : decode cX7_does 35 = .ok (.iaload, 1) := by decide +kernel
theorem dX7_does_36 : decode cX7_does 36 = .ok (.istore 5, 2) := by decide +kernel
theorem dX7_does_38 : decode cX7_does 38 = .ok (.aload_n 0, 1) := by decide +kernel
theorem dX7_does_39 : decode cX7_does 39 = .ok (.getfield 36, 3) := by decide +kernel
theorem dX7_does_42 : decode cX7_does 42 = .ok (.iload_n 1, 1) := by decide +kernel
theorem dX7_does_43 : decode cX7_does 43 = .ok (.iaload, 1) := by decide +kernel
theorem dX7_does_44 : decode cX7_does 44 = .ok (.tableswitch 158 100 116 #[84, 123, 158, 109, 152, 158, 158, 134, 158, 158, 141, 158, 158, 158, 158, 116, 103], 84) := by decide +kernel
theorem dX7_does_128 : decode cX7_does 128 = .ok (.aload_n 0, 1) := by decide +kernel
theorem dX7_does_129 : decode cX7_does 129 = .ok (.iload_n 2, 1) := by decide +kernel
theorem dX7_does_130 : decode cX7_does 130 = .ok (.iload_n 3, 1) := by decide +kernel
theorem dX7_does_131 : decode cX7_does 131 = .ok (.iload 4, 2) := by decide +kernel
theorem dX7_does_133 : decode cX7_does 133 = .ok (.iload 5, 2) := by decide +kernel
theorem dX7_does_135 : decode cX7_does 135 = .ok (.aload_n 0, 1) := by decide +kernel
theorem dX7_does_136 : decode cX7_does 136 = .ok (.getfield 36, 3) := by decide +kernel
theorem dX7_does_139 : decode cX7_does 139 = .ok (.iload_n 1, 1) := by decide +kernel
theorem dX7_does_140 : decode cX7_does 140 = .ok (.iconst 5, 1) := by decide +kernel
theorem dX7_does_141 : decode cX7_does 141 = .ok (.iadd, 1) := by decide +kernel
theorem dX7_does_142 : decode cX7_does 142 = .ok (.iaload, 1) := by decide +kernel
theorem dX7_does_143 : decode cX7_does 143 = .ok (.invokevirtual 92, 3) := by decide +kernel
theorem dX7_does_146 : decode cX7_does 146 = .ok (.ireturn, 1) := by decide +kernel
theorem dX7_does_147 : decode cX7_does 147 = .ok (.aload_n 0, 1) := by decide +kernel
theorem dX7_does_148 : decode cX7_does 148 = .ok (.iload_n 2, 1) := by decide +kernel
theorem dX7_does_149 : decode cX7_does 149 = .ok (.invokevirtual 102, 3) := by decide +kernel
theorem dX7_does_152 : decode cX7_does 152 = .ok (.ireturn, 1) := by decide +kernel
theorem dX7_does_153 : decode cX7_does 153 = .ok (.aload_n 0, 1) := by decide +kernel
theorem dX7_does_154 : decode cX7_does 154 = .ok (.iload_n 2, 1) := by decide +kernel
theorem dX7_does_155 : decode cX7_does 155 = .ok (.iload_n 3, 1) := by decide +kernel
theorem dX7_does_156 : decode cX7_does 156 = .ok (.invokevirtual 108, 3) := by decide +kernel
theorem dX7_does_159 : decode cX7_does 159 = .ok (.ireturn, 1) := by decide +kernel
theorem dX7_does_160 : decode cX7_does 160 = .ok (.aload_n 0, 1) := by decide +kernel
theorem dX7_does_161 : decode cX7_does 161 = .ok (.iload_n 2, 1) := by decide +kernel
theorem dX7_does_162 : decode cX7_does 162 = .ok (.iload_n 3, 1) := by decide +kernel
theorem dX7_does_163 : decode cX7_does 163 = .ok (.invokevirtual 115, 3) := by decide +kernel
theorem dX7_does_166 : decode cX7_does 166 = .ok (.ireturn, 1) := by decide +kernel
theorem dX7_does_167 : decode cX7_does 167 = .ok (.aload_n 0, 1) := by decide +kernel
theorem dX7_does_168 : decode cX7_does 168 = .ok (.iload_n 2, 1) := by decide +kernel
theorem dX7_does_169 : decode cX7_does 169 = .ok (.iload_n 3, 1) := by decide +kernel
theorem dX7_does_170 : decode cX7_does 170 = .ok (.iload 4, 2) := by decide +kernel
theorem dX7_does_172 : decode cX7_does 172 = .ok (.iload 5, 2) := by decide +kernel
theorem dX7_does_174 : decode cX7_does 174 = .ok (.invokevirtual 118, 3) := by decide +kernel
theorem dX7_does_177 : decode cX7_does 177 = .ok (.ireturn, 1) := by decide +kernel
theorem dX7_does_178 : decode cX7_does 178 = .ok (.aload_n 0, 1) := by decide +kernel
theorem dX7_does_179 : decode cX7_does 179 = .ok (.iload_n 2, 1) := by decide +kernel
theorem dX7_does_180 : decode cX7_does 180 = .ok (.iload_n 3, 1) := by decide +kernel
theorem dX7_does_181 : decode cX7_does 181 = .ok (.invokevirtual 128, 3) := by decide +kernel
theorem dX7_does_184 : decode cX7_does 184 = .ok (.ireturn, 1) := by decide +kernel
theorem dX7_does_185 : decode cX7_does 185 = .ok (.aload_n 0, 1) := by decide +kernel
theorem dX7_does_186 : decode cX7_does 186 = .ok (.iload_n 2, 1) := by decide +kernel
theorem dX7_does_187 : decode cX7_does 187 = .ok (.iload_n 3, 1) := by decide +kernel
theorem dX7_does_188 : decode cX7_does 188 = .ok (.iload 4, 2) := by decide +kernel
theorem dX7_does_190 : decode cX7_does 190 = .ok (.iload 5, 2) := by decide +kernel
theorem dX7_does_192 : decode cX7_does 192 = .ok (.invokevirtual 154, 3) := by decide +kernel
theorem dX7_does_195 : decode cX7_does 195 = .ok (.ireturn, 1) := by decide +kernel
theorem dX7_does_196 : decode cX7_does 196 = .ok (.aload_n 0, 1) := by decide +kernel
theorem dX7_does_197 : decode cX7_does 197 = .ok (.iload_n 2, 1) := by decide +kernel
theorem dX7_does_198 : decode cX7_does 198 = .ok (.invokevirtual 157, 3) := by decide +kernel
theorem dX7_does_201 : decode cX7_does 201 = .ok (.ireturn, 1) := by decide +kernel
theorem dX7_does_202 : decode cX7_does 202 = .ok (.aload_n 0, 1) := by decide +kernel
theorem dX7_does_203 : decode cX7_does 203 = .ok (.iload_n 2, 1) := by decide +kernel
theorem dX7_does_204 : decode cX7_does 204 = .ok (.iload_n 3, 1) := by decide +kernel
theorem dX7_does_205 : decode cX7_does 205 = .ok (.invokevirtual 163, 3) := by decide +kernel
theorem dX7_does_208 : decode cX7_does 208 = .ok (.ireturn, 1) := by decide +kernel
set_option maxRecDepth 20000 in
theorem ggX7_read_X7_readsOrder : GoodIn wsX7_read wsX7_readsOrder := goodIn_ca (goodIn_r _ [11, 1, 12, 2, 13, 14, 15, 10, 16, 3, 17, 18, 19, 20, 21, 22, 23, 24, 25, 26, 27, 28, 29, 30, 31, 32, 33, 34, 35, 36, 37, 38, 39, 40, 41, 42, 43, 44, 45, 46, 47, 48, 49, 50, 51, 52, 53, 54, 55, 56, 57, 58, 59, 60, 61, 62, 63, 64, 65, 66, 67, 68, 186, 187, 188, 189, 190, 191, 192, 193, 194, 195, 196, 197, 198, 199, 200, 201, 202, 203] (by decide +kernel) (by decide +kernel)) (goodIn_sub (fun _ h => List.mem_cons_of_mem _ (List.mem_append_right _ h)) (by decide +kernel))
set_option maxRecDepth 20000 in
theorem gX7_read_X7_readsOrder : GoodIn wsX7_read (wsV RX7 245 RX7 yX7_readsOrder wsX7_readsOrder) := goodIn_app (goodIn_of _ (by decide +kernel)) ggX7_read_X7_readsOrder
set_option maxRecDepth 20000 in
theorem ggX7_read_X7_here : GoodIn wsX7_read wsX7_here := goodIn_ca (goodIn_r _ [16, 1, 3, 17, 186, 187, 188, 189, 190, 191, 192, 193, 194, 195, 196, 197, 198, 199, 200, 201, 202, 203] (by decide +kernel) (by decide +kernel)) (goodIn_sub (fun _ h => List.mem_cons_of_mem _ (List.mem_append_right _ h)) (by decide +kernel))
set_option maxRecDepth 20000 in
theorem gX7_read_X7_here : GoodIn wsX7_read (wsV RX7 205 RX7 yX7_here wsX7_here) := goodIn_app (goodIn_of _ (by decide +kernel)) ggX7_read_X7_here
set_option maxRecDepth 20000 in
theorem ggX7_read_X7_fails : GoodIn wsX7_read wsX7_fails := goodIn_r _ [72, 5, 186, 187, 188, 189, 190, 191, 192, 193, 194, 195, 196, 197, 198, 199, 200, 201, 202, 203] (by decide +kernel) (by decide +kernel)
set_option maxRecDepth 20000 in
theorem gX7_read_X7_fails : GoodIn wsX7_read (wsV RX7 51 RX7 yX7_fails wsX7_fails) := goodIn_app (goodIn_of _ (by decide +kernel)) ggX7_read_X7_fails
set_option maxRecDepth 20000 in
theorem ggX7_read_X7_looksBack : GoodIn wsX7_read wsX7_looksBack := goodIn_ca (goodIn_r _ [76, 77, 78, 79, 80, 10, 81, 186, 187, 188, 189, 190, 191, 192, 193, 194, 195, 196, 197, 198, 199, 200, 201, 202, 203] (by decide +kernel) (by decide +kernel)) (goodIn_sub (fun _ h => List.mem_cons_of_mem _ (List.mem_append_right _ h)) (by decide +kernel))
set_option maxRecDepth 20000 in
theorem gX7_read_X7_looksBack : GoodIn wsX7_read (wsV RX7 89 RX7 yX7_looksBack wsX7_looksBack) := goodIn_app (goodIn_of _ (by decide +kernel)) ggX7_read_X7_looksBack
set_option maxRecDepth 20000 in
theorem ggX7_read_X7_does : GoodIn wsX7_read wsX7_does := goodIn_ca (goodIn_r _ [85, 12, 86, 87, 88, 10, 89, 77, 90, 91, 92, 34, 35, 36, 69, 70, 71, 72, 5, 93, 94, 95, 96, 97, 98, 99, 100, 101, 102, 103, 104, 105, 106, 107, 108, 109, 110, 111, 112, 113, 114, 115, 116, 117, 118, 119, 120, 121, 122, 123, 124, 125, 126, 127, 128, 129, 130, 131, 132, 133, 134, 135, 136, 137, 138, 139, 140, 141, 142, 143, 144, 145, 146, 147, 148, 149, 150, 151, 152, 153, 154, 155, 156, 157, 158, 159, 160, 161, 162, 163, 164, 165, 166, 167, 168, 169, 170, 171, 172, 173, 174, 175, 176, 177, 178, 179, 186, 187, 188, 189, 190, 191, 192, 193, 194, 195, 196, 197, 198, 199, 200, 201, 202, 203] (by decide +kernel) (by decide +kernel)) (goodIn_sub (fun _ h => List.mem_cons_of_mem _ (List.mem_append_right _ h)) (by decide +kernel))
set_option maxRecDepth 20000 in
theorem gX7_read_X7_does : GoodIn wsX7_read (wsV RX7 248 RX7 yX7_does wsX7_does) := goodIn_app (goodIn_of _ (by decide +kernel)) ggX7_read_X7_does
set_option maxRecDepth 20000 in
theorem ggX7_read_X7_kept : GoodIn wsX7_read wsX7_kept := goodIn_ca (goodIn_r _ [183, 5, 78, 77, 184, 185, 79, 80, 10, 81, 186, 187, 188, 189, 190, 191, 192, 193, 194, 195, 196, 197, 198, 199, 200, 201, 202, 203] (by decide +kernel) (by decide +kernel)) (goodIn_sub (fun _ h => List.mem_cons_of_mem _ (List.mem_append_right _ h)) (by decide +kernel))
set_option maxRecDepth 20000 in
theorem gX7_read_X7_kept : GoodIn wsX7_read (wsV RX7 96 RX7 yX7_kept wsX7_kept) := goodIn_app (goodIn_of _ (by decide +kernel)) ggX7_read_X7_kept
set_option maxRecDepth 20000 in
theorem ggX7_read_X7_done : GoodIn wsX7_read wsX7_done := goodIn_r _ [105, 5, 186, 187, 188, 189, 190, 191, 192, 193, 194, 195, 196, 197, 198, 199, 200, 201, 202, 203] (by decide +kernel) (by decide +kernel)
set_option maxRecDepth 20000 in
theorem gX7_read_X7_done : GoodIn wsX7_read (wsV RX7 69 RX7 yX7_done wsX7_done) := goodIn_app (goodIn_of _ (by decide +kernel)) ggX7_read_X7_done
theorem dX7_read_0 : decode cX7_read 0 = .ok (.aload_n 0, 1) := by decide +kernel
theorem dX7_read_1 : decode cX7_read 1 = .ok (.iconst 0, 1) := by decide +kernel
theorem dX7_read_2 : decode cX7_read 2 = .ok (.putfield 198, 3) := by decide +kernel
theorem dX7_read_5 : decode cX7_read 5 = .ok (.aload_n 0, 1) := by decide +kernel
theorem dX7_read_6 : decode cX7_read 6 = .ok (.iconst 0, 1) := by decide +kernel
theorem dX7_read_7 : decode cX7_read 7 = .ok (.putfield 201, 3) := by decide +kernel
theorem dX7_read_10 : decode cX7_read 10 = .ok (.iconst 0, 1) := by decide +kernel
theorem dX7_read_11 : decode cX7_read 11 = .ok (.istore_n 1, 1) := by decide +kernel
theorem dX7_read_12 : decode cX7_read 12 = .ok (.iconst 1, 1) := by decide +kernel
theorem dX7_read_13 : decode cX7_read 13 = .ok (.istore_n 2, 1) := by decide +kernel
theorem dX7_read_14 : decode cX7_read 14 = .ok (.iload_n 2, 1) := by decide +kernel
theorem dX7_read_15 : decode cX7_read 15 = .ok (.ifCond .eq 57, 3) := by decide +kernel
theorem dX7_read_18 : decode cX7_read 18 = .ok (.aload_n 0, 1) := by decide +kernel
theorem dX7_read_19 : decode cX7_read 19 = .ok (.bipush 6, 2) := by decide +kernel
theorem dX7_read_21 : decode cX7_read 21 = .ok (.iload_n 1, 1) := by decide +kernel
theorem dX7_read_22 : decode cX7_read 22 = .ok (.imul, 1) := by decide +kernel
theorem dX7_read_23 : decode cX7_read 23 = .ok (.invokevirtual 245, 3) := by decide +kernel
theorem dX7_read_26 : decode cX7_read 26 = .ok (.iinc 1 1, 3) := by decide +kernel
theorem dX7_read_29 : decode cX7_read 29 = .ok (.aload_n 0, 1) := by decide +kernel
theorem dX7_read_30 : decode cX7_read 30 = .ok (.getfield 201, 3) := by decide +kernel
theorem dX7_read_33 : decode cX7_read 33 = .ok (.ifCond .ne 16, 3) := by decide +kernel
theorem dX7_read_36 : decode cX7_read 36 = .ok (.aload_n 0, 1) := by decide +kernel
theorem dX7_read_37 : decode cX7_read 37 = .ok (.invokevirtual 205, 3) := by decide +kernel
theorem dX7_read_40 : decode cX7_read 40 = .ok (.bipush 59, 2) := by decide +kernel
theorem dX7_read_42 : decode cX7_read 42 = .ok (.if_icmp .ne 7, 3) := by decide +kernel
theorem dX7_read_45 : decode cX7_read 45 = .ok (.iconst 1, 1) := by decide +kernel
theorem dX7_read_46 : decode cX7_read 46 = .ok (.goto 4, 3) := by decide +kernel
theorem dX7_read_49 : decode cX7_read 49 = .ok (.iconst 0, 1) := by decide +kernel
theorem dX7_read_50 : decode cX7_read 50 = .ok (.istore_n 2, 1) := by decide +kernel
theorem dX7_read_51 : decode cX7_read 51 = .ok (.aload_n 0, 1) := by decide +kernel
theorem dX7_read_52 : decode cX7_read 52 = .ok (.dup, 1) := by decide +kernel
theorem dX7_read_53 : decode cX7_read 53 = .ok (.getfield 198, 3) := by decide +kernel
theorem dX7_read_56 : decode cX7_read 56 = .ok (.iload_n 2, 1) := by decide +kernel
theorem dX7_read_57 : decode cX7_read 57 = .ok (.ifCond .eq 7, 3) := by decide +kernel
theorem dX7_read_60 : decode cX7_read 60 = .ok (.iconst 1, 1) := by decide +kernel
theorem dX7_read_61 : decode cX7_read 61 = .ok (.goto 4, 3) := by decide +kernel
theorem dX7_read_64 : decode cX7_read 64 = .ok (.iconst 0, 1) := by decide +kernel
theorem dX7_read_65 : decode cX7_read 65 = .ok (.iadd, 1) := by decide +kernel
theorem dX7_read_66 : decode cX7_read 66 = .ok (.putfield 198, 3) := by decide +kernel
theorem dX7_read_69 : decode cX7_read 69 = .ok (.goto (-55), 3) := by decide +kernel
theorem dX7_read_72 : decode cX7_read 72 = .ok (.aload_n 0, 1) := by decide +kernel
theorem dX7_read_73 : decode cX7_read 73 = .ok (.aload_n 0, 1) := by decide +kernel
theorem dX7_read_74 : decode cX7_read 74 = .ok (.getfield 201, 3) := by decide +kernel
theorem dX7_read_77 : decode cX7_read 77 = .ok (.ifCond .ne 14, 3) := by decide +kernel
theorem dX7_read_80 : decode cX7_read 80 = .ok (.aload_n 0, 1) := by decide +kernel
theorem dX7_read_81 : decode cX7_read 81 = .ok (.getfield 198, 3) := by decide +kernel
theorem dX7_read_84 : decode cX7_read 84 = .ok (.aload_n 0, 1) := by decide +kernel
theorem dX7_read_85 : decode cX7_read 85 = .ok (.getfield 192, 3) := by decide +kernel
theorem dX7_read_88 : decode cX7_read 88 = .ok (.if_icmp .ge 7, 3) := by decide +kernel
theorem dX7_read_91 : decode cX7_read 91 = .ok (.iconst 1, 1) := by decide +kernel
theorem dX7_read_92 : decode cX7_read 92 = .ok (.goto 4, 3) := by decide +kernel
theorem dX7_read_95 : decode cX7_read 95 = .ok (.iconst 0, 1) := by decide +kernel
theorem dX7_read_96 : decode cX7_read 96 = .ok (.putfield 201, 3) := by decide +kernel
theorem dX7_read_99 : decode cX7_read 99 = .ok (.aload_n 0, 1) := by decide +kernel
theorem dX7_read_100 : decode cX7_read 100 = .ok (.iconst 0, 1) := by decide +kernel
theorem dX7_read_101 : decode cX7_read 101 = .ok (.putfield 192, 3) := by decide +kernel
theorem dX7_read_104 : decode cX7_read 104 = .ok (.aload_n 0, 1) := by decide +kernel
theorem dX7_read_105 : decode cX7_read 105 = .ok (.getfield 201, 3) := by decide +kernel
theorem dX7_read_108 : decode cX7_read 108 = .ok (.ifCond .eq 17, 3) := by decide +kernel
theorem dX7_read_111 : decode cX7_read 111 = .ok (.aload_n 0, 1) := by decide +kernel
theorem dX7_read_112 : decode cX7_read 112 = .ok (.aload_n 0, 1) := by decide +kernel
theorem dX7_read_113 : decode cX7_read 113 = .ok (.getfield 198, 3) := by decide +kernel
theorem dX7_read_116 : decode cX7_read 116 = .ok (.putfield 25, 3) := by decide +kernel
theorem dX7_read_119 : decode cX7_read 119 = .ok (.aload_n 0, 1) := by decide +kernel
theorem dX7_read_120 : decode cX7_read 120 = .ok (.iconst 1, 1) := by decide +kernel
theorem dX7_read_121 : decode cX7_read 121 = .ok (.invokevirtual 51, 3) := by decide +kernel
theorem dX7_read_124 : decode cX7_read 124 = .ok (.ireturn, 1) := by decide +kernel
theorem dX7_read_125 : decode cX7_read 125 = .ok (.aload_n 0, 1) := by decide +kernel
theorem dX7_read_126 : decode cX7_read 126 = .ok (.invokevirtual 89, 3) := by decide +kernel
theorem dX7_read_129 : decode cX7_read 129 = .ok (.iconst 0, 1) := by decide +kernel
theorem dX7_read_130 : decode cX7_read 130 = .ok (.istore_n 3, 1) := by decide +kernel
theorem dX7_read_131 : decode cX7_read 131 = .ok (.iload_n 3, 1) := by decide +kernel
theorem dX7_read_132 : decode cX7_read 132 = .ok (.iload_n 1, 1) := by decide +kernel
theorem dX7_read_133 : decode cX7_read 133 = .ok (.if_icmp .ge 43, 3) := by decide +kernel
theorem dX7_read_136 : decode cX7_read 136 = .ok (.aload_n 0, 1) := by decide +kernel
theorem dX7_read_137 : decode cX7_read 137 = .ok (.bipush 6, 2) := by decide +kernel
theorem dX7_read_139 : decode cX7_read 139 = .ok (.iload_n 3, 1) := by decide +kernel
theorem dX7_read_140 : decode cX7_read 140 = .ok (.imul, 1) := by decide +kernel
theorem dX7_read_141 : decode cX7_read 141 = .ok (.invokevirtual 248, 3) := by decide +kernel
theorem dX7_read_144 : decode cX7_read 144 = .ok (.istore 4, 2) := by decide +kernel
theorem dX7_read_146 : decode cX7_read 146 = .ok (.aload_n 0, 1) := by decide +kernel
theorem dX7_read_147 : decode cX7_read 147 = .ok (.getfield 42, 3) := by decide +kernel
theorem dX7_read_150 : decode cX7_read 150 = .ok (.ifCond .eq 20, 3) := by decide +kernel
theorem dX7_read_153 : decode cX7_read 153 = .ok (.aload_n 0, 1) := by decide +kernel
theorem dX7_read_154 : decode cX7_read 154 = .ok (.iload_n 3, 1) := by decide +kernel
theorem dX7_read_155 : decode cX7_read 155 = .ok (.putfield 29, 3) := by decide +kernel
theorem dX7_read_158 : decode cX7_read 158 = .ok (.aload_n 0, 1) := by decide +kernel
theorem dX7_read_159 : decode cX7_read 159 = .ok (.iconst 2, 1) := by decide +kernel
theorem dX7_read_160 : decode cX7_read 160 = .ok (.putfield 42, 3) := by decide +kernel
theorem dX7_read_163 : decode cX7_read 163 = .ok (.aload_n 0, 1) := by decide +kernel
theorem dX7_read_164 : decode cX7_read 164 = .ok (.iload 4, 2) := by decide +kernel
theorem dX7_read_166 : decode cX7_read 166 = .ok (.invokevirtual 96, 3) := by decide +kernel
theorem dX7_read_169 : decode cX7_read 169 = .ok (.ireturn, 1) := by decide +kernel
theorem dX7_read_170 : decode cX7_read 170 = .ok (.iinc 3 1, 3) := by decide +kernel
theorem dX7_read_173 : decode cX7_read 173 = .ok (.goto (-42), 3) := by decide +kernel
theorem dX7_read_176 : decode cX7_read 176 = .ok (.aload_n 0, 1) := by decide +kernel
theorem dX7_read_177 : decode cX7_read 177 = .ok (.aload_n 0, 1) := by decide +kernel
theorem dX7_read_178 : decode cX7_read 178 = .ok (.iload_n 1, 1) := by decide +kernel
theorem dX7_read_179 : decode cX7_read 179 = .ok (.invokevirtual 69, 3) := by decide +kernel
theorem dX7_read_182 : decode cX7_read 182 = .ok (.invokevirtual 96, 3) := by decide +kernel
theorem dX7_read_185 : decode cX7_read 185 = .ok (.ireturn, 1) := by decide +kernel
set_option maxRecDepth 20000 in
theorem ggX7_errorPosition_X7_fails : GoodIn wsX7_errorPosition wsX7_fails := goodIn_r _ [6, 7, 12, 13, 14, 15, 16, 17, 18, 19, 20, 21, 22, 23, 24, 25, 26, 27, 28, 29] (by decide +kernel) (by decide +kernel)
set_option maxRecDepth 20000 in
theorem gX7_errorPosition_X7_fails : GoodIn wsX7_errorPosition (wsV RX7 51 RX7 yX7_fails wsX7_fails) := goodIn_app (goodIn_of _ (by decide +kernel)) ggX7_errorPosition_X7_fails
set_option maxRecDepth 20000 in
theorem ggX7_errorPosition_X7_done : GoodIn wsX7_errorPosition wsX7_done := goodIn_r _ [11, 7, 12, 13, 14, 15, 16, 17, 18, 19, 20, 21, 22, 23, 24, 25, 26, 27, 28, 29] (by decide +kernel) (by decide +kernel)
set_option maxRecDepth 20000 in
theorem gX7_errorPosition_X7_done : GoodIn wsX7_errorPosition (wsV RX7 69 RX7 yX7_done wsX7_done) := goodIn_app (goodIn_of _ (by decide +kernel)) ggX7_errorPosition_X7_done
theorem dX7_errorPosition_0 : decode cX7_errorPosition 0 = .ok (.aload_n 0, 1) := by decide +kernel
theorem dX7_errorPosition_1 : decode cX7_errorPosition 1 = .ok (.getfield 25, 3) := by decide +kernel
theorem dX7_errorPosition_4 : decode cX7_errorPosition 4 = .ok (.iconst (-1), 1) := by decide +kernel
theorem dX7_errorPosition_5 : decode cX7_errorPosition 5 = .ok (.if_icmp .ne 11, 3) := by decide +kernel
theorem dX7_errorPosition_8 : decode cX7_errorPosition 8 = .ok (.aload_n 0, 1) := by decide +kernel
theorem dX7_errorPosition_9 : decode cX7_errorPosition 9 = .ok (.iconst 1, 1) := by decide +kernel
theorem dX7_errorPosition_10 : decode cX7_errorPosition 10 = .ok (.invokevirtual 51, 3) := by decide +kernel
theorem dX7_errorPosition_13 : decode cX7_errorPosition 13 = .ok (.goto 11, 3) := by decide +kernel
theorem dX7_errorPosition_16 : decode cX7_errorPosition 16 = .ok (.aload_n 0, 1) := by decide +kernel
theorem dX7_errorPosition_17 : decode cX7_errorPosition 17 = .ok (.aload_n 0, 1) := by decide +kernel
theorem dX7_errorPosition_18 : decode cX7_errorPosition 18 = .ok (.getfield 25, 3) := by decide +kernel
theorem dX7_errorPosition_21 : decode cX7_errorPosition 21 = .ok (.invokevirtual 69, 3) := by decide +kernel
theorem dX7_errorPosition_24 : decode cX7_errorPosition 24 = .ok (.ireturn, 1) := by decide +kernel
set_option maxRecDepth 20000 in
theorem ggX7_refusedItem_X7_fails : GoodIn wsX7_refusedItem wsX7_fails := goodIn_r _ [6, 7, 12, 13, 14, 15, 16, 17, 18, 19, 20, 21, 22, 23, 24, 25, 26, 27, 28, 29] (by decide +kernel) (by decide +kernel)
set_option maxRecDepth 20000 in
theorem gX7_refusedItem_X7_fails : GoodIn wsX7_refusedItem (wsV RX7 51 RX7 yX7_fails wsX7_fails) := goodIn_app (goodIn_of _ (by decide +kernel)) ggX7_refusedItem_X7_fails
set_option maxRecDepth 20000 in
theorem ggX7_refusedItem_X7_done : GoodIn wsX7_refusedItem wsX7_done := goodIn_r _ [11, 7, 12, 13, 14, 15, 16, 17, 18, 19, 20, 21, 22, 23, 24, 25, 26, 27, 28, 29] (by decide +kernel) (by decide +kernel)
set_option maxRecDepth 20000 in
theorem gX7_refusedItem_X7_done : GoodIn wsX7_refusedItem (wsV RX7 69 RX7 yX7_done wsX7_done) := goodIn_app (goodIn_of _ (by decide +kernel)) ggX7_refusedItem_X7_done
theorem dX7_refusedItem_0 : decode cX7_refusedItem 0 = .ok (.aload_n 0, 1) := by decide +kernel
theorem dX7_refusedItem_1 : decode cX7_refusedItem 1 = .ok (.getfield 29, 3) := by decide +kernel
theorem dX7_refusedItem_4 : decode cX7_refusedItem 4 = .ok (.iconst (-1), 1) := by decide +kernel
theorem dX7_refusedItem_5 : decode cX7_refusedItem 5 = .ok (.if_icmp .ne 11, 3) := by decide +kernel
theorem dX7_refusedItem_8 : decode cX7_refusedItem 8 = .ok (.aload_n 0, 1) := by decide +kernel
theorem dX7_refusedItem_9 : decode cX7_refusedItem 9 = .ok (.iconst 1, 1) := by decide +kernel
theorem dX7_refusedItem_10 : decode cX7_refusedItem 10 = .ok (.invokevirtual 51, 3) := by decide +kernel
theorem dX7_refusedItem_13 : decode cX7_refusedItem 13 = .ok (.goto 11, 3) := by decide +kernel
theorem dX7_refusedItem_16 : decode cX7_refusedItem 16 = .ok (.aload_n 0, 1) := by decide +kernel
theorem dX7_refusedItem_17 : decode cX7_refusedItem 17 = .ok (.aload_n 0, 1) := by decide +kernel
theorem dX7_refusedItem_18 : decode cX7_refusedItem 18 = .ok (.getfield 29, 3) := by decide +kernel
theorem dX7_refusedItem_21 : decode cX7_refusedItem 21 = .ok (.invokevirtual 69, 3) := by decide +kernel
theorem dX7_refusedItem_24 : decode cX7_refusedItem 24 = .ok (.ireturn, 1) := by decide +kernel
set_option maxRecDepth 20000 in
theorem ggX7_undo_X7_fails : GoodIn wsX7_undo wsX7_fails := goodIn_r _ [8, 9, 17, 18, 19, 20, 21, 22, 23, 24, 25, 26, 27, 28, 29, 30, 31, 32, 33, 34] (by decide +kernel) (by decide +kernel)
set_option maxRecDepth 20000 in
theorem gX7_undo_X7_fails : GoodIn wsX7_undo (wsV RX7 51 RX7 yX7_fails wsX7_fails) := goodIn_app (goodIn_of _ (by decide +kernel)) ggX7_undo_X7_fails
set_option maxRecDepth 20000 in
theorem ggX7_undo_X7_copy : GoodIn wsX7_undo wsX7_copy := goodIn_ca (goodIn_r _ [12] (by decide +kernel) (by decide +kernel)) (goodIn_sub (fun _ h => List.mem_cons_of_mem _ (List.mem_append_right _ h)) (by decide +kernel))
set_option maxRecDepth 20000 in
theorem gX7_undo_X7_copy : GoodIn wsX7_undo (va_wsS RX7 55 yX7_copy wsX7_copy) := goodIn_app (goodIn_of _ (by decide +kernel)) ggX7_undo_X7_copy
set_option maxRecDepth 20000 in
theorem ggX7_undo_X7_done : GoodIn wsX7_undo wsX7_done := goodIn_r _ [16, 9, 17, 18, 19, 20, 21, 22, 23, 24, 25, 26, 27, 28, 29, 30, 31, 32, 33, 34] (by decide +kernel) (by decide +kernel)
set_option maxRecDepth 20000 in
theorem gX7_undo_X7_done : GoodIn wsX7_undo (wsV RX7 69 RX7 yX7_done wsX7_done) := goodIn_app (goodIn_of _ (by decide +kernel)) ggX7_undo_X7_done
theorem dX7_undo_0 : decode cX7_undo 0 = .ok (.aload_n 0, 1) := by decide +kernel
theorem dX7_undo_1 : decode cX7_undo 1 = .ok (.getfield 59, 3) := by decide +kernel
theorem dX7_undo_4 : decode cX7_undo 4 = .ok (.ifCond .ne 9, 3) := by decide +kernel
theorem dX7_undo_7 : decode cX7_undo 7 = .ok (.aload_n 0, 1) := by decide +kernel
theorem dX7_undo_8 : decode cX7_undo 8 = .ok (.iconst 1, 1) := by decide +kernel
theorem dX7_undo_9 : decode cX7_undo 9 = .ok (.invokevirtual 51, 3) := by decide +kernel
theorem dX7_undo_12 : decode cX7_undo 12 = .ok (.ireturn, 1) := by decide +kernel
theorem dX7_undo_13 : decode cX7_undo 13 = .ok (.aload_n 0, 1) := by decide +kernel
theorem dX7_undo_14 : decode cX7_undo 14 = .ok (.dup, 1) := by decide +kernel
theorem dX7_undo_15 : decode cX7_undo 15 = .ok (.getfield 59, 3) := by decide +kernel
theorem dX7_undo_18 : decode cX7_undo 18 = .ok (.iconst 1, 1) := by decide +kernel
theorem dX7_undo_19 : decode cX7_undo 19 = .ok (.isub, 1) := by decide +kernel
theorem dX7_undo_20 : decode cX7_undo 20 = .ok (.putfield 59, 3) := by decide +kernel
theorem dX7_undo_23 : decode cX7_undo 23 = .ok (.aload_n 0, 1) := by decide +kernel
theorem dX7_undo_24 : decode cX7_undo 24 = .ok (.getfield 16, 3) := by decide +kernel
theorem dX7_undo_27 : decode cX7_undo 27 = .ok (.aload_n 0, 1) := by decide +kernel
theorem dX7_undo_28 : decode cX7_undo 28 = .ok (.getfield 59, 3) := by decide +kernel
theorem dX7_undo_31 : decode cX7_undo 31 = .ok (.sipush 128, 3) := by decide +kernel
theorem dX7_undo_34 : decode cX7_undo 34 = .ok (.imul, 1) := by decide +kernel
theorem dX7_undo_35 : decode cX7_undo 35 = .ok (.aload_n 0, 1) := by decide +kernel
theorem dX7_undo_36 : decode cX7_undo 36 = .ok (.getfield 7, 3) := by decide +kernel
theorem dX7_undo_39 : decode cX7_undo 39 = .ok (.iconst 0, 1) := by decide +kernel
theorem dX7_undo_40 : decode cX7_undo 40 = .ok (.invokestatic 55, 3) := by decide +kernel
theorem dX7_undo_43 : decode cX7_undo 43 = .ok (.aload_n 0, 1) := by decide +kernel
theorem dX7_undo_44 : decode cX7_undo 44 = .ok (.aload_n 0, 1) := by decide +kernel
theorem dX7_undo_45 : decode cX7_undo 45 = .ok (.getfield 59, 3) := by decide +kernel
theorem dX7_undo_48 : decode cX7_undo 48 = .ok (.invokevirtual 69, 3) := by decide +kernel
theorem dX7_undo_51 : decode cX7_undo 51 = .ok (.ireturn, 1) := by decide +kernel
set_option maxRecDepth 20000 in
theorem ggX7_snapshot_X7_copy : GoodIn wsX7_snapshot wsX7_copy := goodIn_ca (goodIn_r _ [7] (by decide +kernel) (by decide +kernel)) (goodIn_sub (fun _ h => List.mem_cons_of_mem _ (List.mem_append_right _ h)) (by decide +kernel))
set_option maxRecDepth 20000 in
theorem gX7_snapshot_X7_copy : GoodIn wsX7_snapshot (va_wsS RX7 55 yX7_copy wsX7_copy) := goodIn_app (goodIn_of _ (by decide +kernel)) ggX7_snapshot_X7_copy
set_option maxRecDepth 20000 in
theorem ggX7_snapshot_X7_done : GoodIn wsX7_snapshot wsX7_done := goodIn_r _ [11, 12, 13, 14, 15, 16, 17, 18, 19, 20, 21, 22, 23, 24, 25, 26, 27, 28, 29, 30] (by decide +kernel) (by decide +kernel)
set_option maxRecDepth 20000 in
theorem gX7_snapshot_X7_done : GoodIn wsX7_snapshot (wsV RX7 69 RX7 yX7_done wsX7_done) := goodIn_app (goodIn_of _ (by decide +kernel)) ggX7_snapshot_X7_done
theorem dX7_snapshot_0 : decode cX7_snapshot 0 = .ok (.aload_n 0, 1) := by decide +kernel
theorem dX7_snapshot_1 : decode cX7_snapshot 1 = .ok (.getfield 7, 3) := by decide +kernel
theorem dX7_snapshot_4 : decode cX7_snapshot 4 = .ok (.iconst 0, 1) := by decide +kernel
theorem dX7_snapshot_5 : decode cX7_snapshot 5 = .ok (.aload_n 0, 1) := by decide +kernel
theorem dX7_snapshot_6 : decode cX7_snapshot 6 = .ok (.getfield 19, 3) := by decide +kernel
theorem dX7_snapshot_9 : decode cX7_snapshot 9 = .ok (.iconst 0, 1) := by decide +kernel
theorem dX7_snapshot_10 : decode cX7_snapshot 10 = .ok (.invokestatic 55, 3) := by decide +kernel
theorem dX7_snapshot_13 : decode cX7_snapshot 13 = .ok (.aload_n 0, 1) := by decide +kernel
theorem dX7_snapshot_14 : decode cX7_snapshot 14 = .ok (.iconst 1, 1) := by decide +kernel
theorem dX7_snapshot_15 : decode cX7_snapshot 15 = .ok (.putfield 251, 3) := by decide +kernel
theorem dX7_snapshot_18 : decode cX7_snapshot 18 = .ok (.aload_n 0, 1) := by decide +kernel
theorem dX7_snapshot_19 : decode cX7_snapshot 19 = .ok (.aload_n 0, 1) := by decide +kernel
theorem dX7_snapshot_20 : decode cX7_snapshot 20 = .ok (.getfield 7, 3) := by decide +kernel
theorem dX7_snapshot_23 : decode cX7_snapshot 23 = .ok (.iconst 0, 1) := by decide +kernel
theorem dX7_snapshot_24 : decode cX7_snapshot 24 = .ok (.iaload, 1) := by decide +kernel
theorem dX7_snapshot_25 : decode cX7_snapshot 25 = .ok (.invokevirtual 69, 3) := by decide +kernel
theorem dX7_snapshot_28 : decode cX7_snapshot 28 = .ok (.ireturn, 1) := by decide +kernel
set_option maxRecDepth 20000 in
theorem ggX7_restore_X7_fails : GoodIn wsX7_restore wsX7_fails := goodIn_r _ [9, 10, 18, 19, 20, 21, 22, 23, 24, 25, 26, 27, 28, 29, 30, 31, 32, 33, 34, 35] (by decide +kernel) (by decide +kernel)
set_option maxRecDepth 20000 in
theorem gX7_restore_X7_fails : GoodIn wsX7_restore (wsV RX7 51 RX7 yX7_fails wsX7_fails) := goodIn_app (goodIn_of _ (by decide +kernel)) ggX7_restore_X7_fails
set_option maxRecDepth 20000 in
theorem ggX7_restore_X7_copy : GoodIn wsX7_restore wsX7_copy := goodIn_ca (goodIn_r _ [13] (by decide +kernel) (by decide +kernel)) (goodIn_sub (fun _ h => List.mem_cons_of_mem _ (List.mem_append_right _ h)) (by decide +kernel))
set_option maxRecDepth 20000 in
theorem gX7_restore_X7_copy : GoodIn wsX7_restore (va_wsS RX7 55 yX7_copy wsX7_copy) := goodIn_app (goodIn_of _ (by decide +kernel)) ggX7_restore_X7_copy
set_option maxRecDepth 20000 in
theorem ggX7_restore_X7_done : GoodIn wsX7_restore wsX7_done := goodIn_r _ [17, 10, 18, 19, 20, 21, 22, 23, 24, 25, 26, 27, 28, 29, 30, 31, 32, 33, 34, 35] (by decide +kernel) (by decide +kernel)
set_option maxRecDepth 20000 in
theorem gX7_restore_X7_done : GoodIn wsX7_restore (wsV RX7 69 RX7 yX7_done wsX7_done) := goodIn_app (goodIn_of _ (by decide +kernel)) ggX7_restore_X7_done
theorem dX7_restore_0 : decode cX7_restore 0 = .ok (.aload_n 0, 1) := by decide +kernel
theorem dX7_restore_1 : decode cX7_restore 1 = .ok (.getfield 251, 3) := by decide +kernel
theorem dX7_restore_4 : decode cX7_restore 4 = .ok (.ifCond .ne 9, 3) := by decide +kernel
theorem dX7_restore_7 : decode cX7_restore 7 = .ok (.aload_n 0, 1) := by decide +kernel
theorem dX7_restore_8 : decode cX7_restore 8 = .ok (.iconst 1, 1) := by decide +kernel
theorem dX7_restore_9 : decode cX7_restore 9 = .ok (.invokevirtual 51, 3) := by decide +kernel
theorem dX7_restore_12 : decode cX7_restore 12 = .ok (.ireturn, 1) := by decide +kernel
theorem dX7_restore_13 : decode cX7_restore 13 = .ok (.aload_n 0, 1) := by decide +kernel
theorem dX7_restore_14 : decode cX7_restore 14 = .ok (.getfield 19, 3) := by decide +kernel
theorem dX7_restore_17 : decode cX7_restore 17 = .ok (.iconst 0, 1) := by decide +kernel
theorem dX7_restore_18 : decode cX7_restore 18 = .ok (.aload_n 0, 1) := by decide +kernel
theorem dX7_restore_19 : decode cX7_restore 19 = .ok (.getfield 7, 3) := by decide +kernel
theorem dX7_restore_22 : decode cX7_restore 22 = .ok (.iconst 0, 1) := by decide +kernel
theorem dX7_restore_23 : decode cX7_restore 23 = .ok (.invokestatic 55, 3) := by decide +kernel
theorem dX7_restore_26 : decode cX7_restore 26 = .ok (.aload_n 0, 1) := by decide +kernel
theorem dX7_restore_27 : decode cX7_restore 27 = .ok (.iconst 0, 1) := by decide +kernel
theorem dX7_restore_28 : decode cX7_restore 28 = .ok (.putfield 59, 3) := by decide +kernel
theorem dX7_restore_31 : decode cX7_restore 31 = .ok (.aload_n 0, 1) := by decide +kernel
theorem dX7_restore_32 : decode cX7_restore 32 = .ok (.aload_n 0, 1) := by decide +kernel
theorem dX7_restore_33 : decode cX7_restore 33 = .ok (.getfield 7, 3) := by decide +kernel
theorem dX7_restore_36 : decode cX7_restore 36 = .ok (.iconst 0, 1) := by decide +kernel
theorem dX7_restore_37 : decode cX7_restore 37 = .ok (.iaload, 1) := by decide +kernel
theorem dX7_restore_38 : decode cX7_restore 38 = .ok (.invokevirtual 69, 3) := by decide +kernel
theorem dX7_restore_41 : decode cX7_restore 41 = .ok (.ireturn, 1) := by decide +kernel
