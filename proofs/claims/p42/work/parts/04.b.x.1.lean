theorem dJ2_getChars_ba4f3_8 : decode cJ2_getChars_ba4f3 8 = .ok (.goto 4, 3) := by decide +kernel
theorem dJ2_getChars_ba4f3_11 : decode cJ2_getChars_ba4f3 11 = .ok (.iconst 0, 1) := by decide +kernel
theorem dJ2_getChars_ba4f3_12 : decode cJ2_getChars_ba4f3 12 = .ok (.istore 6, 2) := by decide +kernel
theorem dJ2_getChars_ba4f3_14 : decode cJ2_getChars_ba4f3 14 = .ok (.iload 6, 2) := by decide +kernel
theorem dJ2_getChars_ba4f3_16 : decode cJ2_getChars_ba4f3 16 = .ok (.ifCond .ne 6, 3) := by decide +kernel
theorem dJ2_getChars_ba4f3_19 : decode cJ2_getChars_ba4f3 19 = .ok (.iload_n 0, 1) := by decide +kernel
theorem dJ2_getChars_ba4f3_20 : decode cJ2_getChars_ba4f3 20 = .ok (.ineg, 1) := by decide +kernel
theorem dJ2_getChars_ba4f3_21 : decode cJ2_getChars_ba4f3 21 = .ok (.istore_n 0, 1) := by decide +kernel
theorem dJ2_getChars_ba4f3_22 : decode cJ2_getChars_ba4f3 22 = .ok (.iload_n 0, 1) := by decide +kernel
theorem dJ2_getChars_ba4f3_23 : decode cJ2_getChars_ba4f3 23 = .ok (.bipush (-100), 2) := by decide +kernel
theorem dJ2_getChars_ba4f3_25 : decode cJ2_getChars_ba4f3 25 = .ok (.if_icmp .gt 51, 3) := by decide +kernel
theorem dJ2_getChars_ba4f3_28 : decode cJ2_getChars_ba4f3 28 = .ok (.iload_n 0, 1) := by decide +kernel
theorem dJ2_getChars_ba4f3_29 : decode cJ2_getChars_ba4f3 29 = .ok (.bipush 100, 2) := by decide +kernel
theorem dJ2_getChars_ba4f3_31 : decode cJ2_getChars_ba4f3 31 = .ok (.idiv, 1) := by decide +kernel
theorem dJ2_getChars_ba4f3_32 : decode cJ2_getChars_ba4f3 32 = .ok (.istore_n 3, 1) := by decide +kernel
theorem dJ2_getChars_ba4f3_33 : decode cJ2_getChars_ba4f3 33 = .ok (.iload_n 3, 1) := by decide +kernel
theorem dJ2_getChars_ba4f3_34 : decode cJ2_getChars_ba4f3 34 = .ok (.bipush 100, 2) := by decide +kernel
theorem dJ2_getChars_ba4f3_36 : decode cJ2_getChars_ba4f3 36 = .ok (.imul, 1) := by decide +kernel
theorem dJ2_getChars_ba4f3_37 : decode cJ2_getChars_ba4f3 37 = .ok (.iload_n 0, 1) := by decide +kernel
theorem dJ2_getChars_ba4f3_38 : decode cJ2_getChars_ba4f3 38 = .ok (.isub, 1) := by decide +kernel
theorem dJ2_getChars_ba4f3_39 : decode cJ2_getChars_ba4f3 39 = .ok (.istore 4, 2) := by decide +kernel
theorem dJ2_getChars_ba4f3_41 : decode cJ2_getChars_ba4f3 41 = .ok (.iload_n 3, 1) := by decide +kernel
theorem dJ2_getChars_ba4f3_42 : decode cJ2_getChars_ba4f3 42 = .ok (.istore_n 0, 1) := by decide +kernel
theorem dJ2_getChars_ba4f3_43 : decode cJ2_getChars_ba4f3 43 = .ok (.aload_n 2, 1) := by decide +kernel
theorem dJ2_getChars_ba4f3_44 : decode cJ2_getChars_ba4f3 44 = .ok (.iinc 5 (-1), 3) := by decide +kernel
theorem dJ2_getChars_ba4f3_47 : decode cJ2_getChars_ba4f3 47 = .ok (.iload 5, 2) := by decide +kernel
theorem dJ2_getChars_ba4f3_49 : decode cJ2_getChars_ba4f3 49 = .ok (.getstatic 403, 3) := by decide +kernel
theorem dJ2_getChars_ba4f3_52 : decode cJ2_getChars_ba4f3 52 = .ok (.iload 4, 2) := by decide +kernel
theorem dJ2_getChars_ba4f3_54 : decode cJ2_getChars_ba4f3 54 = .ok (.baload, 1) := by decide +kernel
theorem dJ2_getChars_ba4f3_55 : decode cJ2_getChars_ba4f3 55 = .ok (.invokestatic 111, 3) := by decide +kernel
theorem dJ2_getChars_ba4f3_58 : decode cJ2_getChars_ba4f3 58 = .ok (.aload_n 2, 1) := by decide +kernel
theorem dJ2_getChars_ba4f3_59 : decode cJ2_getChars_ba4f3 59 = .ok (.iinc 5 (-1), 3) := by decide +kernel
theorem dJ2_getChars_ba4f3_62 : decode cJ2_getChars_ba4f3 62 = .ok (.iload 5, 2) := by decide +kernel
theorem dJ2_getChars_ba4f3_64 : decode cJ2_getChars_ba4f3 64 = .ok (.getstatic 407, 3) := by decide +kernel
theorem dJ2_getChars_ba4f3_67 : decode cJ2_getChars_ba4f3 67 = .ok (.iload 4, 2) := by decide +kernel
theorem dJ2_getChars_ba4f3_69 : decode cJ2_getChars_ba4f3 69 = .ok (.baload, 1) := by decide +kernel
theorem dJ2_getChars_ba4f3_70 : decode cJ2_getChars_ba4f3 70 = .ok (.invokestatic 111, 3) := by decide +kernel
theorem dJ2_getChars_ba4f3_73 : decode cJ2_getChars_ba4f3 73 = .ok (.goto (-51), 3) := by decide +kernel
theorem dJ2_getChars_ba4f3_76 : decode cJ2_getChars_ba4f3 76 = .ok (.aload_n 2, 1) := by decide +kernel
theorem dJ2_getChars_ba4f3_77 : decode cJ2_getChars_ba4f3 77 = .ok (.iinc 5 (-1), 3) := by decide +kernel
theorem dJ2_getChars_ba4f3_80 : decode cJ2_getChars_ba4f3 80 = .ok (.iload 5, 2) := by decide +kernel
theorem dJ2_getChars_ba4f3_82 : decode cJ2_getChars_ba4f3 82 = .ok (.getstatic 403, 3) := by decide +kernel
theorem dJ2_getChars_ba4f3_85 : decode cJ2_getChars_ba4f3 85 = .ok (.iload_n 0, 1) := by decide +kernel
theorem dJ2_getChars_ba4f3_86 : decode cJ2_getChars_ba4f3 86 = .ok (.ineg, 1) := by decide +kernel
theorem dJ2_getChars_ba4f3_87 : decode cJ2_getChars_ba4f3 87 = .ok (.baload, 1) := by decide +kernel
theorem dJ2_getChars_ba4f3_88 : decode cJ2_getChars_ba4f3 88 = .ok (.invokestatic 111, 3) := by decide +kernel
theorem dJ2_getChars_ba4f3_91 : decode cJ2_getChars_ba4f3 91 = .ok (.iload_n 0, 1) := by decide +kernel
theorem dJ2_getChars_ba4f3_92 : decode cJ2_getChars_ba4f3 92 = .ok (.bipush (-9), 2) := by decide +kernel
theorem dJ2_getChars_ba4f3_94 : decode cJ2_getChars_ba4f3 94 = .ok (.if_icmp .ge 18, 3) := by decide +kernel
theorem dJ2_getChars_ba4f3_97 : decode cJ2_getChars_ba4f3 97 = .ok (.aload_n 2, 1) := by decide +kernel
theorem dJ2_getChars_ba4f3_98 : decode cJ2_getChars_ba4f3 98 = .ok (.iinc 5 (-1), 3) := by decide +kernel
theorem dJ2_getChars_ba4f3_101 : decode cJ2_getChars_ba4f3 101 = .ok (.iload 5, 2) := by decide +kernel
theorem dJ2_getChars_ba4f3_103 : decode cJ2_getChars_ba4f3 103 = .ok (.getstatic 407, 3) := by decide +kernel
theorem dJ2_getChars_ba4f3_106 : decode cJ2_getChars_ba4f3 106 = .ok (.iload_n 0, 1) := by decide +kernel
theorem dJ2_getChars_ba4f3_107 : decode cJ2_getChars_ba4f3 107 = .ok (.ineg, 1) := by decide +kernel
theorem dJ2_getChars_ba4f3_108 : decode cJ2_getChars_ba4f3 108 = .ok (.baload, 1) := by decide +kernel
theorem dJ2_getChars_ba4f3_109 : decode cJ2_getChars_ba4f3 109 = .ok (.invokestatic 111, 3) := by decide +kernel
theorem dJ2_getChars_ba4f3_112 : decode cJ2_getChars_ba4f3 112 = .ok (.iload 6, 2) := by decide +kernel
theorem dJ2_getChars_ba4f3_114 : decode cJ2_getChars_ba4f3 114 = .ok (.ifCond .eq 14, 3) := by decide +kernel
theorem dJ2_getChars_ba4f3_117 : decode cJ2_getChars_ba4f3 117 = .ok (.aload_n 2, 1) := by decide +kernel
theorem dJ2_getChars_ba4f3_118 : decode cJ2_getChars_ba4f3 118 = .ok (.iinc 5 (-1), 3) := by decide +kernel
theorem dJ2_getChars_ba4f3_121 : decode cJ2_getChars_ba4f3 121 = .ok (.iload 5, 2) := by decide +kernel
theorem dJ2_getChars_ba4f3_123 : decode cJ2_getChars_ba4f3 123 = .ok (.bipush 45, 2) := by decide +kernel
theorem dJ2_getChars_ba4f3_125 : decode cJ2_getChars_ba4f3 125 = .ok (.invokestatic 111, 3) := by decide +kernel
theorem dJ2_getChars_ba4f3_128 : decode cJ2_getChars_ba4f3 128 = .ok (.iload 5, 2) := by decide +kernel
theorem dJ2_getChars_ba4f3_130 : decode cJ2_getChars_ba4f3 130 = .ok (.ireturn, 1) := by decide +kernel
set_option maxRecDepth 20000 in
theorem ggJ2_checkIndex_2214a_J2_length_9d52b : GoodIn wsJ2_checkIndex_2214a wsJ2_length_9d52b := goodIn_r _ [4] (by decide +kernel) (by decide +kernel)
set_option maxRecDepth 20000 in
theorem gJ2_checkIndex_2214a_J2_length_9d52b : GoodIn wsJ2_checkIndex_2214a (va_wsS RJ2 48 yJ2_length_9d52b wsJ2_length_9d52b) := goodIn_app (goodIn_of _ (by decide +kernel)) ggJ2_checkIndex_2214a_J2_length_9d52b
set_option maxRecDepth 20000 in
theorem ggJ2_checkIndex_2214a_J0_checkIndex_df160 : GoodIn wsJ2_checkIndex_2214a wsJ0_checkIndex_df160 := goodIn_r _ [8, 9, 10, 11, 12, 13] (by decide +kernel) (by decide +kernel)
set_option maxRecDepth 20000 in
theorem gJ2_checkIndex_2214a_J0_checkIndex_df160 : GoodIn wsJ2_checkIndex_2214a (va_wsS RJ2 414 yJ0_checkIndex_df160 wsJ0_checkIndex_df160) := goodIn_app (goodIn_of _ (by decide +kernel)) ggJ2_checkIndex_2214a_J0_checkIndex_df160
theorem dJ2_checkIndex_2214a_0 : decode cJ2_checkIndex_2214a 0 = .ok (.iload_n 0, 1) := by decide +kernel
theorem dJ2_checkIndex_2214a_1 : decode cJ2_checkIndex_2214a 1 = .ok (.aload_n 1, 1) := by decide +kernel
theorem dJ2_checkIndex_2214a_2 : decode cJ2_checkIndex_2214a 2 = .ok (.invokestatic 48, 3) := by decide +kernel
theorem dJ2_checkIndex_2214a_5 : decode cJ2_checkIndex_2214a 5 = .ok (.invokestatic 414, 3) := by decide +kernel
theorem dJ2_checkIndex_2214a_8 : decode cJ2_checkIndex_2214a 8 = .ok (.return_, 1) := by decide +kernel
set_option maxRecDepth 20000 in
theorem ggJ2_checkBoundsBeginEnd_d044e_J2_length_9d52b : GoodIn wsJ2_checkBoundsBeginEnd_d044e wsJ2_length_9d52b := goodIn_r _ [4] (by decide +kernel) (by decide +kernel)
set_option maxRecDepth 20000 in
theorem gJ2_checkBoundsBeginEnd_d044e_J2_length_9d52b : GoodIn wsJ2_checkBoundsBeginEnd_d044e (va_wsS RJ2 48 yJ2_length_9d52b wsJ2_length_9d52b) := goodIn_app (goodIn_of _ (by decide +kernel)) ggJ2_checkBoundsBeginEnd_d044e_J2_length_9d52b
set_option maxRecDepth 20000 in
theorem ggJ2_checkBoundsBeginEnd_d044e_J0_checkBoundsBeginEnd_23922 : GoodIn wsJ2_checkBoundsBeginEnd_d044e wsJ0_checkBoundsBeginEnd_23922 := goodIn_r _ [8, 9, 10, 11, 12, 13] (by decide +kernel) (by decide +kernel)
set_option maxRecDepth 20000 in
theorem gJ2_checkBoundsBeginEnd_d044e_J0_checkBoundsBeginEnd_23922 : GoodIn wsJ2_checkBoundsBeginEnd_d044e (va_wsS RJ2 241 yJ0_checkBoundsBeginEnd_23922 wsJ0_checkBoundsBeginEnd_23922) := goodIn_app (goodIn_of _ (by decide +kernel)) ggJ2_checkBoundsBeginEnd_d044e_J0_checkBoundsBeginEnd_23922
theorem dJ2_checkBoundsBeginEnd_d044e_0 : decode cJ2_checkBoundsBeginEnd_d044e 0 = .ok (.iload_n 0, 1) := by decide +kernel
theorem dJ2_checkBoundsBeginEnd_d044e_1 : decode cJ2_checkBoundsBeginEnd_d044e 1 = .ok (.iload_n 1, 1) := by decide +kernel
theorem dJ2_checkBoundsBeginEnd_d044e_2 : decode cJ2_checkBoundsBeginEnd_d044e 2 = .ok (.aload_n 2, 1) := by decide +kernel
theorem dJ2_checkBoundsBeginEnd_d044e_3 : decode cJ2_checkBoundsBeginEnd_d044e 3 = .ok (.invokestatic 48, 3) := by decide +kernel
theorem dJ2_checkBoundsBeginEnd_d044e_6 : decode cJ2_checkBoundsBeginEnd_d044e 6 = .ok (.invokestatic 241, 3) := by decide +kernel
theorem dJ2_checkBoundsBeginEnd_d044e_9 : decode cJ2_checkBoundsBeginEnd_d044e 9 = .ok (.return_, 1) := by decide +kernel
set_option maxRecDepth 20000 in
theorem ggJ2_checkBoundsOffCount_d044e_J2_length_9d52b : GoodIn wsJ2_checkBoundsOffCount_d044e wsJ2_length_9d52b := goodIn_r _ [4] (by decide +kernel) (by decide +kernel)
set_option maxRecDepth 20000 in
theorem gJ2_checkBoundsOffCount_d044e_J2_length_9d52b : GoodIn wsJ2_checkBoundsOffCount_d044e (va_wsS RJ2 48 yJ2_length_9d52b wsJ2_length_9d52b) := goodIn_app (goodIn_of _ (by decide +kernel)) ggJ2_checkBoundsOffCount_d044e_J2_length_9d52b
set_option maxRecDepth 20000 in
theorem ggJ2_checkBoundsOffCount_d044e_J0_checkBoundsOffCount_cabcc : GoodIn wsJ2_checkBoundsOffCount_d044e wsJ0_checkBoundsOffCount_cabcc := goodIn_r _ [8, 9, 10, 11, 12, 13] (by decide +kernel) (by decide +kernel)
set_option maxRecDepth 20000 in
theorem gJ2_checkBoundsOffCount_d044e_J0_checkBoundsOffCount_cabcc : GoodIn wsJ2_checkBoundsOffCount_d044e (va_wsS RJ2 419 yJ0_checkBoundsOffCount_cabcc wsJ0_checkBoundsOffCount_cabcc) := goodIn_app (goodIn_of _ (by decide +kernel)) ggJ2_checkBoundsOffCount_d044e_J0_checkBoundsOffCount_cabcc
theorem dJ2_checkBoundsOffCount_d044e_0 : decode cJ2_checkBoundsOffCount_d044e 0 = .ok (.iload_n 0, 1) := by decide +kernel
theorem dJ2_checkBoundsOffCount_d044e_1 : decode cJ2_checkBoundsOffCount_d044e 1 = .ok (.iload_n 1, 1) := by decide +kernel
theorem dJ2_checkBoundsOffCount_d044e_2 : decode cJ2_checkBoundsOffCount_d044e 2 = .ok (.aload_n 2, 1) := by decide +kernel
theorem dJ2_checkBoundsOffCount_d044e_3 : decode cJ2_checkBoundsOffCount_d044e 3 = .ok (.invokestatic 48, 3) := by decide +kernel
theorem dJ2_checkBoundsOffCount_d044e_6 : decode cJ2_checkBoundsOffCount_d044e 6 = .ok (.invokestatic 419, 3) := by decide +kernel
theorem dJ2_checkBoundsOffCount_d044e_9 : decode cJ2_checkBoundsOffCount_d044e 9 = .ok (.pop, 1) := by decide +kernel
theorem dJ2_checkBoundsOffCount_d044e_10 : decode cJ2_checkBoundsOffCount_d044e 10 = .ok (.return_, 1) := by decide +kernel
theorem dJ7_copyOf_9075b_0 : decode cJ7_copyOf_9075b 0 = .ok (.iload_n 1, 1) := by decide +kernel
theorem dJ7_copyOf_9075b_1 : decode cJ7_copyOf_9075b 1 = .ok (.aload_n 0, 1) := by decide +kernel
theorem dJ7_copyOf_9075b_2 : decode cJ7_copyOf_9075b 2 = .ok (.arraylength, 1) := by decide +kernel
theorem dJ7_copyOf_9075b_3 : decode cJ7_copyOf_9075b 3 = .ok (.if_icmp .ne 11, 3) := by decide +kernel
theorem dJ7_copyOf_9075b_6 : decode cJ7_copyOf_9075b 6 = .ok (.aload_n 0, 1) := by decide +kernel
theorem dJ7_copyOf_9075b_7 : decode cJ7_copyOf_9075b 7 = .ok (.invokevirtual 310, 3) := by decide +kernel
theorem dJ7_copyOf_9075b_10 : decode cJ7_copyOf_9075b 10 = .ok (.checkcast 311, 3) := by decide +kernel
theorem dJ7_copyOf_9075b_13 : decode cJ7_copyOf_9075b 13 = .ok (.areturn, 1) := by decide +kernel
theorem dJ7_copyOf_9075b_14 : decode cJ7_copyOf_9075b 14 = .ok (.iload_n 1, 1) := by decide +kernel
theorem dJ7_copyOf_9075b_15 : decode cJ7_copyOf_9075b 15 = .ok (.newarray .byte, 2) := by decide +kernel
theorem dJ7_copyOf_9075b_17 : decode cJ7_copyOf_9075b 17 = .ok (.astore_n 2, 1) := by decide +kernel
theorem dJ7_copyOf_9075b_18 : decode cJ7_copyOf_9075b 18 = .ok (.aload_n 0, 1) := by decide +kernel
theorem dJ7_copyOf_9075b_19 : decode cJ7_copyOf_9075b 19 = .ok (.iconst 0, 1) := by decide +kernel
theorem dJ7_copyOf_9075b_20 : decode cJ7_copyOf_9075b 20 = .ok (.aload_n 2, 1) := by decide +kernel
theorem dJ7_copyOf_9075b_21 : decode cJ7_copyOf_9075b 21 = .ok (.iconst 0, 1) := by decide +kernel
theorem dJ7_copyOf_9075b_22 : decode cJ7_copyOf_9075b 22 = .ok (.aload_n 0, 1) := by decide +kernel
theorem dJ7_copyOf_9075b_23 : decode cJ7_copyOf_9075b 23 = .ok (.arraylength, 1) := by decide +kernel
theorem dJ7_copyOf_9075b_24 : decode cJ7_copyOf_9075b 24 = .ok (.iload_n 1, 1) := by decide +kernel
theorem dJ7_copyOf_9075b_25 : decode cJ7_copyOf_9075b 25 = .ok (.invokestatic 304, 3) := by decide +kernel
theorem dJ7_copyOf_9075b_28 : decode cJ7_copyOf_9075b 28 = .ok (.invokestatic 150, 3) := by decide +kernel
theorem dJ7_copyOf_9075b_31 : decode cJ7_copyOf_9075b 31 = .ok (.aload_n 2, 1) := by decide +kernel
theorem dJ7_copyOf_9075b_32 : decode cJ7_copyOf_9075b 32 = .ok (.areturn, 1) := by decide +kernel
theorem dJ7_checkLength_df160_0 : decode cJ7_checkLength_df160 0 = .ok (.iload_n 1, 1) := by decide +kernel
theorem dJ7_checkLength_df160_1 : decode cJ7_checkLength_df160 1 = .ok (.iload_n 0, 1) := by decide +kernel
theorem dJ7_checkLength_df160_2 : decode cJ7_checkLength_df160 2 = .ok (.if_icmp .ge 35, 3) := by decide +kernel
theorem dJ7_checkLength_df160_5 : decode cJ7_checkLength_df160 5 = .ok (.new 43, 3) := by decide +kernel
theorem dJ7_checkLength_df160_8 : decode cJ7_checkLength_df160 8 = .ok (.dup, 1) := by decide +kernel
theorem dJ7_checkLength_df160_9 : decode cJ7_checkLength_df160 9 = .ok (.new 45, 3) := by decide +kernel
theorem dJ7_checkLength_df160_12 : decode cJ7_checkLength_df160 12 = .ok (.dup, 1) := by decide +kernel
theorem dJ7_checkLength_df160_13 : decode cJ7_checkLength_df160 13 = .ok (.invokespecial 47, 3) := by decide +kernel
theorem dJ7_checkLength_df160_16 : decode cJ7_checkLength_df160 16 = .ok (.iload_n 0, 1) := by decide +kernel
theorem dJ7_checkLength_df160_17 : decode cJ7_checkLength_df160 17 = .ok (.invokevirtual 54, 3) := by decide +kernel
theorem dJ7_checkLength_df160_20 : decode cJ7_checkLength_df160 20 = .ok (.ldc_w 337, 3) := by decide +kernel
theorem dJ7_checkLength_df160_23 : decode cJ7_checkLength_df160 23 = .ok (.invokevirtual 50, 3) := by decide +kernel
theorem dJ7_checkLength_df160_26 : decode cJ7_checkLength_df160 26 = .ok (.iload_n 1, 1) := by decide +kernel
theorem dJ7_checkLength_df160_27 : decode cJ7_checkLength_df160 27 = .ok (.invokevirtual 54, 3) := by decide +kernel
theorem dJ7_checkLength_df160_30 : decode cJ7_checkLength_df160 30 = .ok (.invokevirtual 61, 3) := by decide +kernel
theorem dJ7_checkLength_df160_33 : decode cJ7_checkLength_df160 33 = .ok (.invokespecial 65, 3) := by decide +kernel
theorem dJ7_checkLength_df160_36 : decode cJ7_checkLength_df160 36 = .ok (.athrow, 1) := by decide +kernel
theorem dJ7_checkLength_df160_37 : decode cJ7_checkLength_df160 37 = .ok (.return_, 1) := by decide +kernel
set_option maxRecDepth 20000 in
theorem ggJ7_copyOfRange_39247_J7_copyOfRangeByte_39247 : GoodIn wsJ7_copyOfRange_39247 wsJ7_copyOfRangeByte_39247 := goodIn_r _ [10, 11, 12, 13, 14, 15, 16, 17, 18, 19, 20, 21, 9, 22, 23, 24, 25, 26, 27, 28, 29] (by decide +kernel) (by decide +kernel)
set_option maxRecDepth 20000 in
theorem gJ7_copyOfRange_39247_J7_copyOfRangeByte_39247 : GoodIn wsJ7_copyOfRange_39247 (va_wsS RJ7 339 yJ7_copyOfRangeByte_39247 wsJ7_copyOfRangeByte_39247) := goodIn_app (goodIn_of _ (by decide +kernel)) ggJ7_copyOfRange_39247_J7_copyOfRangeByte_39247
theorem dJ7_copyOfRange_39247_0 : decode cJ7_copyOfRange_39247 0 = .ok (.iload_n 1, 1) := by decide +kernel
theorem dJ7_copyOfRange_39247_1 : decode cJ7_copyOfRange_39247 1 = .ok (.ifCond .ne 9, 3) := by decide +kernel
theorem dJ7_copyOfRange_39247_4 : decode cJ7_copyOfRange_39247 4 = .ok (.iload_n 2, 1) := by decide +kernel
theorem dJ7_copyOfRange_39247_5 : decode cJ7_copyOfRange_39247 5 = .ok (.aload_n 0, 1) := by decide +kernel
theorem dJ7_copyOfRange_39247_6 : decode cJ7_copyOfRange_39247 6 = .ok (.arraylength, 1) := by decide +kernel
theorem dJ7_copyOfRange_39247_7 : decode cJ7_copyOfRange_39247 7 = .ok (.if_icmp .eq 10, 3) := by decide +kernel
theorem dJ7_copyOfRange_39247_10 : decode cJ7_copyOfRange_39247 10 = .ok (.aload_n 0, 1) := by decide +kernel
theorem dJ7_copyOfRange_39247_11 : decode cJ7_copyOfRange_39247 11 = .ok (.iload_n 1, 1) := by decide +kernel
theorem dJ7_copyOfRange_39247_12 : decode cJ7_copyOfRange_39247 12 = .ok (.iload_n 2, 1) := by decide +kernel
theorem dJ7_copyOfRange_39247_13 : decode cJ7_copyOfRange_39247 13 = .ok (.invokestatic 339, 3) := by decide +kernel
theorem dJ7_copyOfRange_39247_16 : decode cJ7_copyOfRange_39247 16 = .ok (.areturn, 1) := by decide +kernel
theorem dJ7_copyOfRange_39247_17 : decode cJ7_copyOfRange_39247 17 = .ok (.aload_n 0, 1) := by decide +kernel
theorem dJ7_copyOfRange_39247_18 : decode cJ7_copyOfRange_39247 18 = .ok (.invokevirtual 310, 3) := by decide +kernel
theorem dJ7_copyOfRange_39247_21 : decode cJ7_copyOfRange_39247 21 = .ok (.checkcast 311, 3) := by decide +kernel
theorem dJ7_copyOfRange_39247_24 : decode cJ7_copyOfRange_39247 24 = .ok (.areturn, 1) := by decide +kernel
set_option maxRecDepth 20000 in
theorem ggJ7_copyOfRangeByte_39247_J7_checkLength_df160 : GoodIn wsJ7_copyOfRangeByte_39247 wsJ7_checkLength_df160 := goodIn_r _ [13, 14, 15, 16, 17, 18, 19, 20] (by decide +kernel) (by decide +kernel)
set_option maxRecDepth 20000 in
theorem gJ7_copyOfRangeByte_39247_J7_checkLength_df160 : GoodIn wsJ7_copyOfRangeByte_39247 (va_wsS RJ7 343 yJ7_checkLength_df160 wsJ7_checkLength_df160) := goodIn_app (goodIn_of _ (by decide +kernel)) ggJ7_copyOfRangeByte_39247_J7_checkLength_df160
theorem dJ7_copyOfRangeByte_39247_0 : decode cJ7_copyOfRangeByte_39247 0 = .ok (.iload_n 1, 1) := by decide +kernel
theorem dJ7_copyOfRangeByte_39247_1 : decode cJ7_copyOfRangeByte_39247 1 = .ok (.iload_n 2, 1) := by decide +kernel
theorem dJ7_copyOfRangeByte_39247_2 : decode cJ7_copyOfRangeByte_39247 2 = .ok (.invokestatic 343, 3) := by decide +kernel
theorem dJ7_copyOfRangeByte_39247_5 : decode cJ7_copyOfRangeByte_39247 5 = .ok (.iload_n 2, 1) := by decide +kernel
theorem dJ7_copyOfRangeByte_39247_6 : decode cJ7_copyOfRangeByte_39247 6 = .ok (.iload_n 1, 1) := by decide +kernel
theorem dJ7_copyOfRangeByte_39247_7 : decode cJ7_copyOfRangeByte_39247 7 = .ok (.isub, 1) := by decide +kernel
theorem dJ7_copyOfRangeByte_39247_8 : decode cJ7_copyOfRangeByte_39247 8 = .ok (.istore_n 3, 1) := by decide +kernel
theorem dJ7_copyOfRangeByte_39247_9 : decode cJ7_copyOfRangeByte_39247 9 = .ok (.iload_n 3, 1) := by decide +kernel
theorem dJ7_copyOfRangeByte_39247_10 : decode cJ7_copyOfRangeByte_39247 10 = .ok (.newarray .byte, 2) := by decide +kernel
theorem dJ7_copyOfRangeByte_39247_12 : decode cJ7_copyOfRangeByte_39247 12 = .ok (.astore 4, 2) := by decide +kernel
theorem dJ7_copyOfRangeByte_39247_14 : decode cJ7_copyOfRangeByte_39247 14 = .ok (.aload_n 0, 1) := by decide +kernel
theorem dJ7_copyOfRangeByte_39247_15 : decode cJ7_copyOfRangeByte_39247 15 = .ok (.iload_n 1, 1) := by decide +kernel
theorem dJ7_copyOfRangeByte_39247_16 : decode cJ7_copyOfRangeByte_39247 16 = .ok (.aload 4, 2) := by decide +kernel
theorem dJ7_copyOfRangeByte_39247_18 : decode cJ7_copyOfRangeByte_39247 18 = .ok (.iconst 0, 1) := by decide +kernel
theorem dJ7_copyOfRangeByte_39247_19 : decode cJ7_copyOfRangeByte_39247 19 = .ok (.aload_n 0, 1) := by decide +kernel
theorem dJ7_copyOfRangeByte_39247_20 : decode cJ7_copyOfRangeByte_39247 20 = .ok (.arraylength, 1) := by decide +kernel
theorem dJ7_copyOfRangeByte_39247_21 : decode cJ7_copyOfRangeByte_39247 21 = .ok (.iload_n 1, 1) := by decide +kernel
theorem dJ7_copyOfRangeByte_39247_22 : decode cJ7_copyOfRangeByte_39247 22 = .ok (.isub, 1) := by decide +kernel
theorem dJ7_copyOfRangeByte_39247_23 : decode cJ7_copyOfRangeByte_39247 23 = .ok (.iload_n 3, 1) := by decide +kernel
theorem dJ7_copyOfRangeByte_39247_24 : decode cJ7_copyOfRangeByte_39247 24 = .ok (.invokestatic 304, 3) := by decide +kernel
theorem dJ7_copyOfRangeByte_39247_27 : decode cJ7_copyOfRangeByte_39247 27 = .ok (.invokestatic 150, 3) := by decide +kernel
theorem dJ7_copyOfRangeByte_39247_30 : decode cJ7_copyOfRangeByte_39247 30 = .ok (.aload 4, 2) := by decide +kernel
theorem dJ7_copyOfRangeByte_39247_32 : decode cJ7_copyOfRangeByte_39247 32 = .ok (.areturn, 1) := by decide +kernel
set_option maxRecDepth 20000 in
theorem ggJ8_newLength_cabcc_J8_hugeLength_7cf53 : GoodIn wsJ8_newLength_cabcc wsJ8_hugeLength_7cf53 := goodIn_r _ [9, 5] (by decide +kernel) (by decide +kernel)
set_option maxRecDepth 20000 in
theorem gJ8_newLength_cabcc_J8_hugeLength_7cf53 : GoodIn wsJ8_newLength_cabcc (va_wsS RJ8 201 yJ8_hugeLength_7cf53 wsJ8_hugeLength_7cf53) := goodIn_app (goodIn_of _ (by decide +kernel)) ggJ8_newLength_cabcc_J8_hugeLength_7cf53
theorem dJ8_newLength_cabcc_0 : decode cJ8_newLength_cabcc 0 = .ok (.iload_n 0, 1) := by decide +kernel
theorem dJ8_newLength_cabcc_1 : decode cJ8_newLength_cabcc 1 = .ok (.iload_n 1, 1) := by decide +kernel
theorem dJ8_newLength_cabcc_2 : decode cJ8_newLength_cabcc 2 = .ok (.iload_n 2, 1) := by decide +kernel
theorem dJ8_newLength_cabcc_3 : decode cJ8_newLength_cabcc 3 = .ok (.invokestatic 194, 3) := by decide +kernel
theorem dJ8_newLength_cabcc_6 : decode cJ8_newLength_cabcc 6 = .ok (.iadd, 1) := by decide +kernel
theorem dJ8_newLength_cabcc_7 : decode cJ8_newLength_cabcc 7 = .ok (.istore_n 3, 1) := by decide +kernel
theorem dJ8_newLength_cabcc_8 : decode cJ8_newLength_cabcc 8 = .ok (.iconst 0, 1) := by decide +kernel
theorem dJ8_newLength_cabcc_9 : decode cJ8_newLength_cabcc 9 = .ok (.iload_n 3, 1) := by decide +kernel
theorem dJ8_newLength_cabcc_10 : decode cJ8_newLength_cabcc 10 = .ok (.if_icmp .ge 11, 3) := by decide +kernel
theorem dJ8_newLength_cabcc_13 : decode cJ8_newLength_cabcc 13 = .ok (.iload_n 3, 1) := by decide +kernel
theorem dJ8_newLength_cabcc_14 : decode cJ8_newLength_cabcc 14 = .ok (.ldc 200, 2) := by decide +kernel
theorem dJ8_newLength_cabcc_16 : decode cJ8_newLength_cabcc 16 = .ok (.if_icmp .gt 5, 3) := by decide +kernel
theorem dJ8_newLength_cabcc_19 : decode cJ8_newLength_cabcc 19 = .ok (.iload_n 3, 1) := by decide +kernel
theorem dJ8_newLength_cabcc_20 : decode cJ8_newLength_cabcc 20 = .ok (.ireturn, 1) := by decide +kernel
theorem dJ8_newLength_cabcc_21 : decode cJ8_newLength_cabcc 21 = .ok (.iload_n 0, 1) := by decide +kernel
theorem dJ8_newLength_cabcc_22 : decode cJ8_newLength_cabcc 22 = .ok (.iload_n 1, 1) := by decide +kernel
theorem dJ8_newLength_cabcc_23 : decode cJ8_newLength_cabcc 23 = .ok (.invokestatic 201, 3) := by decide +kernel
theorem dJ8_newLength_cabcc_26 : decode cJ8_newLength_cabcc 26 = .ok (.ireturn, 1) := by decide +kernel
theorem dJ8_hugeLength_7cf53_0 : decode cJ8_hugeLength_7cf53 0 = .ok (.iload_n 0, 1) := by decide +kernel
theorem dJ8_hugeLength_7cf53_1 : decode cJ8_hugeLength_7cf53 1 = .ok (.iload_n 1, 1) := by decide +kernel
theorem dJ8_hugeLength_7cf53_2 : decode cJ8_hugeLength_7cf53 2 = .ok (.iadd, 1) := by decide +kernel
theorem dJ8_hugeLength_7cf53_3 : decode cJ8_hugeLength_7cf53 3 = .ok (.istore_n 2, 1) := by decide +kernel
theorem dJ8_hugeLength_7cf53_4 : decode cJ8_hugeLength_7cf53 4 = .ok (.iload_n 2, 1) := by decide +kernel
theorem dJ8_hugeLength_7cf53_5 : decode cJ8_hugeLength_7cf53 5 = .ok (.ifCond .ge 44, 3) := by decide +kernel
theorem dJ8_hugeLength_7cf53_8 : decode cJ8_hugeLength_7cf53 8 = .ok (.new 204, 3) := by decide +kernel
theorem dJ8_hugeLength_7cf53_11 : decode cJ8_hugeLength_7cf53 11 = .ok (.dup, 1) := by decide +kernel
theorem dJ8_hugeLength_7cf53_12 : decode cJ8_hugeLength_7cf53 12 = .ok (.new 89, 3) := by decide +kernel
theorem dJ8_hugeLength_7cf53_15 : decode cJ8_hugeLength_7cf53 15 = .ok (.dup, 1) := by decide +kernel
theorem dJ8_hugeLength_7cf53_16 : decode cJ8_hugeLength_7cf53 16 = .ok (.invokespecial 91, 3) := by decide +kernel
theorem dJ8_hugeLength_7cf53_19 : decode cJ8_hugeLength_7cf53 19 = .ok (.ldc 206, 2) := by decide +kernel
theorem dJ8_hugeLength_7cf53_21 : decode cJ8_hugeLength_7cf53 21 = .ok (.invokevirtual 94, 3) := by decide +kernel
theorem dJ8_hugeLength_7cf53_24 : decode cJ8_hugeLength_7cf53 24 = .ok (.iload_n 0, 1) := by decide +kernel
theorem dJ8_hugeLength_7cf53_25 : decode cJ8_hugeLength_7cf53 25 = .ok (.invokevirtual 98, 3) := by decide +kernel
theorem dJ8_hugeLength_7cf53_28 : decode cJ8_hugeLength_7cf53 28 = .ok (.ldc 208, 2) := by decide +kernel
theorem dJ8_hugeLength_7cf53_30 : decode cJ8_hugeLength_7cf53 30 = .ok (.invokevirtual 94, 3) := by decide +kernel
theorem dJ8_hugeLength_7cf53_33 : decode cJ8_hugeLength_7cf53 33 = .ok (.iload_n 1, 1) := by decide +kernel
theorem dJ8_hugeLength_7cf53_34 : decode cJ8_hugeLength_7cf53 34 = .ok (.invokevirtual 98, 3) := by decide +kernel
theorem dJ8_hugeLength_7cf53_37 : decode cJ8_hugeLength_7cf53 37 = .ok (.ldc 210, 2) := by decide +kernel
theorem dJ8_hugeLength_7cf53_39 : decode cJ8_hugeLength_7cf53 39 = .ok (.invokevirtual 94, 3) := by decide +kernel
theorem dJ8_hugeLength_7cf53_42 : decode cJ8_hugeLength_7cf53 42 = .ok (.invokevirtual 101, 3) := by decide +kernel
theorem dJ8_hugeLength_7cf53_45 : decode cJ8_hugeLength_7cf53 45 = .ok (.invokespecial 212, 3) := by decide +kernel
theorem dJ8_hugeLength_7cf53_48 : decode cJ8_hugeLength_7cf53 48 = .ok (.athrow, 1) := by decide +kernel
theorem dJ8_hugeLength_7cf53_49 : decode cJ8_hugeLength_7cf53 49 = .ok (.iload_n 2, 1) := by decide +kernel
theorem dJ8_hugeLength_7cf53_50 : decode cJ8_hugeLength_7cf53 50 = .ok (.ldc 200, 2) := by decide +kernel
theorem dJ8_hugeLength_7cf53_52 : decode cJ8_hugeLength_7cf53 52 = .ok (.if_icmp .gt 6, 3) := by decide +kernel
theorem dJ8_hugeLength_7cf53_55 : decode cJ8_hugeLength_7cf53 55 = .ok (.ldc 200, 2) := by decide +kernel
theorem dJ8_hugeLength_7cf53_57 : decode cJ8_hugeLength_7cf53 57 = .ok (.ireturn, 1) := by decide +kernel
theorem dJ8_hugeLength_7cf53_58 : decode cJ8_hugeLength_7cf53 58 = .ok (.iload_n 2, 1) := by decide +kernel
theorem dJ8_hugeLength_7cf53_59 : decode cJ8_hugeLength_7cf53 59 = .ok (.ireturn, 1) := by decide +kernel
theorem dJ3_checkIndex_8e157_0 : decode cJ3_checkIndex_8e157 0 = .ok (.iload_n 0, 1) := by decide +kernel
theorem dJ3_checkIndex_8e157_1 : decode cJ3_checkIndex_8e157 1 = .ok (.ifCond .lt 8, 3) := by decide +kernel
theorem dJ3_checkIndex_8e157_4 : decode cJ3_checkIndex_8e157 4 = .ok (.iload_n 0, 1) := by decide +kernel
theorem dJ3_checkIndex_8e157_5 : decode cJ3_checkIndex_8e157 5 = .ok (.iload_n 1, 1) := by decide +kernel
theorem dJ3_checkIndex_8e157_6 : decode cJ3_checkIndex_8e157 6 = .ok (.if_icmp .lt 10, 3) := by decide +kernel
theorem dJ3_checkIndex_8e157_9 : decode cJ3_checkIndex_8e157 9 = .ok (.aload_n 2, 1) := by decide +kernel
theorem dJ3_checkIndex_8e157_10 : decode cJ3_checkIndex_8e157 10 = .ok (.iload_n 0, 1) := by decide +kernel
theorem dJ3_checkIndex_8e157_11 : decode cJ3_checkIndex_8e157 11 = .ok (.iload_n 1, 1) := by decide +kernel
theorem dJ3_checkIndex_8e157_12 : decode cJ3_checkIndex_8e157 12 = .ok (.invokestatic 95, 3) := by decide +kernel
theorem dJ3_checkIndex_8e157_15 : decode cJ3_checkIndex_8e157 15 = .ok (.athrow, 1) := by decide +kernel
theorem dJ3_checkIndex_8e157_16 : decode cJ3_checkIndex_8e157 16 = .ok (.iload_n 0, 1) := by decide +kernel
theorem dJ3_checkIndex_8e157_17 : decode cJ3_checkIndex_8e157 17 = .ok (.ireturn, 1) := by decide +kernel
theorem dJ3_checkFromToIndex_8c36e_0 : decode cJ3_checkFromToIndex_8c36e 0 = .ok (.iload_n 0, 1) := by decide +kernel
theorem dJ3_checkFromToIndex_8c36e_1 : decode cJ3_checkFromToIndex_8c36e 1 = .ok (.ifCond .lt 13, 3) := by decide +kernel
theorem dJ3_checkFromToIndex_8c36e_4 : decode cJ3_checkFromToIndex_8c36e 4 = .ok (.iload_n 0, 1) := by decide +kernel
theorem dJ3_checkFromToIndex_8c36e_5 : decode cJ3_checkFromToIndex_8c36e 5 = .ok (.iload_n 1, 1) := by decide +kernel
theorem dJ3_checkFromToIndex_8c36e_6 : decode cJ3_checkFromToIndex_8c36e 6 = .ok (.if_icmp .gt 8, 3) := by decide +kernel
theorem dJ3_checkFromToIndex_8c36e_9 : decode cJ3_checkFromToIndex_8c36e 9 = .ok (.iload_n 1, 1) := by decide +kernel
theorem dJ3_checkFromToIndex_8c36e_10 : decode cJ3_checkFromToIndex_8c36e 10 = .ok (.iload_n 2, 1) := by decide +kernel
theorem dJ3_checkFromToIndex_8c36e_11 : decode cJ3_checkFromToIndex_8c36e 11 = .ok (.if_icmp .le 11, 3) := by decide +kernel
theorem dJ3_checkFromToIndex_8c36e_14 : decode cJ3_checkFromToIndex_8c36e 14 = .ok (.aload_n 3, 1) := by decide +kernel
theorem dJ3_checkFromToIndex_8c36e_15 : decode cJ3_checkFromToIndex_8c36e 15 = .ok (.iload_n 0, 1) := by decide +kernel
theorem dJ3_checkFromToIndex_8c36e_16 : decode cJ3_checkFromToIndex_8c36e 16 = .ok (.iload_n 1, 1) := by decide +kernel
theorem dJ3_checkFromToIndex_8c36e_17 : decode cJ3_checkFromToIndex_8c36e 17 = .ok (.iload_n 2, 1) := by decide +kernel
theorem dJ3_checkFromToIndex_8c36e_18 : decode cJ3_checkFromToIndex_8c36e 18 = .ok (.invokestatic 99, 3) := by decide +kernel
theorem dJ3_checkFromToIndex_8c36e_21 : decode cJ3_checkFromToIndex_8c36e 21 = .ok (.athrow, 1) := by decide +kernel
theorem dJ3_checkFromToIndex_8c36e_22 : decode cJ3_checkFromToIndex_8c36e 22 = .ok (.iload_n 0, 1) := by decide +kernel
theorem dJ3_checkFromToIndex_8c36e_23 : decode cJ3_checkFromToIndex_8c36e 23 = .ok (.ireturn, 1) := by decide +kernel
theorem dJ3_checkFromIndexSize_8c36e_0 : decode cJ3_checkFromIndexSize_8c36e 0 = .ok (.iload_n 2, 1) := by decide +kernel
theorem dJ3_checkFromIndexSize_8c36e_1 : decode cJ3_checkFromIndexSize_8c36e 1 = .ok (.iload_n 0, 1) := by decide +kernel
theorem dJ3_checkFromIndexSize_8c36e_2 : decode cJ3_checkFromIndexSize_8c36e 2 = .ok (.ior, 1) := by decide +kernel
theorem dJ3_checkFromIndexSize_8c36e_3 : decode cJ3_checkFromIndexSize_8c36e 3 = .ok (.iload_n 1, 1) := by decide +kernel
theorem dJ3_checkFromIndexSize_8c36e_4 : decode cJ3_checkFromIndexSize_8c36e 4 = .ok (.ior, 1) := by decide +kernel
theorem dJ3_checkFromIndexSize_8c36e_5 : decode cJ3_checkFromIndexSize_8c36e 5 = .ok (.ifCond .lt 10, 3) := by decide +kernel
theorem dJ3_checkFromIndexSize_8c36e_8 : decode cJ3_checkFromIndexSize_8c36e 8 = .ok (.iload_n 1, 1) := by decide +kernel
theorem dJ3_checkFromIndexSize_8c36e_9 : decode cJ3_checkFromIndexSize_8c36e 9 = .ok (.iload_n 2, 1) := by decide +kernel
theorem dJ3_checkFromIndexSize_8c36e_10 : decode cJ3_checkFromIndexSize_8c36e 10 = .ok (.iload_n 0, 1) := by decide +kernel
theorem dJ3_checkFromIndexSize_8c36e_11 : decode cJ3_checkFromIndexSize_8c36e 11 = .ok (.isub, 1) := by decide +kernel
theorem dJ3_checkFromIndexSize_8c36e_12 : decode cJ3_checkFromIndexSize_8c36e 12 = .ok (.if_icmp .le 11, 3) := by decide +kernel
theorem dJ3_checkFromIndexSize_8c36e_15 : decode cJ3_checkFromIndexSize_8c36e 15 = .ok (.aload_n 3, 1) := by decide +kernel
theorem dJ3_checkFromIndexSize_8c36e_16 : decode cJ3_checkFromIndexSize_8c36e 16 = .ok (.iload_n 0, 1) := by decide +kernel
theorem dJ3_checkFromIndexSize_8c36e_17 : decode cJ3_checkFromIndexSize_8c36e 17 = .ok (.iload_n 1, 1) := by decide +kernel
theorem dJ3_checkFromIndexSize_8c36e_18 : decode cJ3_checkFromIndexSize_8c36e 18 = .ok (.iload_n 2, 1) := by decide +kernel
theorem dJ3_checkFromIndexSize_8c36e_19 : decode cJ3_checkFromIndexSize_8c36e 19 = .ok (.invokestatic 103, 3) := by decide +kernel
theorem dJ3_checkFromIndexSize_8c36e_22 : decode cJ3_checkFromIndexSize_8c36e 22 = .ok (.athrow, 1) := by decide +kernel
theorem dJ3_checkFromIndexSize_8c36e_23 : decode cJ3_checkFromIndexSize_8c36e 23 = .ok (.iload_n 0, 1) := by decide +kernel
theorem dJ3_checkFromIndexSize_8c36e_24 : decode cJ3_checkFromIndexSize_8c36e 24 = .ok (.ireturn, 1) := by decide +kernel
theorem dX0_init_0 : decode cX0_init 0 = .ok (.aload_n 0, 1) := by decide +kernel
theorem dX0_init_1 : decode cX0_init 1 = .ok (.invokespecial 3, 3) := by decide +kernel
theorem dX0_init_4 : decode cX0_init 4 = .ok (.aload_n 0, 1) := by decide +kernel
theorem dX0_init_5 : decode cX0_init 5 = .ok (.iconst (-1), 1) := by decide +kernel
theorem dX0_init_6 : decode cX0_init 6 = .ok (.putfield 9, 3) := by decide +kernel
theorem dX0_init_9 : decode cX0_init 9 = .ok (.return_, 1) := by decide +kernel
theorem dX0_makeNew_0 : decode cX0_makeNew 0 = .ok (.aload_n 0, 1) := by decide +kernel
theorem dX0_makeNew_1 : decode cX0_makeNew 1 = .ok (.iload_n 1, 1) := by decide +kernel
theorem dX0_makeNew_2 : decode cX0_makeNew 2 = .ok (.putfield 15, 3) := by decide +kernel
theorem dX0_makeNew_5 : decode cX0_makeNew 5 = .ok (.aload_n 0, 1) := by decide +kernel
theorem dX0_makeNew_6 : decode cX0_makeNew 6 = .ok (.iload_n 2, 1) := by decide +kernel
theorem dX0_makeNew_7 : decode cX0_makeNew 7 = .ok (.putfield 18, 3) := by decide +kernel
theorem dX0_makeNew_10 : decode cX0_makeNew 10 = .ok (.aload_n 0, 1) := by decide +kernel
theorem dX0_makeNew_11 : decode cX0_makeNew 11 = .ok (.iload_n 3, 1) := by decide +kernel
theorem dX0_makeNew_12 : decode cX0_makeNew 12 = .ok (.putfield 21, 3) := by decide +kernel
theorem dX0_makeNew_15 : decode cX0_makeNew 15 = .ok (.aload_n 0, 1) := by decide +kernel
theorem dX0_makeNew_16 : decode cX0_makeNew 16 = .ok (.iload 4, 2) := by decide +kernel
theorem dX0_makeNew_18 : decode cX0_makeNew 18 = .ok (.putfield 24, 3) := by decide +kernel
theorem dX0_makeNew_21 : decode cX0_makeNew 21 = .ok (.aload_n 0, 1) := by decide +kernel
theorem dX0_makeNew_22 : decode cX0_makeNew 22 = .ok (.iload 5, 2) := by decide +kernel
theorem dX0_makeNew_24 : decode cX0_makeNew 24 = .ok (.putfield 27, 3) := by decide +kernel
theorem dX0_makeNew_27 : decode cX0_makeNew 27 = .ok (.aload_n 0, 1) := by decide +kernel
theorem dX0_makeNew_28 : decode cX0_makeNew 28 = .ok (.iconst (-1), 1) := by decide +kernel
theorem dX0_makeNew_29 : decode cX0_makeNew 29 = .ok (.putfield 9, 3) := by decide +kernel
theorem dX0_makeNew_32 : decode cX0_makeNew 32 = .ok (.aload_n 0, 1) := by decide +kernel
theorem dX0_makeNew_33 : decode cX0_makeNew 33 = .ok (.iconst 0, 1) := by decide +kernel
theorem dX0_makeNew_34 : decode cX0_makeNew 34 = .ok (.putfield 30, 3) := by decide +kernel
theorem dX0_makeNew_37 : decode cX0_makeNew 37 = .ok (.aload_n 0, 1) := by decide +kernel
theorem dX0_makeNew_38 : decode cX0_makeNew 38 = .ok (.iconst 0, 1) := by decide +kernel
theorem dX0_makeNew_39 : decode cX0_makeNew 39 = .ok (.putfield 33, 3) := by decide +kernel
theorem dX0_makeNew_42 : decode cX0_makeNew 42 = .ok (.aload_n 0, 1) := by decide +kernel
theorem dX0_makeNew_43 : decode cX0_makeNew 43 = .ok (.iconst 0, 1) := by decide +kernel
theorem dX0_makeNew_44 : decode cX0_makeNew 44 = .ok (.putfield 36, 3) := by decide +kernel
theorem dX0_makeNew_47 : decode cX0_makeNew 47 = .ok (.aload_n 0, 1) := by decide +kernel
theorem dX0_makeNew_48 : decode cX0_makeNew 48 = .ok (.iconst 0, 1) := by decide +kernel
theorem dX0_makeNew_49 : decode cX0_makeNew 49 = .ok (.putfield 40, 3) := by decide +kernel
theorem dX0_makeNew_52 : decode cX0_makeNew 52 = .ok (.return_, 1) := by decide +kernel
theorem dX0_copyFrom_0 : decode cX0_copyFrom 0 = .ok (.aload_n 0, 1) := by decide +kernel
theorem dX0_copyFrom_1 : decode cX0_copyFrom 1 = .ok (.aload_n 1, 1) := by decide +kernel
theorem dX0_copyFrom_2 : decode cX0_copyFrom 2 = .ok (.getfield 15, 3) := by decide +kernel
theorem dX0_copyFrom_5 : decode cX0_copyFrom 5 = .ok (.putfield 15, 3) := by decide +kernel
theorem dX0_copyFrom_8 : decode cX0_copyFrom 8 = .ok (.aload_n 0, 1) := by decide +kernel
theorem dX0_copyFrom_9 : decode cX0_copyFrom 9 = .ok (.aload_n 1, 1) := by decide +kernel
theorem dX0_copyFrom_10 : decode cX0_copyFrom 10 = .ok (.getfield 18, 3) := by decide +kernel
theorem dX0_copyFrom_13 : decode cX0_copyFrom 13 = .ok (.putfield 18, 3) := by decide +kernel
theorem dX0_copyFrom_16 : decode cX0_copyFrom 16 = .ok (.aload_n 0, 1) := by decide +kernel
theorem dX0_copyFrom_17 : decode cX0_copyFrom 17 = .ok (.aload_n 1, 1) := by decide +kernel
theorem dX0_copyFrom_18 : decode cX0_copyFrom 18 = .ok (.getfield 21, 3) := by decide +kernel
theorem dX0_copyFrom_21 : decode cX0_copyFrom 21 = .ok (.putfield 21, 3) := by decide +kernel
theorem dX0_copyFrom_24 : decode cX0_copyFrom 24 = .ok (.aload_n 0, 1) := by decide +kernel
theorem dX0_copyFrom_25 : decode cX0_copyFrom 25 = .ok (.aload_n 1, 1) := by decide +kernel
theorem dX0_copyFrom_26 : decode cX0_copyFrom 26 = .ok (.getfield 24, 3) := by decide +kernel
theorem dX0_copyFrom_29 : decode cX0_copyFrom 29 = .ok (.putfield 24, 3) := by decide +kernel
theorem dX0_copyFrom_32 : decode cX0_copyFrom 32 = .ok (.aload_n 0, 1) := by decide +kernel
theorem dX0_copyFrom_33 : decode cX0_copyFrom 33 = .ok (.aload_n 1, 1) := by decide +kernel
theorem dX0_copyFrom_34 : decode cX0_copyFrom 34 = .ok (.getfield 27, 3) := by decide +kernel
theorem dX0_copyFrom_37 : decode cX0_copyFrom 37 = .ok (.putfield 27, 3) := by decide +kernel
theorem dX0_copyFrom_40 : decode cX0_copyFrom 40 = .ok (.aload_n 0, 1) := by decide +kernel
theorem dX0_copyFrom_41 : decode cX0_copyFrom 41 = .ok (.aload_n 1, 1) := by decide +kernel
theorem dX0_copyFrom_42 : decode cX0_copyFrom 42 = .ok (.getfield 9, 3) := by decide +kernel
theorem dX0_copyFrom_45 : decode cX0_copyFrom 45 = .ok (.putfield 9, 3) := by decide +kernel
theorem dX0_copyFrom_48 : decode cX0_copyFrom 48 = .ok (.aload_n 0, 1) := by decide +kernel
theorem dX0_copyFrom_49 : decode cX0_copyFrom 49 = .ok (.aload_n 1, 1) := by decide +kernel
theorem dX0_copyFrom_50 : decode cX0_copyFrom 50 = .ok (.getfield 30, 3) := by decide +kernel
theorem dX0_copyFrom_53 : decode cX0_copyFrom 53 = .ok (.putfield 30, 3) := by decide +kernel
theorem dX0_copyFrom_56 : decode cX0_copyFrom 56 = .ok (.aload_n 0, 1) := by decide +kernel
theorem dX0_copyFrom_57 : decode cX0_copyFrom 57 = .ok (.aload_n 1, 1) := by decide +kernel
theorem dX0_copyFrom_58 : decode cX0_copyFrom 58 = .ok (.getfield 33, 3) := by decide +kernel
theorem dX0_copyFrom_61 : decode cX0_copyFrom 61 = .ok (.putfield 33, 3) := by decide +kernel
theorem dX0_copyFrom_64 : decode cX0_copyFrom 64 = .ok (.aload_n 0, 1) := by decide +kernel
theorem dX0_copyFrom_65 : decode cX0_copyFrom 65 = .ok (.aload_n 1, 1) := by decide +kernel
theorem dX0_copyFrom_66 : decode cX0_copyFrom 66 = .ok (.getfield 36, 3) := by decide +kernel
theorem dX0_copyFrom_69 : decode cX0_copyFrom 69 = .ok (.putfield 36, 3) := by decide +kernel
theorem dX0_copyFrom_72 : decode cX0_copyFrom 72 = .ok (.aload_n 0, 1) := by decide +kernel
theorem dX0_copyFrom_73 : decode cX0_copyFrom 73 = .ok (.aload_n 1, 1) := by decide +kernel
theorem dX0_copyFrom_74 : decode cX0_copyFrom 74 = .ok (.getfield 40, 3) := by decide +kernel
theorem dX0_copyFrom_77 : decode cX0_copyFrom 77 = .ok (.putfield 40, 3) := by decide +kernel
theorem dX0_copyFrom_80 : decode cX0_copyFrom 80 = .ok (.return_, 1) := by decide +kernel
set_option maxRecDepth 20000 in
theorem ggX1_init_X0_init : GoodIn wsX1_init wsX0_init := goodIn_r _ [14, 15, 2, 3, 16, 85, 86, 87, 88, 89, 90, 91, 92, 93, 94] (by decide +kernel) (by decide +kernel)
set_option maxRecDepth 20000 in
theorem gX1_init_X0_init_n30 : GoodIn wsX1_init (wsX0_init) := ggX1_init_X0_init
set_option maxRecDepth 20000 in
theorem ggX1_init_X1_makeNew : GoodIn wsX1_init wsX1_makeNew := goodIn_ca (goodIn_r _ [21, 22, 23, 24, 25, 26, 27, 28, 10, 29, 30, 20, 31, 32, 33, 34, 35, 36, 37, 38, 39, 40, 41, 42, 43, 44, 45, 46, 47, 48, 49, 50, 51, 52, 53, 54, 55, 56, 57, 58, 59, 60, 61, 62, 63, 64, 65, 66, 67, 68, 69, 70, 71, 72, 73, 74, 75, 76, 77, 78, 79, 80, 81, 82, 83, 84, 95, 96, 97, 98] (by decide +kernel) (by decide +kernel)) (goodIn_sub (fun _ h => List.mem_cons_of_mem _ (List.mem_append_right _ h)) (by decide +kernel))
set_option maxRecDepth 20000 in
theorem gX1_init_X1_makeNew : GoodIn wsX1_init (wsV RX1 31 RX1 yX1_makeNew wsX1_makeNew) := goodIn_app (goodIn_of _ (by decide +kernel)) ggX1_init_X1_makeNew
theorem dX1_init_0 : decode cX1_init 0 = .ok (.aload_n 0, 1) := by decide +kernel
theorem dX1_init_1 : decode cX1_init 1 = .ok (.invokespecial 3, 3) := by decide +kernel
theorem dX1_init_4 : decode cX1_init 4 = .ok (.aload_n 0, 1) := by decide +kernel
theorem dX1_init_5 : decode cX1_init 5 = .ok (.bipush 8, 2) := by decide +kernel
theorem dX1_init_7 : decode cX1_init 7 = .ok (.anewarray 9, 3) := by decide +kernel
theorem dX1_init_10 : decode cX1_init 10 = .ok (.putfield 11, 3) := by decide +kernel
theorem dX1_init_13 : decode cX1_init 13 = .ok (.aload_n 0, 1) := by decide +kernel
theorem dX1_init_14 : decode cX1_init 14 = .ok (.bipush 6, 2) := by decide +kernel
theorem dX1_init_16 : decode cX1_init 16 = .ok (.newarray .int, 2) := by decide +kernel
theorem dX1_init_18 : decode cX1_init 18 = .ok (.putfield 17, 3) := by decide +kernel
theorem dX1_init_21 : decode cX1_init 21 = .ok (.aload_n 0, 1) := by decide +kernel
theorem dX1_init_22 : decode cX1_init 22 = .ok (.iconst 5, 1) := by decide +kernel
theorem dX1_init_23 : decode cX1_init 23 = .ok (.newarray .int, 2) := by decide +kernel
theorem dX1_init_25 : decode cX1_init 25 = .ok (.putfield 21, 3) := by decide +kernel
theorem dX1_init_28 : decode cX1_init 28 = .ok (.aload_n 0, 1) := by decide +kernel
theorem dX1_init_29 : decode cX1_init 29 = .ok (.iconst 5, 1) := by decide +kernel
theorem dX1_init_30 : decode cX1_init 30 = .ok (.newarray .int, 2) := by decide +kernel
theorem dX1_init_32 : decode cX1_init 32 = .ok (.putfield 24, 3) := by decide +kernel
theorem dX1_init_35 : decode cX1_init 35 = .ok (.aload_n 0, 1) := by decide +kernel
theorem dX1_init_36 : decode cX1_init 36 = .ok (.bipush 24, 2) := by decide +kernel
theorem dX1_init_38 : decode cX1_init 38 = .ok (.newarray .int, 2) := by decide +kernel
theorem dX1_init_40 : decode cX1_init 40 = .ok (.putfield 27, 3) := by decide +kernel
theorem dX1_init_43 : decode cX1_init 43 = .ok (.iconst 0, 1) := by decide +kernel
theorem dX1_init_44 : decode cX1_init 44 = .ok (.istore_n 1, 1) := by decide +kernel
theorem dX1_init_45 : decode cX1_init 45 = .ok (.iload_n 1, 1) := by decide +kernel
theorem dX1_init_46 : decode cX1_init 46 = .ok (.bipush 8, 2) := by decide +kernel
theorem dX1_init_48 : decode cX1_init 48 = .ok (.if_icmp .ge 22, 3) := by decide +kernel
theorem dX1_init_51 : decode cX1_init 51 = .ok (.aload_n 0, 1) := by decide +kernel
theorem dX1_init_52 : decode cX1_init 52 = .ok (.getfield 11, 3) := by decide +kernel
theorem dX1_init_55 : decode cX1_init 55 = .ok (.iload_n 1, 1) := by decide +kernel
theorem dX1_init_56 : decode cX1_init 56 = .ok (.new 9, 3) := by decide +kernel
theorem dX1_init_59 : decode cX1_init 59 = .ok (.dup, 1) := by decide +kernel
theorem dX1_init_60 : decode cX1_init 60 = .ok (.invokespecial 30, 3) := by decide +kernel
theorem dX1_init_63 : decode cX1_init 63 = .ok (.aastore, 1) := by decide +kernel
theorem dX1_init_64 : decode cX1_init 64 = .ok (.iinc 1 1, 3) := by decide +kernel
theorem dX1_init_67 : decode cX1_init 67 = .ok (.goto (-22), 3) := by decide +kernel
theorem dX1_init_70 : decode cX1_init 70 = .ok (.aload_n 0, 1) := by decide +kernel
theorem dX1_init_71 : decode cX1_init 71 = .ok (.invokevirtual 31, 3) := by decide +kernel
theorem dX1_init_74 : decode cX1_init 74 = .ok (.return_, 1) := by decide +kernel
set_option maxRecDepth 20000 in
theorem ggX1_makeNew_X1_letterPlace : GoodIn wsX1_makeNew wsX1_letterPlace := goodIn_r _ [12] (by decide +kernel) (by decide +kernel)
set_option maxRecDepth 20000 in
theorem gX1_makeNew_X1_letterPlace : GoodIn wsX1_makeNew (va_wsS RX1 56 yX1_letterPlace wsX1_letterPlace) := goodIn_app (goodIn_of _ (by decide +kernel)) ggX1_makeNew_X1_letterPlace
set_option maxRecDepth 20000 in
theorem ggX1_makeNew_J0_charAt_5068e : GoodIn wsX1_makeNew wsJ0_charAt_5068e := goodIn_r _ [17, 18, 19, 20, 21, 16, 22, 23, 24, 25, 26, 27, 28, 29, 30, 31, 32, 33, 34, 35, 36, 37, 38, 39, 40, 41, 42, 43, 44, 45, 46, 47, 48, 49, 50, 51, 52, 53, 66, 67, 68, 69] (by decide +kernel) (by decide +kernel)
set_option maxRecDepth 20000 in
theorem gX1_makeNew_J0_charAt_5068e : GoodIn wsX1_makeNew (wsV RX1 62 RJ0 yJ0_charAt_5068e wsJ0_charAt_5068e) := goodIn_app (goodIn_of _ (by decide +kernel)) ggX1_makeNew_J0_charAt_5068e
theorem dX1_makeNew_0 : decode cX1_makeNew 0 = .ok (.aload_n 0, 1) := by decide +kernel
theorem dX1_makeNew_1 : decode cX1_makeNew 1 = .ok (.iconst 0, 1) := by decide +kernel
theorem dX1_makeNew_2 : decode cX1_makeNew 2 = .ok (.putfield 34, 3) := by decide +kernel
theorem dX1_makeNew_5 : decode cX1_makeNew 5 = .ok (.aload_n 0, 1) := by decide +kernel
theorem dX1_makeNew_6 : decode cX1_makeNew 6 = .ok (.iconst 0, 1) := by decide +kernel
theorem dX1_makeNew_7 : decode cX1_makeNew 7 = .ok (.putfield 38, 3) := by decide +kernel
theorem dX1_makeNew_10 : decode cX1_makeNew 10 = .ok (.aload_n 0, 1) := by decide +kernel
theorem dX1_makeNew_11 : decode cX1_makeNew 11 = .ok (.iconst 0, 1) := by decide +kernel
theorem dX1_makeNew_12 : decode cX1_makeNew 12 = .ok (.putfield 41, 3) := by decide +kernel
theorem dX1_makeNew_15 : decode cX1_makeNew 15 = .ok (.aload_n 0, 1) := by decide +kernel
theorem dX1_makeNew_16 : decode cX1_makeNew 16 = .ok (.iconst 0, 1) := by decide +kernel
theorem dX1_makeNew_17 : decode cX1_makeNew 17 = .ok (.putfield 44, 3) := by decide +kernel
theorem dX1_makeNew_20 : decode cX1_makeNew 20 = .ok (.aload_n 0, 1) := by decide +kernel
theorem dX1_makeNew_21 : decode cX1_makeNew 21 = .ok (.iconst 0, 1) := by decide +kernel
theorem dX1_makeNew_22 : decode cX1_makeNew 22 = .ok (.putfield 47, 3) := by decide +kernel
theorem dX1_makeNew_25 : decode cX1_makeNew 25 = .ok (.aload_n 0, 1) := by decide +kernel
theorem dX1_makeNew_26 : decode cX1_makeNew 26 = .ok (.iconst 0, 1) := by decide +kernel
theorem dX1_makeNew_27 : decode cX1_makeNew 27 = .ok (.putfield 50, 3) := by decide +kernel
theorem dX1_makeNew_30 : decode cX1_makeNew 30 = .ok (.aload_n 0, 1) := by decide +kernel
theorem dX1_makeNew_31 : decode cX1_makeNew 31 = .ok (.iconst 0, 1) := by decide +kernel
theorem dX1_makeNew_32 : decode cX1_makeNew 32 = .ok (.putfield 53, 3) := by decide +kernel
theorem dX1_makeNew_35 : decode cX1_makeNew 35 = .ok (.iconst 0, 1) := by decide +kernel
theorem dX1_makeNew_36 : decode cX1_makeNew 36 = .ok (.istore_n 1, 1) := by decide +kernel
theorem dX1_makeNew_37 : decode cX1_makeNew 37 = .ok (.iload_n 1, 1) := by decide +kernel
theorem dX1_makeNew_38 : decode cX1_makeNew 38 = .ok (.iconst 3, 1) := by decide +kernel
theorem dX1_makeNew_39 : decode cX1_makeNew 39 = .ok (.if_icmp .ge 67, 3) := by decide +kernel
theorem dX1_makeNew_42 : decode cX1_makeNew 42 = .ok (.iconst 0, 1) := by decide +kernel
theorem dX1_makeNew_43 : decode cX1_makeNew 43 = .ok (.istore_n 2, 1) := by decide +kernel
theorem dX1_makeNew_44 : decode cX1_makeNew 44 = .ok (.iload_n 2, 1) := by decide +kernel
theorem dX1_makeNew_45 : decode cX1_makeNew 45 = .ok (.iconst 4, 1) := by decide +kernel
theorem dX1_makeNew_46 : decode cX1_makeNew 46 = .ok (.if_icmp .ge 54, 3) := by decide +kernel
theorem dX1_makeNew_49 : decode cX1_makeNew 49 = .ok (.iconst 0, 1) := by decide +kernel
theorem dX1_makeNew_50 : decode cX1_makeNew 50 = .ok (.istore_n 3, 1) := by decide +kernel
theorem dX1_makeNew_51 : decode cX1_makeNew 51 = .ok (.iload_n 3, 1) := by decide +kernel
theorem dX1_makeNew_52 : decode cX1_makeNew 52 = .ok (.iconst 2, 1) := by decide +kernel
theorem dX1_makeNew_53 : decode cX1_makeNew 53 = .ok (.if_icmp .ge 41, 3) := by decide +kernel
theorem dX1_makeNew_56 : decode cX1_makeNew 56 = .ok (.iload_n 1, 1) := by decide +kernel
theorem dX1_makeNew_57 : decode cX1_makeNew 57 = .ok (.iconst 2, 1) := by decide +kernel
theorem dX1_makeNew_58 : decode cX1_makeNew 58 = .ok (.iload_n 2, 1) := by decide +kernel
theorem dX1_makeNew_59 : decode cX1_makeNew 59 = .ok (.imul, 1) := by decide +kernel
theorem dX1_makeNew_60 : decode cX1_makeNew 60 = .ok (.iadd, 1) := by decide +kernel
theorem dX1_makeNew_61 : decode cX1_makeNew 61 = .ok (.iload_n 3, 1) := by decide +kernel
theorem dX1_makeNew_62 : decode cX1_makeNew 62 = .ok (.iadd, 1) := by decide +kernel
theorem dX1_makeNew_63 : decode cX1_makeNew 63 = .ok (.iconst 5, 1) := by decide +kernel
theorem dX1_makeNew_64 : decode cX1_makeNew 64 = .ok (.irem, 1) := by decide +kernel
theorem dX1_makeNew_65 : decode cX1_makeNew 65 = .ok (.istore 4, 2) := by decide +kernel
theorem dX1_makeNew_67 : decode cX1_makeNew 67 = .ok (.aload_n 0, 1) := by decide +kernel
theorem dX1_makeNew_68 : decode cX1_makeNew 68 = .ok (.getfield 27, 3) := by decide +kernel
theorem dX1_makeNew_71 : decode cX1_makeNew 71 = .ok (.iload_n 1, 1) := by decide +kernel
theorem dX1_makeNew_72 : decode cX1_makeNew 72 = .ok (.iload_n 2, 1) := by decide +kernel
theorem dX1_makeNew_73 : decode cX1_makeNew 73 = .ok (.iload_n 3, 1) := by decide +kernel
theorem dX1_makeNew_74 : decode cX1_makeNew 74 = .ok (.invokestatic 56, 3) := by decide +kernel
theorem dX1_makeNew_77 : decode cX1_makeNew 77 = .ok (.ldc 60, 2) := by decide +kernel
theorem dX1_makeNew_79 : decode cX1_makeNew 79 = .ok (.iload 4, 2) := by decide +kernel
theorem dX1_makeNew_81 : decode cX1_makeNew 81 = .ok (.invokevirtual 62, 3) := by decide +kernel
theorem dX1_makeNew_84 : decode cX1_makeNew 84 = .ok (.bipush 97, 2) := by decide +kernel
theorem dX1_makeNew_86 : decode cX1_makeNew 86 = .ok (.isub, 1) := by decide +kernel
theorem dX1_makeNew_87 : decode cX1_makeNew 87 = .ok (.iastore, 1) := by decide +kernel
theorem dX1_makeNew_88 : decode cX1_makeNew 88 = .ok (.iinc 3 1, 3) := by decide +kernel
theorem dX1_makeNew_91 : decode cX1_makeNew 91 = .ok (.goto (-40), 3) := by decide +kernel
theorem dX1_makeNew_94 : decode cX1_makeNew 94 = .ok (.iinc 2 1, 3) := by decide +kernel
theorem dX1_makeNew_97 : decode cX1_makeNew 97 = .ok (.goto (-53), 3) := by decide +kernel
theorem dX1_makeNew_100 : decode cX1_makeNew 100 = .ok (.iinc 1 1, 3) := by decide +kernel
theorem dX1_makeNew_103 : decode cX1_makeNew 103 = .ok (.goto (-66), 3) := by decide +kernel
theorem dX1_makeNew_106 : decode cX1_makeNew 106 = .ok (.return_, 1) := by decide +kernel
set_option maxRecDepth 20000 in
theorem ggX1_copyFrom_X0_copyFrom : GoodIn wsX1_copyFrom wsX0_copyFrom := goodIn_r _ [21, 22, 23, 24, 25, 26, 27, 28, 29, 30, 31, 44, 45, 46, 47, 48, 49, 50, 51, 52, 53] (by decide +kernel) (by decide +kernel)
set_option maxRecDepth 20000 in
theorem gX1_copyFrom_X0_copyFrom : GoodIn wsX1_copyFrom (wsV RX1 68 RX0 yX0_copyFrom wsX0_copyFrom) := goodIn_app (goodIn_of _ (by decide +kernel)) ggX1_copyFrom_X0_copyFrom
theorem dX1_copyFrom_0 : decode cX1_copyFrom 0 = .ok (.iconst 0, 1) := by decide +kernel
theorem dX1_copyFrom_1 : decode cX1_copyFrom 1 = .ok (.istore_n 2, 1) := by decide +kernel
theorem dX1_copyFrom_2 : decode cX1_copyFrom 2 = .ok (.iload_n 2, 1) := by decide +kernel
theorem dX1_copyFrom_3 : decode cX1_copyFrom 3 = .ok (.bipush 8, 2) := by decide +kernel
theorem dX1_copyFrom_5 : decode cX1_copyFrom 5 = .ok (.if_icmp .ge 24, 3) := by decide +kernel
theorem dX1_copyFrom_8 : decode cX1_copyFrom 8 = .ok (.aload_n 0, 1) := by decide +kernel
theorem dX1_copyFrom_9 : decode cX1_copyFrom 9 = .ok (.getfield 11, 3) := by decide +kernel
theorem dX1_copyFrom_12 : decode cX1_copyFrom 12 = .ok (.iload_n 2, 1) := by decide +kernel
theorem dX1_copyFrom_13 : decode cX1_copyFrom 13 = .ok (.aaload, 1) := by decide +kernel
theorem dX1_copyFrom_14 : decode cX1_copyFrom 14 = .ok (.aload_n 1, 1) := by decide +kernel
theorem dX1_copyFrom_15 : decode cX1_copyFrom 15 = .ok (.getfield 11, 3) := by decide +kernel
theorem dX1_copyFrom_18 : decode cX1_copyFrom 18 = .ok (.iload_n 2, 1) := by decide +kernel
theorem dX1_copyFrom_19 : decode cX1_copyFrom 19 = .ok (.aaload, 1) := by decide +kernel
theorem dX1_copyFrom_20 : decode cX1_copyFrom 20 = .ok (.invokevirtual 68, 3) := by decide +kernel
theorem dX1_copyFrom_23 : decode cX1_copyFrom 23 = .ok (.iinc 2 1, 3) := by decide +kernel
theorem dX1_copyFrom_26 : decode cX1_copyFrom 26 = .ok (.goto (-24), 3) := by decide +kernel
theorem dX1_copyFrom_29 : decode cX1_copyFrom 29 = .ok (.aload_n 1, 1) := by decide +kernel
theorem dX1_copyFrom_30 : decode cX1_copyFrom 30 = .ok (.getfield 17, 3) := by decide +kernel
theorem dX1_copyFrom_33 : decode cX1_copyFrom 33 = .ok (.iconst 0, 1) := by decide +kernel
theorem dX1_copyFrom_34 : decode cX1_copyFrom 34 = .ok (.aload_n 0, 1) := by decide +kernel
theorem dX1_copyFrom_35 : decode cX1_copyFrom 35 = .ok (.getfield 17, 3) := by decide +kernel
theorem dX1_copyFrom_38 : decode cX1_copyFrom 38 = .ok (.iconst 0, 1) := by decide +kernel
theorem dX1_copyFrom_39 : decode cX1_copyFrom 39 = .ok (.bipush 6, 2) := by decide +kernel
theorem dX1_copyFrom_41 : decode cX1_copyFrom 41 = .ok (.invokestatic 72, 3) := by decide +kernel
theorem dX1_copyFrom_44 : decode cX1_copyFrom 44 = .ok (.aload_n 1, 1) := by decide +kernel
theorem dX1_copyFrom_45 : decode cX1_copyFrom 45 = .ok (.getfield 21, 3) := by decide +kernel
theorem dX1_copyFrom_48 : decode cX1_copyFrom 48 = .ok (.iconst 0, 1) := by decide +kernel
theorem dX1_copyFrom_49 : decode cX1_copyFrom 49 = .ok (.aload_n 0, 1) := by decide +kernel
theorem dX1_copyFrom_50 : decode cX1_copyFrom 50 = .ok (.getfield 21, 3) := by decide +kernel
theorem dX1_copyFrom_53 : decode cX1_copyFrom 53 = .ok (.iconst 0, 1) := by decide +kernel
theorem dX1_copyFrom_54 : decode cX1_copyFrom 54 = .ok (.iconst 5, 1) := by decide +kernel
theorem dX1_copyFrom_55 : decode cX1_copyFrom 55 = .ok (.invokestatic 72, 3) := by decide +kernel
theorem dX1_copyFrom_58 : decode cX1_copyFrom 58 = .ok (.aload_n 1, 1) := by decide +kernel
theorem dX1_copyFrom_59 : decode cX1_copyFrom 59 = .ok (.getfield 24, 3) := by decide +kernel
theorem dX1_copyFrom_62 : decode cX1_copyFrom 62 = .ok (.iconst 0, 1) := by decide +kernel
theorem dX1_copyFrom_63 : decode cX1_copyFrom 63 = .ok (.aload_n 0, 1) := by decide +kernel
theorem dX1_copyFrom_64 : decode cX1_copyFrom 64 = .ok (.getfield 24, 3) := by decide +kernel
theorem dX1_copyFrom_67 : decode cX1_copyFrom 67 = .ok (.iconst 0, 1) := by decide +kernel
theorem dX1_copyFrom_68 : decode cX1_copyFrom 68 = .ok (.iconst 5, 1) := by decide +kernel
theorem dX1_copyFrom_69 : decode cX1_copyFrom 69 = .ok (.invokestatic 72, 3) := by decide +kernel
theorem dX1_copyFrom_72 : decode cX1_copyFrom 72 = .ok (.aload_n 1, 1) := by decide +kernel
theorem dX1_copyFrom_73 : decode cX1_copyFrom 73 = .ok (.getfield 27, 3) := by decide +kernel
theorem dX1_copyFrom_76 : decode cX1_copyFrom 76 = .ok (.iconst 0, 1) := by decide +kernel
theorem dX1_copyFrom_77 : decode cX1_copyFrom 77 = .ok (.aload_n 0, 1) := by decide +kernel
theorem dX1_copyFrom_78 : decode cX1_copyFrom 78 = .ok (.getfield 27, 3) := by decide +kernel
theorem dX1_copyFrom_81 : decode cX1_copyFrom 81 = .ok (.iconst 0, 1) := by decide +kernel
theorem dX1_copyFrom_82 : decode cX1_copyFrom 82 = .ok (.bipush 24, 2) := by decide +kernel
theorem dX1_copyFrom_84 : decode cX1_copyFrom 84 = .ok (.invokestatic 72, 3) := by decide +kernel
theorem dX1_copyFrom_87 : decode cX1_copyFrom 87 = .ok (.aload_n 0, 1) := by decide +kernel
theorem dX1_copyFrom_88 : decode cX1_copyFrom 88 = .ok (.aload_n 1, 1) := by decide +kernel
theorem dX1_copyFrom_89 : decode cX1_copyFrom 89 = .ok (.getfield 34, 3) := by decide +kernel
theorem dX1_copyFrom_92 : decode cX1_copyFrom 92 = .ok (.putfield 34, 3) := by decide +kernel
theorem dX1_copyFrom_95 : decode cX1_copyFrom 95 = .ok (.aload_n 0, 1) := by decide +kernel
theorem dX1_copyFrom_96 : decode cX1_copyFrom 96 = .ok (.aload_n 1, 1) := by decide +kernel
theorem dX1_copyFrom_97 : decode cX1_copyFrom 97 = .ok (.getfield 38, 3) := by decide +kernel
theorem dX1_copyFrom_100 : decode cX1_copyFrom 100 = .ok (.putfield 38, 3) := by decide +kernel
theorem dX1_copyFrom_103 : decode cX1_copyFrom 103 = .ok (.aload_n 0, 1) := by decide +kernel
theorem dX1_copyFrom_104 : decode cX1_copyFrom 104 = .ok (.aload_n 1, 1) := by decide +kernel
theorem dX1_copyFrom_105 : decode cX1_copyFrom 105 = .ok (.getfield 41, 3) := by decide +kernel
theorem dX1_copyFrom_108 : decode cX1_copyFrom 108 = .ok (.putfield 41, 3) := by decide +kernel
theorem dX1_copyFrom_111 : decode cX1_copyFrom 111 = .ok (.aload_n 0, 1) := by decide +kernel
theorem dX1_copyFrom_112 : decode cX1_copyFrom 112 = .ok (.aload_n 1, 1) := by decide +kernel
theorem dX1_copyFrom_113 : decode cX1_copyFrom 113 = .ok (.getfield 44, 3) := by decide +kernel
theorem dX1_copyFrom_116 : decode cX1_copyFrom 116 = .ok (.putfield 44, 3) := by decide +kernel
theorem dX1_copyFrom_119 : decode cX1_copyFrom 119 = .ok (.aload_n 0, 1) := by decide +kernel
theorem dX1_copyFrom_120 : decode cX1_copyFrom 120 = .ok (.aload_n 1, 1) := by decide +kernel
theorem dX1_copyFrom_121 : decode cX1_copyFrom 121 = .ok (.getfield 47, 3) := by decide +kernel
theorem dX1_copyFrom_124 : decode cX1_copyFrom 124 = .ok (.putfield 47, 3) := by decide +kernel
theorem dX1_copyFrom_127 : decode cX1_copyFrom 127 = .ok (.aload_n 0, 1) := by decide +kernel
theorem dX1_copyFrom_128 : decode cX1_copyFrom 128 = .ok (.aload_n 1, 1) := by decide +kernel
theorem dX1_copyFrom_129 : decode cX1_copyFrom 129 = .ok (.getfield 50, 3) := by decide +kernel
theorem dX1_copyFrom_132 : decode cX1_copyFrom 132 = .ok (.putfield 50, 3) := by decide +kernel
theorem dX1_copyFrom_135 : decode cX1_copyFrom 135 = .ok (.aload_n 0, 1) := by decide +kernel
theorem dX1_copyFrom_136 : decode cX1_copyFrom 136 = .ok (.aload_n 1, 1) := by decide +kernel
theorem dX1_copyFrom_137 : decode cX1_copyFrom 137 = .ok (.getfield 53, 3) := by decide +kernel
theorem dX1_copyFrom_140 : decode cX1_copyFrom 140 = .ok (.putfield 53, 3) := by decide +kernel
theorem dX1_copyFrom_143 : decode cX1_copyFrom 143 = .ok (.return_, 1) := by decide +kernel
set_option maxRecDepth 20000 in
theorem ggX1_isDoor_X6_isBelow : GoodIn wsX1_isDoor wsX6_isBelow := goodIn_r _ [4] (by decide +kernel) (by decide +kernel)
set_option maxRecDepth 20000 in
theorem gX1_isDoor_X6_isBelow_n78 : GoodIn wsX1_isDoor (wsX6_isBelow) := ggX1_isDoor_X6_isBelow
theorem dX1_isDoor_0 : decode cX1_isDoor 0 = .ok (.iload_n 1, 1) := by decide +kernel
theorem dX1_isDoor_1 : decode cX1_isDoor 1 = .ok (.aload_n 0, 1) := by decide +kernel
theorem dX1_isDoor_2 : decode cX1_isDoor 2 = .ok (.getfield 34, 3) := by decide +kernel
theorem dX1_isDoor_5 : decode cX1_isDoor 5 = .ok (.invokestatic 78, 3) := by decide +kernel
theorem dX1_isDoor_8 : decode cX1_isDoor 8 = .ok (.ireturn, 1) := by decide +kernel
set_option maxRecDepth 20000 in
theorem ggX1_addDoor_X0_makeNew : GoodIn wsX1_addDoor wsX0_makeNew := goodIn_r _ [7, 8, 9, 10, 11, 12, 13, 14, 15, 16, 17, 30, 31, 32, 33, 34, 35, 36, 37, 38, 39] (by decide +kernel) (by decide +kernel)
set_option maxRecDepth 20000 in
theorem gX1_addDoor_X0_makeNew : GoodIn wsX1_addDoor (wsV RX1 82 RX0 yX0_makeNew wsX0_makeNew) := goodIn_app (goodIn_of _ (by decide +kernel)) ggX1_addDoor_X0_makeNew
theorem dX1_addDoor_0 : decode cX1_addDoor 0 = .ok (.aload_n 0, 1) := by decide +kernel
theorem dX1_addDoor_1 : decode cX1_addDoor 1 = .ok (.getfield 11, 3) := by decide +kernel
theorem dX1_addDoor_4 : decode cX1_addDoor 4 = .ok (.aload_n 0, 1) := by decide +kernel
theorem dX1_addDoor_5 : decode cX1_addDoor 5 = .ok (.getfield 34, 3) := by decide +kernel
theorem dX1_addDoor_8 : decode cX1_addDoor 8 = .ok (.aaload, 1) := by decide +kernel
theorem dX1_addDoor_9 : decode cX1_addDoor 9 = .ok (.iload_n 1, 1) := by decide +kernel
theorem dX1_addDoor_10 : decode cX1_addDoor 10 = .ok (.iload_n 2, 1) := by decide +kernel
theorem dX1_addDoor_11 : decode cX1_addDoor 11 = .ok (.iload_n 3, 1) := by decide +kernel
theorem dX1_addDoor_12 : decode cX1_addDoor 12 = .ok (.iload 4, 2) := by decide +kernel
theorem dX1_addDoor_14 : decode cX1_addDoor 14 = .ok (.iload 5, 2) := by decide +kernel
theorem dX1_addDoor_16 : decode cX1_addDoor 16 = .ok (.invokevirtual 82, 3) := by decide +kernel
theorem dX1_addDoor_19 : decode cX1_addDoor 19 = .ok (.aload_n 0, 1) := by decide +kernel
theorem dX1_addDoor_20 : decode cX1_addDoor 20 = .ok (.dup, 1) := by decide +kernel
theorem dX1_addDoor_21 : decode cX1_addDoor 21 = .ok (.getfield 34, 3) := by decide +kernel
theorem dX1_addDoor_24 : decode cX1_addDoor 24 = .ok (.iconst 1, 1) := by decide +kernel
theorem dX1_addDoor_25 : decode cX1_addDoor 25 = .ok (.iadd, 1) := by decide +kernel
theorem dX1_addDoor_26 : decode cX1_addDoor 26 = .ok (.putfield 34, 3) := by decide +kernel
theorem dX1_addDoor_29 : decode cX1_addDoor 29 = .ok (.aload_n 0, 1) := by decide +kernel
theorem dX1_addDoor_30 : decode cX1_addDoor 30 = .ok (.getfield 34, 3) := by decide +kernel
theorem dX1_addDoor_33 : decode cX1_addDoor 33 = .ok (.iconst 1, 1) := by decide +kernel
theorem dX1_addDoor_34 : decode cX1_addDoor 34 = .ok (.isub, 1) := by decide +kernel
theorem dX1_addDoor_35 : decode cX1_addDoor 35 = .ok (.ireturn, 1) := by decide +kernel
theorem dX1_addThreshold_0 : decode cX1_addThreshold 0 = .ok (.aload_n 0, 1) := by decide +kernel
theorem dX1_addThreshold_1 : decode cX1_addThreshold 1 = .ok (.getfield 17, 3) := by decide +kernel
theorem dX1_addThreshold_4 : decode cX1_addThreshold 4 = .ok (.aload_n 0, 1) := by decide +kernel
theorem dX1_addThreshold_5 : decode cX1_addThreshold 5 = .ok (.getfield 38, 3) := by decide +kernel
theorem dX1_addThreshold_8 : decode cX1_addThreshold 8 = .ok (.iload_n 1, 1) := by decide +kernel
theorem dX1_addThreshold_9 : decode cX1_addThreshold 9 = .ok (.iastore, 1) := by decide +kernel
theorem dX1_addThreshold_10 : decode cX1_addThreshold 10 = .ok (.aload_n 0, 1) := by decide +kernel
theorem dX1_addThreshold_11 : decode cX1_addThreshold 11 = .ok (.dup, 1) := by decide +kernel
theorem dX1_addThreshold_12 : decode cX1_addThreshold 12 = .ok (.getfield 38, 3) := by decide +kernel
theorem dX1_addThreshold_15 : decode cX1_addThreshold 15 = .ok (.iconst 1, 1) := by decide +kernel
theorem dX1_addThreshold_16 : decode cX1_addThreshold 16 = .ok (.iadd, 1) := by decide +kernel
theorem dX1_addThreshold_17 : decode cX1_addThreshold 17 = .ok (.putfield 38, 3) := by decide +kernel
theorem dX1_addThreshold_20 : decode cX1_addThreshold 20 = .ok (.aload_n 0, 1) := by decide +kernel
theorem dX1_addThreshold_21 : decode cX1_addThreshold 21 = .ok (.getfield 38, 3) := by decide +kernel
theorem dX1_addThreshold_24 : decode cX1_addThreshold 24 = .ok (.iconst 1, 1) := by decide +kernel
theorem dX1_addThreshold_25 : decode cX1_addThreshold 25 = .ok (.isub, 1) := by decide +kernel
theorem dX1_addThreshold_26 : decode cX1_addThreshold 26 = .ok (.ireturn, 1) := by decide +kernel
theorem dX1_changeGoverned_0 : decode cX1_changeGoverned 0 = .ok (.aload_n 0, 1) := by decide +kernel
theorem dX1_changeGoverned_1 : decode cX1_changeGoverned 1 = .ok (.getfield 17, 3) := by decide +kernel
theorem dX1_changeGoverned_4 : decode cX1_changeGoverned 4 = .ok (.iload_n 1, 1) := by decide +kernel
theorem dX1_changeGoverned_5 : decode cX1_changeGoverned 5 = .ok (.iaload, 1) := by decide +kernel
theorem dX1_changeGoverned_6 : decode cX1_changeGoverned 6 = .ok (.istore_n 3, 1) := by decide +kernel
theorem dX1_changeGoverned_7 : decode cX1_changeGoverned 7 = .ok (.aload_n 0, 1) := by decide +kernel
theorem dX1_changeGoverned_8 : decode cX1_changeGoverned 8 = .ok (.getfield 17, 3) := by decide +kernel
theorem dX1_changeGoverned_11 : decode cX1_changeGoverned 11 = .ok (.iload_n 1, 1) := by decide +kernel
theorem dX1_changeGoverned_12 : decode cX1_changeGoverned 12 = .ok (.iload_n 2, 1) := by decide +kernel
theorem dX1_changeGoverned_13 : decode cX1_changeGoverned 13 = .ok (.iastore, 1) := by decide +kernel
theorem dX1_changeGoverned_14 : decode cX1_changeGoverned 14 = .ok (.iload_n 3, 1) := by decide +kernel
theorem dX1_changeGoverned_15 : decode cX1_changeGoverned 15 = .ok (.ireturn, 1) := by decide +kernel
set_option maxRecDepth 20000 in
theorem ggX1_putOn_X1_caseOf : GoodIn wsX1_putOn wsX1_caseOf := goodIn_ca (goodIn_r _ [7, 2, 8, 9, 10, 11, 12, 25, 26, 27, 28, 29, 30, 31, 32, 33, 34, 13, 14, 15, 16, 17, 18, 19, 20, 21, 22, 23, 24] (by decide +kernel) (by decide +kernel)) (goodIn_sub (fun _ h => List.mem_cons_of_mem _ (List.mem_append_right _ h)) (by decide +kernel))
set_option maxRecDepth 20000 in
theorem gX1_putOn_X1_caseOf : GoodIn wsX1_putOn (wsV RX1 88 RX1 yX1_caseOf wsX1_caseOf) := goodIn_app (goodIn_of _ (by decide +kernel)) ggX1_putOn_X1_caseOf
theorem dX1_putOn_0 : decode cX1_putOn 0 = .ok (.aload_n 0, 1) := by decide +kernel
theorem dX1_putOn_1 : decode cX1_putOn 1 = .ok (.getfield 11, 3) := by decide +kernel
theorem dX1_putOn_4 : decode cX1_putOn 4 = .ok (.iload_n 1, 1) := by decide +kernel
theorem dX1_putOn_5 : decode cX1_putOn 5 = .ok (.aaload, 1) := by decide +kernel
theorem dX1_putOn_6 : decode cX1_putOn 6 = .ok (.iload_n 2, 1) := by decide +kernel
theorem dX1_putOn_7 : decode cX1_putOn 7 = .ok (.putfield 85, 3) := by decide +kernel
theorem dX1_putOn_10 : decode cX1_putOn 10 = .ok (.aload_n 0, 1) := by decide +kernel
theorem dX1_putOn_11 : decode cX1_putOn 11 = .ok (.aload_n 0, 1) := by decide +kernel
theorem dX1_putOn_12 : decode cX1_putOn 12 = .ok (.getfield 11, 3) := by decide +kernel
theorem dX1_putOn_15 : decode cX1_putOn 15 = .ok (.iload_n 1, 1) := by decide +kernel
theorem dX1_putOn_16 : decode cX1_putOn 16 = .ok (.aaload, 1) := by decide +kernel
theorem dX1_putOn_17 : decode cX1_putOn 17 = .ok (.invokevirtual 88, 3) := by decide +kernel
theorem dX1_putOn_20 : decode cX1_putOn 20 = .ok (.ireturn, 1) := by decide +kernel
theorem dX1_doorsOn_0 : decode cX1_doorsOn 0 = .ok (.iconst 0, 1) := by decide +kernel
theorem dX1_doorsOn_1 : decode cX1_doorsOn 1 = .ok (.istore_n 2, 1) := by decide +kernel
theorem dX1_doorsOn_2 : decode cX1_doorsOn 2 = .ok (.iconst 0, 1) := by decide +kernel
theorem dX1_doorsOn_3 : decode cX1_doorsOn 3 = .ok (.istore_n 3, 1) := by decide +kernel
theorem dX1_doorsOn_4 : decode cX1_doorsOn 4 = .ok (.iload_n 3, 1) := by decide +kernel
theorem dX1_doorsOn_5 : decode cX1_doorsOn 5 = .ok (.aload_n 0, 1) := by decide +kernel
theorem dX1_doorsOn_6 : decode cX1_doorsOn 6 = .ok (.getfield 34, 3) := by decide +kernel
theorem dX1_doorsOn_9 : decode cX1_doorsOn 9 = .ok (.if_icmp .ge 25, 3) := by decide +kernel
theorem dX1_doorsOn_12 : decode cX1_doorsOn 12 = .ok (.aload_n 0, 1) := by decide +kernel
theorem dX1_doorsOn_13 : decode cX1_doorsOn 13 = .ok (.getfield 11, 3) := by decide +kernel
theorem dX1_doorsOn_16 : decode cX1_doorsOn 16 = .ok (.iload_n 3, 1) := by decide +kernel
theorem dX1_doorsOn_17 : decode cX1_doorsOn 17 = .ok (.aaload, 1) := by decide +kernel
theorem dX1_doorsOn_18 : decode cX1_doorsOn 18 = .ok (.getfield 85, 3) := by decide +kernel
theorem dX1_doorsOn_21 : decode cX1_doorsOn 21 = .ok (.iload_n 1, 1) := by decide +kernel
theorem dX1_doorsOn_22 : decode cX1_doorsOn 22 = .ok (.if_icmp .ne 6, 3) := by decide +kernel
theorem dX1_doorsOn_25 : decode cX1_doorsOn 25 = .ok (.iinc 2 1, 3) := by decide +kernel
theorem dX1_doorsOn_28 : decode cX1_doorsOn 28 = .ok (.iinc 3 1, 3) := by decide +kernel
theorem dX1_doorsOn_31 : decode cX1_doorsOn 31 = .ok (.goto (-27), 3) := by decide +kernel
theorem dX1_doorsOn_34 : decode cX1_doorsOn 34 = .ok (.iload_n 2, 1) := by decide +kernel
theorem dX1_doorsOn_35 : decode cX1_doorsOn 35 = .ok (.ireturn, 1) := by decide +kernel
theorem dX1_letterPlace_0 : decode cX1_letterPlace 0 = .ok (.iload_n 0, 1) := by decide +kernel
theorem dX1_letterPlace_1 : decode cX1_letterPlace 1 = .ok (.iconst 4, 1) := by decide +kernel
theorem dX1_letterPlace_2 : decode cX1_letterPlace 2 = .ok (.imul, 1) := by decide +kernel
theorem dX1_letterPlace_3 : decode cX1_letterPlace 3 = .ok (.iload_n 1, 1) := by decide +kernel
theorem dX1_letterPlace_4 : decode cX1_letterPlace 4 = .ok (.iadd, 1) := by decide +kernel
theorem dX1_letterPlace_5 : decode cX1_letterPlace 5 = .ok (.iconst 2, 1) := by decide +kernel
theorem dX1_letterPlace_6 : decode cX1_letterPlace 6 = .ok (.imul, 1) := by decide +kernel
theorem dX1_letterPlace_7 : decode cX1_letterPlace 7 = .ok (.iload_n 2, 1) := by decide +kernel
theorem dX1_letterPlace_8 : decode cX1_letterPlace 8 = .ok (.iadd, 1) := by decide +kernel
theorem dX1_letterPlace_9 : decode cX1_letterPlace 9 = .ok (.ireturn, 1) := by decide +kernel
set_option maxRecDepth 20000 in
theorem ggX1_letterAt_X1_letterPlace : GoodIn wsX1_letterAt wsX1_letterPlace := goodIn_r _ [5] (by decide +kernel) (by decide +kernel)
set_option maxRecDepth 20000 in
theorem gX1_letterAt_X1_letterPlace : GoodIn wsX1_letterAt (va_wsS RX1 56 yX1_letterPlace wsX1_letterPlace) := goodIn_app (goodIn_of _ (by decide +kernel)) ggX1_letterAt_X1_letterPlace
theorem dX1_letterAt_0 : decode cX1_letterAt 0 = .ok (.aload_n 0, 1) := by decide +kernel
theorem dX1_letterAt_1 : decode cX1_letterAt 1 = .ok (.getfield 27, 3) := by decide +kernel
theorem dX1_letterAt_4 : decode cX1_letterAt 4 = .ok (.iload_n 1, 1) := by decide +kernel
theorem dX1_letterAt_5 : decode cX1_letterAt 5 = .ok (.iload_n 2, 1) := by decide +kernel
theorem dX1_letterAt_6 : decode cX1_letterAt 6 = .ok (.iload_n 3, 1) := by decide +kernel
theorem dX1_letterAt_7 : decode cX1_letterAt 7 = .ok (.invokestatic 56, 3) := by decide +kernel
theorem dX1_letterAt_10 : decode cX1_letterAt 10 = .ok (.iaload, 1) := by decide +kernel
theorem dX1_letterAt_11 : decode cX1_letterAt 11 = .ok (.ireturn, 1) := by decide +kernel
set_option maxRecDepth 20000 in
theorem ggX1_signAt_X1_letterAt : GoodIn wsX1_signAt wsX1_letterAt := goodIn_ca (goodIn_r _ [5, 6, 7, 8, 4, 9, 10, 11, 12, 13, 14, 15, 16, 17, 18, 19, 20, 21] (by decide +kernel) (by decide +kernel)) (goodIn_sub (fun _ h => List.mem_cons_of_mem _ (List.mem_append_right _ h)) (by decide +kernel))
set_option maxRecDepth 20000 in
theorem gX1_signAt_X1_letterAt : GoodIn wsX1_signAt (wsV RX1 92 RX1 yX1_letterAt wsX1_letterAt) := goodIn_app (goodIn_of _ (by decide +kernel)) ggX1_signAt_X1_letterAt
theorem dX1_signAt_0 : decode cX1_signAt 0 = .ok (.bipush 97, 2) := by decide +kernel
theorem dX1_signAt_2 : decode cX1_signAt 2 = .ok (.aload_n 0, 1) := by decide +kernel
theorem dX1_signAt_3 : decode cX1_signAt 3 = .ok (.iload_n 1, 1) := by decide +kernel
theorem dX1_signAt_4 : decode cX1_signAt 4 = .ok (.iload_n 2, 1) := by decide +kernel
theorem dX1_signAt_5 : decode cX1_signAt 5 = .ok (.iload_n 3, 1) := by decide +kernel
theorem dX1_signAt_6 : decode cX1_signAt 6 = .ok (.invokevirtual 92, 3) := by decide +kernel
theorem dX1_signAt_9 : decode cX1_signAt 9 = .ok (.iadd, 1) := by decide +kernel
theorem dX1_signAt_10 : decode cX1_signAt 10 = .ok (.i2c, 1) := by decide +kernel
theorem dX1_signAt_11 : decode cX1_signAt 11 = .ok (.ireturn, 1) := by decide +kernel
set_option maxRecDepth 20000 in
theorem ggX1_changeLetter_X1_letterAt : GoodIn wsX1_changeLetter wsX1_letterAt := goodIn_ca (goodIn_r _ [6, 1, 7, 8, 5, 9, 10, 11, 12, 13, 14, 15, 16, 17, 18, 19, 20, 21] (by decide +kernel) (by decide +kernel)) (goodIn_sub (fun _ h => List.mem_cons_of_mem _ (List.mem_append_right _ h)) (by decide +kernel))
set_option maxRecDepth 20000 in
theorem gX1_changeLetter_X1_letterAt : GoodIn wsX1_changeLetter (wsV RX1 92 RX1 yX1_letterAt wsX1_letterAt) := goodIn_app (goodIn_of _ (by decide +kernel)) ggX1_changeLetter_X1_letterAt
set_option maxRecDepth 20000 in
theorem ggX1_changeLetter_X1_letterPlace : GoodIn wsX1_changeLetter wsX1_letterPlace := goodIn_r _ [9] (by decide +kernel) (by decide +kernel)
set_option maxRecDepth 20000 in
theorem gX1_changeLetter_X1_letterPlace : GoodIn wsX1_changeLetter (va_wsS RX1 56 yX1_letterPlace wsX1_letterPlace) := goodIn_app (goodIn_of _ (by decide +kernel)) ggX1_changeLetter_X1_letterPlace
theorem dX1_changeLetter_0 : decode cX1_changeLetter 0 = .ok (.aload_n 0, 1) := by decide +kernel
theorem dX1_changeLetter_1 : decode cX1_changeLetter 1 = .ok (.iload_n 1, 1) := by decide +kernel
theorem dX1_changeLetter_2 : decode cX1_changeLetter 2 = .ok (.iload_n 2, 1) := by decide +kernel
theorem dX1_changeLetter_3 : decode cX1_changeLetter 3 = .ok (.iload_n 3, 1) := by decide +kernel
theorem dX1_changeLetter_4 : decode cX1_changeLetter 4 = .ok (.invokevirtual 92, 3) := by decide +kernel
theorem dX1_changeLetter_7 : decode cX1_changeLetter 7 = .ok (.istore 5, 2) := by decide +kernel
theorem dX1_changeLetter_9 : decode cX1_changeLetter 9 = .ok (.aload_n 0, 1) := by decide +kernel
theorem dX1_changeLetter_10 : decode cX1_changeLetter 10 = .ok (.getfield 27, 3) := by decide +kernel
theorem dX1_changeLetter_13 : decode cX1_changeLetter 13 = .ok (.iload_n 1, 1) := by decide +kernel
theorem dX1_changeLetter_14 : decode cX1_changeLetter 14 = .ok (.iload_n 2, 1) := by decide +kernel
theorem dX1_changeLetter_15 : decode cX1_changeLetter 15 = .ok (.iload_n 3, 1) := by decide +kernel
theorem dX1_changeLetter_16 : decode cX1_changeLetter 16 = .ok (.invokestatic 56, 3) := by decide +kernel
theorem dX1_changeLetter_19 : decode cX1_changeLetter 19 = .ok (.iload 4, 2) := by decide +kernel
theorem dX1_changeLetter_21 : decode cX1_changeLetter 21 = .ok (.iastore, 1) := by decide +kernel
theorem dX1_changeLetter_22 : decode cX1_changeLetter 22 = .ok (.iload 5, 2) := by decide +kernel
theorem dX1_changeLetter_24 : decode cX1_changeLetter 24 = .ok (.ireturn, 1) := by decide +kernel
theorem dX1_placesWith_0 : decode cX1_placesWith 0 = .ok (.iconst 0, 1) := by decide +kernel
theorem dX1_placesWith_1 : decode cX1_placesWith 1 = .ok (.istore_n 2, 1) := by decide +kernel
theorem dX1_placesWith_2 : decode cX1_placesWith 2 = .ok (.iconst 0, 1) := by decide +kernel
theorem dX1_placesWith_3 : decode cX1_placesWith 3 = .ok (.istore_n 3, 1) := by decide +kernel
theorem dX1_placesWith_4 : decode cX1_placesWith 4 = .ok (.iload_n 3, 1) := by decide +kernel
theorem dX1_placesWith_5 : decode cX1_placesWith 5 = .ok (.aload_n 0, 1) := by decide +kernel
theorem dX1_placesWith_6 : decode cX1_placesWith 6 = .ok (.getfield 27, 3) := by decide +kernel
theorem dX1_placesWith_9 : decode cX1_placesWith 9 = .ok (.arraylength, 1) := by decide +kernel
theorem dX1_placesWith_10 : decode cX1_placesWith 10 = .ok (.if_icmp .ge 22, 3) := by decide +kernel
theorem dX1_placesWith_13 : decode cX1_placesWith 13 = .ok (.aload_n 0, 1) := by decide +kernel
theorem dX1_placesWith_14 : decode cX1_placesWith 14 = .ok (.getfield 27, 3) := by decide +kernel
theorem dX1_placesWith_17 : decode cX1_placesWith 17 = .ok (.iload_n 3, 1) := by decide +kernel
theorem dX1_placesWith_18 : decode cX1_placesWith 18 = .ok (.iaload, 1) := by decide +kernel
theorem dX1_placesWith_19 : decode cX1_placesWith 19 = .ok (.iload_n 1, 1) := by decide +kernel
theorem dX1_placesWith_20 : decode cX1_placesWith 20 = .ok (.if_icmp .ne 6, 3) := by decide +kernel
theorem dX1_placesWith_23 : decode cX1_placesWith 23 = .ok (.iinc 2 1, 3) := by decide +kernel
theorem dX1_placesWith_26 : decode cX1_placesWith 26 = .ok (.iinc 3 1, 3) := by decide +kernel
theorem dX1_placesWith_29 : decode cX1_placesWith 29 = .ok (.goto (-25), 3) := by decide +kernel
theorem dX1_placesWith_32 : decode cX1_placesWith 32 = .ok (.iload_n 2, 1) := by decide +kernel
theorem dX1_placesWith_33 : decode cX1_placesWith 33 = .ok (.ireturn, 1) := by decide +kernel
set_option maxRecDepth 20000 in
theorem ggX1_unlikeEndings_X1_placesWith : GoodIn wsX1_unlikeEndings wsX1_placesWith := goodIn_ca (goodIn_r _ [5, 6, 7, 8, 9, 10, 11, 12, 13, 14, 15, 16, 17, 18] (by decide +kernel) (by decide +kernel)) (goodIn_sub (fun _ h => List.mem_cons_of_mem _ (List.mem_append_right _ h)) (by decide +kernel))
set_option maxRecDepth 20000 in
theorem gX1_unlikeEndings_X1_placesWith : GoodIn wsX1_unlikeEndings (wsV RX1 95 RX1 yX1_placesWith wsX1_placesWith) := goodIn_app (goodIn_of _ (by decide +kernel)) ggX1_unlikeEndings_X1_placesWith
theorem dX1_unlikeEndings_0 : decode cX1_unlikeEndings 0 = .ok (.iconst 0, 1) := by decide +kernel
theorem dX1_unlikeEndings_1 : decode cX1_unlikeEndings 1 = .ok (.istore_n 1, 1) := by decide +kernel
theorem dX1_unlikeEndings_2 : decode cX1_unlikeEndings 2 = .ok (.iconst 0, 1) := by decide +kernel
theorem dX1_unlikeEndings_3 : decode cX1_unlikeEndings 3 = .ok (.istore_n 2, 1) := by decide +kernel
theorem dX1_unlikeEndings_4 : decode cX1_unlikeEndings 4 = .ok (.iload_n 2, 1) := by decide +kernel
theorem dX1_unlikeEndings_5 : decode cX1_unlikeEndings 5 = .ok (.bipush 26, 2) := by decide +kernel
theorem dX1_unlikeEndings_7 : decode cX1_unlikeEndings 7 = .ok (.if_icmp .ge 20, 3) := by decide +kernel
theorem dX1_unlikeEndings_10 : decode cX1_unlikeEndings 10 = .ok (.aload_n 0, 1) := by decide +kernel
theorem dX1_unlikeEndings_11 : decode cX1_unlikeEndings 11 = .ok (.iload_n 2, 1) := by decide +kernel
theorem dX1_unlikeEndings_12 : decode cX1_unlikeEndings 12 = .ok (.invokevirtual 95, 3) := by decide +kernel
theorem dX1_unlikeEndings_15 : decode cX1_unlikeEndings 15 = .ok (.ifCond .le 6, 3) := by decide +kernel
theorem dX1_unlikeEndings_18 : decode cX1_unlikeEndings 18 = .ok (.iinc 1 1, 3) := by decide +kernel
theorem dX1_unlikeEndings_21 : decode cX1_unlikeEndings 21 = .ok (.iinc 2 1, 3) := by decide +kernel
theorem dX1_unlikeEndings_24 : decode cX1_unlikeEndings 24 = .ok (.goto (-20), 3) := by decide +kernel
theorem dX1_unlikeEndings_27 : decode cX1_unlikeEndings 27 = .ok (.iload_n 1, 1) := by decide +kernel
theorem dX1_unlikeEndings_28 : decode cX1_unlikeEndings 28 = .ok (.ireturn, 1) := by decide +kernel
set_option maxRecDepth 20000 in
theorem ggX1_caseOf_X6_isBelow : GoodIn wsX1_caseOf wsX6_isBelow := goodIn_r _ [6] (by decide +kernel) (by decide +kernel)
set_option maxRecDepth 20000 in
theorem gX1_caseOf_X6_isBelow_n78 : GoodIn wsX1_caseOf (wsX6_isBelow) := ggX1_caseOf_X6_isBelow
theorem dX1_caseOf_0 : decode cX1_caseOf 0 = .ok (.aload_n 1, 1) := by decide +kernel
theorem dX1_caseOf_1 : decode cX1_caseOf 1 = .ok (.getfield 85, 3) := by decide +kernel
theorem dX1_caseOf_4 : decode cX1_caseOf 4 = .ok (.aload_n 0, 1) := by decide +kernel
theorem dX1_caseOf_5 : decode cX1_caseOf 5 = .ok (.getfield 38, 3) := by decide +kernel
theorem dX1_caseOf_8 : decode cX1_caseOf 8 = .ok (.invokestatic 78, 3) := by decide +kernel
theorem dX1_caseOf_11 : decode cX1_caseOf 11 = .ok (.ifCond .eq 15, 3) := by decide +kernel
theorem dX1_caseOf_14 : decode cX1_caseOf 14 = .ok (.aload_n 0, 1) := by decide +kernel
theorem dX1_caseOf_15 : decode cX1_caseOf 15 = .ok (.getfield 17, 3) := by decide +kernel
theorem dX1_caseOf_18 : decode cX1_caseOf 18 = .ok (.aload_n 1, 1) := by decide +kernel
theorem dX1_caseOf_19 : decode cX1_caseOf 19 = .ok (.getfield 85, 3) := by decide +kernel
theorem dX1_caseOf_22 : decode cX1_caseOf 22 = .ok (.iaload, 1) := by decide +kernel
theorem dX1_caseOf_23 : decode cX1_caseOf 23 = .ok (.goto 4, 3) := by decide +kernel
theorem dX1_caseOf_26 : decode cX1_caseOf 26 = .ok (.iconst 0, 1) := by decide +kernel
theorem dX1_caseOf_27 : decode cX1_caseOf 27 = .ok (.ireturn, 1) := by decide +kernel
set_option maxRecDepth 20000 in
theorem ggX1_letterOf_X1_caseOf : GoodIn wsX1_letterOf wsX1_caseOf := goodIn_ca (goodIn_r _ [7, 8, 9, 10, 11, 12, 13, 22, 23, 24, 25, 26, 27, 28, 29, 30, 31, 32, 33, 34, 35, 36, 37, 38, 39, 40, 41, 42, 43] (by decide +kernel) (by decide +kernel)) (goodIn_sub (fun _ h => List.mem_cons_of_mem _ (List.mem_append_right _ h)) (by decide +kernel))
set_option maxRecDepth 20000 in
theorem gX1_letterOf_X1_caseOf : GoodIn wsX1_letterOf (wsV RX1 88 RX1 yX1_caseOf wsX1_caseOf) := goodIn_app (goodIn_of _ (by decide +kernel)) ggX1_letterOf_X1_caseOf
set_option maxRecDepth 20000 in
theorem ggX1_letterOf_X1_letterAt : GoodIn wsX1_letterOf wsX1_letterAt := goodIn_ca (goodIn_r _ [17, 18, 19, 20, 6, 21, 32, 33, 34, 35, 36, 37, 38, 39, 40, 41, 42, 43] (by decide +kernel) (by decide +kernel)) (goodIn_sub (fun _ h => List.mem_cons_of_mem _ (List.mem_append_right _ h)) (by decide +kernel))
set_option maxRecDepth 20000 in
theorem gX1_letterOf_X1_letterAt : GoodIn wsX1_letterOf (wsV RX1 92 RX1 yX1_letterAt wsX1_letterAt) := goodIn_app (goodIn_of _ (by decide +kernel)) ggX1_letterOf_X1_letterAt
theorem dX1_letterOf_0 : decode cX1_letterOf 0 = .ok (.aload_n 0, 1) := by decide +kernel
theorem dX1_letterOf_1 : decode cX1_letterOf 1 = .ok (.aload_n 1, 1) := by decide +kernel
theorem dX1_letterOf_2 : decode cX1_letterOf 2 = .ok (.getfield 99, 3) := by decide +kernel
theorem dX1_letterOf_5 : decode cX1_letterOf 5 = .ok (.aload_n 0, 1) := by decide +kernel
theorem dX1_letterOf_6 : decode cX1_letterOf 6 = .ok (.aload_n 1, 1) := by decide +kernel
theorem dX1_letterOf_7 : decode cX1_letterOf 7 = .ok (.invokevirtual 88, 3) := by decide +kernel
theorem dX1_letterOf_10 : decode cX1_letterOf 10 = .ok (.aload_n 1, 1) := by decide +kernel
theorem dX1_letterOf_11 : decode cX1_letterOf 11 = .ok (.getfield 102, 3) := by decide +kernel
theorem dX1_letterOf_14 : decode cX1_letterOf 14 = .ok (.invokevirtual 92, 3) := by decide +kernel
theorem dX1_letterOf_17 : decode cX1_letterOf 17 = .ok (.ireturn, 1) := by decide +kernel
set_option maxRecDepth 20000 in
theorem ggX1_casesLikeOwn_X1_letterAt : GoodIn wsX1_casesLikeOwn wsX1_letterAt := goodIn_ca (goodIn_r _ [7, 8, 9, 10, 6, 11, 36, 37, 38, 39, 40, 41, 42, 43, 44, 45, 46, 47] (by decide +kernel) (by decide +kernel)) (goodIn_sub (fun _ h => List.mem_cons_of_mem _ (List.mem_append_right _ h)) (by decide +kernel))
set_option maxRecDepth 20000 in
theorem gX1_casesLikeOwn_X1_letterAt : GoodIn wsX1_casesLikeOwn (wsV RX1 92 RX1 yX1_letterAt wsX1_letterAt) := goodIn_app (goodIn_of _ (by decide +kernel)) ggX1_casesLikeOwn_X1_letterAt
set_option maxRecDepth 20000 in
theorem ggX1_casesLikeOwn_X1_letterOf : GoodIn wsX1_casesLikeOwn wsX1_letterOf := goodIn_ca (goodIn_r _ [15, 1, 2, 16, 17, 18, 6, 19, 20, 21, 22, 23, 24, 25, 3, 4, 5, 7, 8, 9, 10, 11, 26, 27, 28, 29, 30, 31, 32, 33, 34, 35, 36, 37, 38, 39, 40, 41, 42, 43, 44, 45, 46, 47] (by decide +kernel) (by decide +kernel)) (goodIn_sub (fun _ h => List.mem_cons_of_mem _ (List.mem_append_right _ h)) (by decide +kernel))
set_option maxRecDepth 20000 in
theorem gX1_casesLikeOwn_X1_letterOf : GoodIn wsX1_casesLikeOwn (wsV RX1 105 RX1 yX1_letterOf wsX1_letterOf) := goodIn_app (goodIn_of _ (by decide +kernel)) ggX1_casesLikeOwn_X1_letterOf
theorem dX1_casesLikeOwn_0 : decode cX1_casesLikeOwn 0 = .ok (.iconst 0, 1) := by decide +kernel
theorem dX1_casesLikeOwn_1 : decode cX1_casesLikeOwn 1 = .ok (.istore_n 2, 1) := by decide +kernel
theorem dX1_casesLikeOwn_2 : decode cX1_casesLikeOwn 2 = .ok (.iconst 0, 1) := by decide +kernel
theorem dX1_casesLikeOwn_3 : decode cX1_casesLikeOwn 3 = .ok (.istore_n 3, 1) := by decide +kernel
theorem dX1_casesLikeOwn_4 : decode cX1_casesLikeOwn 4 = .ok (.iload_n 3, 1) := by decide +kernel
theorem dX1_casesLikeOwn_5 : decode cX1_casesLikeOwn 5 = .ok (.iconst 4, 1) := by decide +kernel
theorem dX1_casesLikeOwn_6 : decode cX1_casesLikeOwn 6 = .ok (.if_icmp .ge 36, 3) := by decide +kernel
theorem dX1_casesLikeOwn_9 : decode cX1_casesLikeOwn 9 = .ok (.aload_n 0, 1) := by decide +kernel
theorem dX1_casesLikeOwn_10 : decode cX1_casesLikeOwn 10 = .ok (.aload_n 1, 1) := by decide +kernel
theorem dX1_casesLikeOwn_11 : decode cX1_casesLikeOwn 11 = .ok (.getfield 99, 3) := by decide +kernel
theorem dX1_casesLikeOwn_14 : decode cX1_casesLikeOwn 14 = .ok (.iload_n 3, 1) := by decide +kernel
theorem dX1_casesLikeOwn_15 : decode cX1_casesLikeOwn 15 = .ok (.aload_n 1, 1) := by decide +kernel
theorem dX1_casesLikeOwn_16 : decode cX1_casesLikeOwn 16 = .ok (.getfield 102, 3) := by decide +kernel
theorem dX1_casesLikeOwn_19 : decode cX1_casesLikeOwn 19 = .ok (.invokevirtual 92, 3) := by decide +kernel
theorem dX1_casesLikeOwn_22 : decode cX1_casesLikeOwn 22 = .ok (.aload_n 0, 1) := by decide +kernel
theorem dX1_casesLikeOwn_23 : decode cX1_casesLikeOwn 23 = .ok (.aload_n 1, 1) := by decide +kernel
theorem dX1_casesLikeOwn_24 : decode cX1_casesLikeOwn 24 = .ok (.invokevirtual 105, 3) := by decide +kernel
theorem dX1_casesLikeOwn_27 : decode cX1_casesLikeOwn 27 = .ok (.if_icmp .ne 9, 3) := by decide +kernel
theorem dX1_casesLikeOwn_30 : decode cX1_casesLikeOwn 30 = .ok (.iload_n 2, 1) := by decide +kernel
theorem dX1_casesLikeOwn_31 : decode cX1_casesLikeOwn 31 = .ok (.iconst 1, 1) := by decide +kernel
theorem dX1_casesLikeOwn_32 : decode cX1_casesLikeOwn 32 = .ok (.iload_n 3, 1) := by decide +kernel
theorem dX1_casesLikeOwn_33 : decode cX1_casesLikeOwn 33 = .ok (.ishl, 1) := by decide +kernel
theorem dX1_casesLikeOwn_34 : decode cX1_casesLikeOwn 34 = .ok (.ior, 1) := by decide +kernel
theorem dX1_casesLikeOwn_35 : decode cX1_casesLikeOwn 35 = .ok (.istore_n 2, 1) := by decide +kernel
theorem dX1_casesLikeOwn_36 : decode cX1_casesLikeOwn 36 = .ok (.iinc 3 1, 3) := by decide +kernel
theorem dX1_casesLikeOwn_39 : decode cX1_casesLikeOwn 39 = .ok (.goto (-35), 3) := by decide +kernel
theorem dX1_casesLikeOwn_42 : decode cX1_casesLikeOwn 42 = .ok (.iload_n 2, 1) := by decide +kernel
theorem dX1_casesLikeOwn_43 : decode cX1_casesLikeOwn 43 = .ok (.ireturn, 1) := by decide +kernel
set_option maxRecDepth 20000 in
theorem ggX1_formSign_J0_charAt_5068e : GoodIn wsX1_formSign wsJ0_charAt_5068e := goodIn_r _ [8, 9, 10, 11, 12, 7, 13, 14, 15, 16, 17, 18, 19, 20, 21, 22, 23, 24, 25, 26, 27, 28, 29, 30, 31, 32, 33, 34, 35, 36, 37, 38, 39, 40, 41, 42, 43, 44, 78, 79, 80, 81] (by decide +kernel) (by decide +kernel)
set_option maxRecDepth 20000 in
theorem gX1_formSign_J0_charAt_5068e : GoodIn wsX1_formSign (wsV RX1 62 RJ0 yJ0_charAt_5068e wsJ0_charAt_5068e) := goodIn_app (goodIn_of _ (by decide +kernel)) ggX1_formSign_J0_charAt_5068e
set_option maxRecDepth 20000 in
theorem ggX1_formSign_X1_caseOf : GoodIn wsX1_formSign wsX1_caseOf := goodIn_ca (goodIn_r _ [49, 50, 51, 52, 53, 54, 55, 68, 69, 70, 71, 72, 73, 74, 75, 76, 77, 82, 83, 84, 85, 86, 87, 88, 89, 90, 91, 92, 93] (by decide +kernel) (by decide +kernel)) (goodIn_sub (fun _ h => List.mem_cons_of_mem _ (List.mem_append_right _ h)) (by decide +kernel))
set_option maxRecDepth 20000 in
theorem gX1_formSign_X1_caseOf : GoodIn wsX1_formSign (wsV RX1 88 RX1 yX1_caseOf wsX1_caseOf) := goodIn_app (goodIn_of _ (by decide +kernel)) ggX1_formSign_X1_caseOf
set_option maxRecDepth 20000 in
theorem ggX1_formSign_X1_signAt : GoodIn wsX1_formSign wsX1_signAt := goodIn_ca (goodIn_r _ [59, 60, 61, 62, 48, 63, 64, 65, 66, 67, 82, 83, 84, 85, 86, 87, 88, 89, 90, 91, 92, 93] (by decide +kernel) (by decide +kernel)) (goodIn_sub (fun _ h => List.mem_cons_of_mem _ (List.mem_append_right _ h)) (by decide +kernel))
set_option maxRecDepth 20000 in
theorem gX1_formSign_X1_signAt : GoodIn wsX1_formSign (wsV RX1 115 RX1 yX1_signAt wsX1_signAt) := goodIn_app (goodIn_of _ (by decide +kernel)) ggX1_formSign_X1_signAt
theorem dX1_formSign_0 : decode cX1_formSign 0 = .ok (.iload_n 2, 1) := by decide +kernel
theorem dX1_formSign_1 : decode cX1_formSign 1 = .ok (.lookupswitch 47 #[(0, 27), (1, 37)], 27) := by decide +kernel
theorem dX1_formSign_28 : decode cX1_formSign 28 = .ok (.ldc 108, 2) := by decide +kernel
theorem dX1_formSign_30 : decode cX1_formSign 30 = .ok (.aload_n 1, 1) := by decide +kernel
theorem dX1_formSign_31 : decode cX1_formSign 31 = .ok (.getfield 110, 3) := by decide +kernel
theorem dX1_formSign_34 : decode cX1_formSign 34 = .ok (.invokevirtual 62, 3) := by decide +kernel
theorem dX1_formSign_37 : decode cX1_formSign 37 = .ok (.ireturn, 1) := by decide +kernel
theorem dX1_formSign_38 : decode cX1_formSign 38 = .ok (.ldc 113, 2) := by decide +kernel
theorem dX1_formSign_40 : decode cX1_formSign 40 = .ok (.aload_n 1, 1) := by decide +kernel
theorem dX1_formSign_41 : decode cX1_formSign 41 = .ok (.getfield 102, 3) := by decide +kernel
theorem dX1_formSign_44 : decode cX1_formSign 44 = .ok (.invokevirtual 62, 3) := by decide +kernel
theorem dX1_formSign_47 : decode cX1_formSign 47 = .ok (.ireturn, 1) := by decide +kernel
theorem dX1_formSign_48 : decode cX1_formSign 48 = .ok (.aload_n 0, 1) := by decide +kernel
theorem dX1_formSign_49 : decode cX1_formSign 49 = .ok (.aload_n 1, 1) := by decide +kernel
theorem dX1_formSign_50 : decode cX1_formSign 50 = .ok (.getfield 99, 3) := by decide +kernel
theorem dX1_formSign_53 : decode cX1_formSign 53 = .ok (.aload_n 0, 1) := by decide +kernel
theorem dX1_formSign_54 : decode cX1_formSign 54 = .ok (.aload_n 1, 1) := by decide +kernel
theorem dX1_formSign_55 : decode cX1_formSign 55 = .ok (.invokevirtual 88, 3) := by decide +kernel
theorem dX1_formSign_58 : decode cX1_formSign 58 = .ok (.aload_n 1, 1) := by decide +kernel
theorem dX1_formSign_59 : decode cX1_formSign 59 = .ok (.getfield 102, 3) := by decide +kernel
theorem dX1_formSign_62 : decode cX1_formSign 62 = .ok (.invokevirtual 115, 3) := by decide +kernel
theorem dX1_formSign_65 : decode cX1_formSign 65 = .ok (.ireturn, 1) := by decide +kernel
set_option maxRecDepth 20000 in
theorem ggX1_areAlikeByLetters_X1_formSign : GoodIn wsX1_areAlikeByLetters wsX1_formSign := goodIn_ca (goodIn_r _ [6, 7, 8, 9, 10, 11, 12, 13, 14, 15, 16, 17, 18, 19, 20, 21, 22, 23, 24, 25, 26, 27, 28, 29, 30, 31, 32, 33, 34, 35, 36, 37, 38, 39, 40, 41, 42, 43, 44, 45, 46, 47, 48, 49, 50, 51, 52, 53, 5, 54, 55, 56, 57, 58, 59, 60, 61, 62, 63, 64, 65, 66, 67, 68, 69, 70, 71, 72, 85, 86, 87, 88, 89, 90, 91, 92, 93, 94, 95, 96, 97, 98, 73, 74, 75, 76, 77, 78, 79, 80, 81, 82, 83, 84] (by decide +kernel) (by decide +kernel)) (goodIn_sub (fun _ h => List.mem_cons_of_mem _ (List.mem_append_right _ h)) (by decide +kernel))
set_option maxRecDepth 20000 in
theorem gX1_areAlikeByLetters_X1_formSign : GoodIn wsX1_areAlikeByLetters (wsV RX1 119 RX1 yX1_formSign wsX1_formSign) := goodIn_app (goodIn_of _ (by decide +kernel)) ggX1_areAlikeByLetters_X1_formSign
theorem dX1_areAlikeByLetters_0 : decode cX1_areAlikeByLetters 0 = .ok (.iconst 0, 1) := by decide +kernel
theorem dX1_areAlikeByLetters_1 : decode cX1_areAlikeByLetters 1 = .ok (.istore_n 3, 1) := by decide +kernel
theorem dX1_areAlikeByLetters_2 : decode cX1_areAlikeByLetters 2 = .ok (.iload_n 3, 1) := by decide +kernel
theorem dX1_areAlikeByLetters_3 : decode cX1_areAlikeByLetters 3 = .ok (.iconst 3, 1) := by decide +kernel
theorem dX1_areAlikeByLetters_4 : decode cX1_areAlikeByLetters 4 = .ok (.if_icmp .ge 36, 3) := by decide +kernel
theorem dX1_areAlikeByLetters_7 : decode cX1_areAlikeByLetters 7 = .ok (.aload_n 0, 1) := by decide +kernel
theorem dX1_areAlikeByLetters_8 : decode cX1_areAlikeByLetters 8 = .ok (.aload_n 0, 1) := by decide +kernel
theorem dX1_areAlikeByLetters_9 : decode cX1_areAlikeByLetters 9 = .ok (.getfield 11, 3) := by decide +kernel
theorem dX1_areAlikeByLetters_12 : decode cX1_areAlikeByLetters 12 = .ok (.iload_n 1, 1) := by decide +kernel
theorem dX1_areAlikeByLetters_13 : decode cX1_areAlikeByLetters 13 = .ok (.aaload, 1) := by decide +kernel
theorem dX1_areAlikeByLetters_14 : decode cX1_areAlikeByLetters 14 = .ok (.iload_n 3, 1) := by decide +kernel
theorem dX1_areAlikeByLetters_15 : decode cX1_areAlikeByLetters 15 = .ok (.invokevirtual 119, 3) := by decide +kernel
theorem dX1_areAlikeByLetters_18 : decode cX1_areAlikeByLetters 18 = .ok (.aload_n 0, 1) := by decide +kernel
theorem dX1_areAlikeByLetters_19 : decode cX1_areAlikeByLetters 19 = .ok (.aload_n 0, 1) := by decide +kernel
theorem dX1_areAlikeByLetters_20 : decode cX1_areAlikeByLetters 20 = .ok (.getfield 11, 3) := by decide +kernel
theorem dX1_areAlikeByLetters_23 : decode cX1_areAlikeByLetters 23 = .ok (.iload_n 2, 1) := by decide +kernel
theorem dX1_areAlikeByLetters_24 : decode cX1_areAlikeByLetters 24 = .ok (.aaload, 1) := by decide +kernel
theorem dX1_areAlikeByLetters_25 : decode cX1_areAlikeByLetters 25 = .ok (.iload_n 3, 1) := by decide +kernel
theorem dX1_areAlikeByLetters_26 : decode cX1_areAlikeByLetters 26 = .ok (.invokevirtual 119, 3) := by decide +kernel
theorem dX1_areAlikeByLetters_29 : decode cX1_areAlikeByLetters 29 = .ok (.if_icmp .eq 5, 3) := by decide +kernel
theorem dX1_areAlikeByLetters_32 : decode cX1_areAlikeByLetters 32 = .ok (.iconst 0, 1) := by decide +kernel
theorem dX1_areAlikeByLetters_33 : decode cX1_areAlikeByLetters 33 = .ok (.ireturn, 1) := by decide +kernel
theorem dX1_areAlikeByLetters_34 : decode cX1_areAlikeByLetters 34 = .ok (.iinc 3 1, 3) := by decide +kernel
theorem dX1_areAlikeByLetters_37 : decode cX1_areAlikeByLetters 37 = .ok (.goto (-35), 3) := by decide +kernel
theorem dX1_areAlikeByLetters_40 : decode cX1_areAlikeByLetters 40 = .ok (.iconst 1, 1) := by decide +kernel
theorem dX1_areAlikeByLetters_41 : decode cX1_areAlikeByLetters 41 = .ok (.ireturn, 1) := by decide +kernel
set_option maxRecDepth 20000 in
theorem ggX1_areAlikeByNumbers_X1_letterOf : GoodIn wsX1_areAlikeByNumbers wsX1_letterOf := goodIn_ca (goodIn_r _ [8, 9, 3, 10, 11, 12, 7, 13, 14, 15, 16, 17, 18, 19, 20, 21, 22, 23, 24, 25, 26, 27, 40, 41, 42, 43, 44, 45, 46, 47, 48, 49, 28, 29, 30, 31, 32, 33, 34, 35, 36, 37, 38, 39] (by decide +kernel) (by decide +kernel)) (goodIn_sub (fun _ h => List.mem_cons_of_mem _ (List.mem_append_right _ h)) (by decide +kernel))
set_option maxRecDepth 20000 in
theorem gX1_areAlikeByNumbers_X1_letterOf : GoodIn wsX1_areAlikeByNumbers (wsV RX1 105 RX1 yX1_letterOf wsX1_letterOf) := goodIn_app (goodIn_of _ (by decide +kernel)) ggX1_areAlikeByNumbers_X1_letterOf
theorem dX1_areAlikeByNumbers_0 : decode cX1_areAlikeByNumbers 0 = .ok (.aload_n 0, 1) := by decide +kernel
theorem dX1_areAlikeByNumbers_1 : decode cX1_areAlikeByNumbers 1 = .ok (.getfield 11, 3) := by decide +kernel
theorem dX1_areAlikeByNumbers_4 : decode cX1_areAlikeByNumbers 4 = .ok (.iload_n 1, 1) := by decide +kernel
theorem dX1_areAlikeByNumbers_5 : decode cX1_areAlikeByNumbers 5 = .ok (.aaload, 1) := by decide +kernel
theorem dX1_areAlikeByNumbers_6 : decode cX1_areAlikeByNumbers 6 = .ok (.getfield 110, 3) := by decide +kernel
theorem dX1_areAlikeByNumbers_9 : decode cX1_areAlikeByNumbers 9 = .ok (.aload_n 0, 1) := by decide +kernel
theorem dX1_areAlikeByNumbers_10 : decode cX1_areAlikeByNumbers 10 = .ok (.getfield 11, 3) := by decide +kernel
theorem dX1_areAlikeByNumbers_13 : decode cX1_areAlikeByNumbers 13 = .ok (.iload_n 2, 1) := by decide +kernel
theorem dX1_areAlikeByNumbers_14 : decode cX1_areAlikeByNumbers 14 = .ok (.aaload, 1) := by decide +kernel
theorem dX1_areAlikeByNumbers_15 : decode cX1_areAlikeByNumbers 15 = .ok (.getfield 110, 3) := by decide +kernel
theorem dX1_areAlikeByNumbers_18 : decode cX1_areAlikeByNumbers 18 = .ok (.if_icmp .ne 51, 3) := by decide +kernel
theorem dX1_areAlikeByNumbers_21 : decode cX1_areAlikeByNumbers 21 = .ok (.aload_n 0, 1) := by decide +kernel
theorem dX1_areAlikeByNumbers_22 : decode cX1_areAlikeByNumbers 22 = .ok (.getfield 11, 3) := by decide +kernel
theorem dX1_areAlikeByNumbers_25 : decode cX1_areAlikeByNumbers 25 = .ok (.iload_n 1, 1) := by decide +kernel
theorem dX1_areAlikeByNumbers_26 : decode cX1_areAlikeByNumbers 26 = .ok (.aaload, 1) := by decide +kernel
theorem dX1_areAlikeByNumbers_27 : decode cX1_areAlikeByNumbers 27 = .ok (.getfield 102, 3) := by decide +kernel
theorem dX1_areAlikeByNumbers_30 : decode cX1_areAlikeByNumbers 30 = .ok (.aload_n 0, 1) := by decide +kernel
theorem dX1_areAlikeByNumbers_31 : decode cX1_areAlikeByNumbers 31 = .ok (.getfield 11, 3) := by decide +kernel
theorem dX1_areAlikeByNumbers_34 : decode cX1_areAlikeByNumbers 34 = .ok (.iload_n 2, 1) := by decide +kernel
theorem dX1_areAlikeByNumbers_35 : decode cX1_areAlikeByNumbers 35 = .ok (.aaload, 1) := by decide +kernel
theorem dX1_areAlikeByNumbers_36 : decode cX1_areAlikeByNumbers 36 = .ok (.getfield 102, 3) := by decide +kernel
theorem dX1_areAlikeByNumbers_39 : decode cX1_areAlikeByNumbers 39 = .ok (.if_icmp .ne 30, 3) := by decide +kernel
theorem dX1_areAlikeByNumbers_42 : decode cX1_areAlikeByNumbers 42 = .ok (.aload_n 0, 1) := by decide +kernel
theorem dX1_areAlikeByNumbers_43 : decode cX1_areAlikeByNumbers 43 = .ok (.aload_n 0, 1) := by decide +kernel
theorem dX1_areAlikeByNumbers_44 : decode cX1_areAlikeByNumbers 44 = .ok (.getfield 11, 3) := by decide +kernel
theorem dX1_areAlikeByNumbers_47 : decode cX1_areAlikeByNumbers 47 = .ok (.iload_n 1, 1) := by decide +kernel
theorem dX1_areAlikeByNumbers_48 : decode cX1_areAlikeByNumbers 48 = .ok (.aaload, 1) := by decide +kernel
theorem dX1_areAlikeByNumbers_49 : decode cX1_areAlikeByNumbers 49 = .ok (.invokevirtual 105, 3) := by decide +kernel
theorem dX1_areAlikeByNumbers_52 : decode cX1_areAlikeByNumbers 52 = .ok (.aload_n 0, 1) := by decide +kernel
theorem dX1_areAlikeByNumbers_53 : decode cX1_areAlikeByNumbers 53 = .ok (.aload_n 0, 1) := by decide +kernel
theorem dX1_areAlikeByNumbers_54 : decode cX1_areAlikeByNumbers 54 = .ok (.getfield 11, 3) := by decide +kernel
theorem dX1_areAlikeByNumbers_57 : decode cX1_areAlikeByNumbers 57 = .ok (.iload_n 2, 1) := by decide +kernel
theorem dX1_areAlikeByNumbers_58 : decode cX1_areAlikeByNumbers 58 = .ok (.aaload, 1) := by decide +kernel
theorem dX1_areAlikeByNumbers_59 : decode cX1_areAlikeByNumbers 59 = .ok (.invokevirtual 105, 3) := by decide +kernel
theorem dX1_areAlikeByNumbers_62 : decode cX1_areAlikeByNumbers 62 = .ok (.if_icmp .ne 7, 3) := by decide +kernel
theorem dX1_areAlikeByNumbers_65 : decode cX1_areAlikeByNumbers 65 = .ok (.iconst 1, 1) := by decide +kernel
theorem dX1_areAlikeByNumbers_66 : decode cX1_areAlikeByNumbers 66 = .ok (.goto 4, 3) := by decide +kernel
theorem dX1_areAlikeByNumbers_69 : decode cX1_areAlikeByNumbers 69 = .ok (.iconst 0, 1) := by decide +kernel
theorem dX1_areAlikeByNumbers_70 : decode cX1_areAlikeByNumbers 70 = .ok (.ireturn, 1) := by decide +kernel
set_option maxRecDepth 20000 in
theorem ggX1_agreement_X1_caseOf : GoodIn wsX1_agreement wsX1_caseOf := goodIn_ca (goodIn_r _ [7, 8, 9, 10, 11, 12, 13, 14, 15, 16, 17, 18, 19, 20, 21, 22, 23, 24, 25, 26, 27, 28, 29, 30, 31, 32, 33, 34, 35] (by decide +kernel) (by decide +kernel)) (goodIn_sub (fun _ h => List.mem_cons_of_mem _ (List.mem_append_right _ h)) (by decide +kernel))
set_option maxRecDepth 20000 in
theorem gX1_agreement_X1_caseOf : GoodIn wsX1_agreement (wsV RX1 88 RX1 yX1_caseOf wsX1_caseOf) := goodIn_app (goodIn_of _ (by decide +kernel)) ggX1_agreement_X1_caseOf
theorem dX1_agreement_0 : decode cX1_agreement 0 = .ok (.aload_n 1, 1) := by decide +kernel
theorem dX1_agreement_1 : decode cX1_agreement 1 = .ok (.getfield 110, 3) := by decide +kernel
theorem dX1_agreement_4 : decode cX1_agreement 4 = .ok (.iload_n 2, 1) := by decide +kernel
theorem dX1_agreement_5 : decode cX1_agreement 5 = .ok (.if_icmp .ne 7, 3) := by decide +kernel
theorem dX1_agreement_8 : decode cX1_agreement 8 = .ok (.iconst 1, 1) := by decide +kernel
theorem dX1_agreement_9 : decode cX1_agreement 9 = .ok (.goto 4, 3) := by decide +kernel
theorem dX1_agreement_12 : decode cX1_agreement 12 = .ok (.iconst 0, 1) := by decide +kernel
theorem dX1_agreement_13 : decode cX1_agreement 13 = .ok (.istore 5, 2) := by decide +kernel
theorem dX1_agreement_15 : decode cX1_agreement 15 = .ok (.iload 5, 2) := by decide +kernel
theorem dX1_agreement_17 : decode cX1_agreement 17 = .ok (.aload_n 1, 1) := by decide +kernel
theorem dX1_agreement_18 : decode cX1_agreement 18 = .ok (.getfield 102, 3) := by decide +kernel
theorem dX1_agreement_21 : decode cX1_agreement 21 = .ok (.iload_n 3, 1) := by decide +kernel
theorem dX1_agreement_22 : decode cX1_agreement 22 = .ok (.if_icmp .ne 7, 3) := by decide +kernel
theorem dX1_agreement_25 : decode cX1_agreement 25 = .ok (.iconst 1, 1) := by decide +kernel
theorem dX1_agreement_26 : decode cX1_agreement 26 = .ok (.goto 4, 3) := by decide +kernel
theorem dX1_agreement_29 : decode cX1_agreement 29 = .ok (.iconst 0, 1) := by decide +kernel
theorem dX1_agreement_30 : decode cX1_agreement 30 = .ok (.iadd, 1) := by decide +kernel
theorem dX1_agreement_31 : decode cX1_agreement 31 = .ok (.istore 5, 2) := by decide +kernel
theorem dX1_agreement_33 : decode cX1_agreement 33 = .ok (.iload 5, 2) := by decide +kernel
theorem dX1_agreement_35 : decode cX1_agreement 35 = .ok (.aload_n 0, 1) := by decide +kernel
theorem dX1_agreement_36 : decode cX1_agreement 36 = .ok (.aload_n 1, 1) := by decide +kernel
theorem dX1_agreement_37 : decode cX1_agreement 37 = .ok (.invokevirtual 88, 3) := by decide +kernel
theorem dX1_agreement_40 : decode cX1_agreement 40 = .ok (.iload 4, 2) := by decide +kernel
theorem dX1_agreement_42 : decode cX1_agreement 42 = .ok (.if_icmp .ne 7, 3) := by decide +kernel
theorem dX1_agreement_45 : decode cX1_agreement 45 = .ok (.iconst 1, 1) := by decide +kernel
theorem dX1_agreement_46 : decode cX1_agreement 46 = .ok (.goto 4, 3) := by decide +kernel
theorem dX1_agreement_49 : decode cX1_agreement 49 = .ok (.iconst 0, 1) := by decide +kernel
theorem dX1_agreement_50 : decode cX1_agreement 50 = .ok (.iadd, 1) := by decide +kernel
theorem dX1_agreement_51 : decode cX1_agreement 51 = .ok (.istore 5, 2) := by decide +kernel
theorem dX1_agreement_53 : decode cX1_agreement 53 = .ok (.iload 5, 2) := by decide +kernel
theorem dX1_agreement_55 : decode cX1_agreement 55 = .ok (.ireturn, 1) := by decide +kernel
set_option maxRecDepth 20000 in
theorem ggX1_hearKnock_X1_agreement : GoodIn wsX1_hearKnock wsX1_agreement := goodIn_ca (goodIn_r _ [13, 14, 15, 16, 17, 18, 12, 19, 20, 21, 22, 23, 24, 25, 38, 39, 40, 41, 42, 43, 44, 45, 46, 47, 26, 27, 28, 29, 30, 31, 32, 33, 34, 35, 36, 37] (by decide +kernel) (by decide +kernel)) (goodIn_sub (fun _ h => List.mem_cons_of_mem _ (List.mem_append_right _ h)) (by decide +kernel))
set_option maxRecDepth 20000 in
theorem gX1_hearKnock_X1_agreement : GoodIn wsX1_hearKnock (wsV RX1 123 RX1 yX1_agreement wsX1_agreement) := goodIn_app (goodIn_of _ (by decide +kernel)) ggX1_hearKnock_X1_agreement
theorem dX1_hearKnock_0 : decode cX1_hearKnock 0 = .ok (.aload_n 0, 1) := by decide +kernel
theorem dX1_hearKnock_1 : decode cX1_hearKnock 1 = .ok (.getfield 11, 3) := by decide +kernel
theorem dX1_hearKnock_4 : decode cX1_hearKnock 4 = .ok (.iload_n 1, 1) := by decide +kernel
theorem dX1_hearKnock_5 : decode cX1_hearKnock 5 = .ok (.aaload, 1) := by decide +kernel
theorem dX1_hearKnock_6 : decode cX1_hearKnock 6 = .ok (.astore 5, 2) := by decide +kernel
theorem dX1_hearKnock_8 : decode cX1_hearKnock 8 = .ok (.aload_n 0, 1) := by decide +kernel
theorem dX1_hearKnock_9 : decode cX1_hearKnock 9 = .ok (.aload 5, 2) := by decide +kernel
theorem dX1_hearKnock_11 : decode cX1_hearKnock 11 = .ok (.iload_n 2, 1) := by decide +kernel
theorem dX1_hearKnock_12 : decode cX1_hearKnock 12 = .ok (.iload_n 3, 1) := by decide +kernel
theorem dX1_hearKnock_13 : decode cX1_hearKnock 13 = .ok (.iload 4, 2) := by decide +kernel
theorem dX1_hearKnock_15 : decode cX1_hearKnock 15 = .ok (.invokevirtual 123, 3) := by decide +kernel
theorem dX1_hearKnock_18 : decode cX1_hearKnock 18 = .ok (.istore 6, 2) := by decide +kernel
theorem dX1_hearKnock_20 : decode cX1_hearKnock 20 = .ok (.aload 5, 2) := by decide +kernel
theorem dX1_hearKnock_22 : decode cX1_hearKnock 22 = .ok (.dup, 1) := by decide +kernel
theorem dX1_hearKnock_23 : decode cX1_hearKnock 23 = .ok (.getfield 127, 3) := by decide +kernel
theorem dX1_hearKnock_26 : decode cX1_hearKnock 26 = .ok (.iconst 1, 1) := by decide +kernel
theorem dX1_hearKnock_27 : decode cX1_hearKnock 27 = .ok (.iadd, 1) := by decide +kernel
theorem dX1_hearKnock_28 : decode cX1_hearKnock 28 = .ok (.putfield 127, 3) := by decide +kernel
theorem dX1_hearKnock_31 : decode cX1_hearKnock 31 = .ok (.iload 6, 2) := by decide +kernel
theorem dX1_hearKnock_33 : decode cX1_hearKnock 33 = .ok (.iconst 3, 1) := by decide +kernel
theorem dX1_hearKnock_34 : decode cX1_hearKnock 34 = .ok (.if_icmp .ne 28, 3) := by decide +kernel
theorem dX1_hearKnock_37 : decode cX1_hearKnock 37 = .ok (.aload_n 0, 1) := by decide +kernel
theorem dX1_hearKnock_38 : decode cX1_hearKnock 38 = .ok (.dup, 1) := by decide +kernel
theorem dX1_hearKnock_39 : decode cX1_hearKnock 39 = .ok (.getfield 44, 3) := by decide +kernel
theorem dX1_hearKnock_42 : decode cX1_hearKnock 42 = .ok (.iconst 1, 1) := by decide +kernel
theorem dX1_hearKnock_43 : decode cX1_hearKnock 43 = .ok (.iadd, 1) := by decide +kernel
theorem dX1_hearKnock_44 : decode cX1_hearKnock 44 = .ok (.putfield 44, 3) := by decide +kernel
theorem dX1_hearKnock_47 : decode cX1_hearKnock 47 = .ok (.aload 5, 2) := by decide +kernel
theorem dX1_hearKnock_49 : decode cX1_hearKnock 49 = .ok (.iconst 1, 1) := by decide +kernel
theorem dX1_hearKnock_50 : decode cX1_hearKnock 50 = .ok (.putfield 130, 3) := by decide +kernel
theorem dX1_hearKnock_53 : decode cX1_hearKnock 53 = .ok (.aload 5, 2) := by decide +kernel
theorem dX1_hearKnock_55 : decode cX1_hearKnock 55 = .ok (.iconst 0, 1) := by decide +kernel
theorem dX1_hearKnock_56 : decode cX1_hearKnock 56 = .ok (.putfield 134, 3) := by decide +kernel
theorem dX1_hearKnock_59 : decode cX1_hearKnock 59 = .ok (.iload 6, 2) := by decide +kernel
theorem dX1_hearKnock_61 : decode cX1_hearKnock 61 = .ok (.ireturn, 1) := by decide +kernel
theorem dX1_hearKnock_62 : decode cX1_hearKnock 62 = .ok (.aload_n 0, 1) := by decide +kernel
theorem dX1_hearKnock_63 : decode cX1_hearKnock 63 = .ok (.dup, 1) := by decide +kernel
theorem dX1_hearKnock_64 : decode cX1_hearKnock 64 = .ok (.getfield 47, 3) := by decide +kernel
theorem dX1_hearKnock_67 : decode cX1_hearKnock 67 = .ok (.iconst 1, 1) := by decide +kernel
theorem dX1_hearKnock_68 : decode cX1_hearKnock 68 = .ok (.iadd, 1) := by decide +kernel
theorem dX1_hearKnock_69 : decode cX1_hearKnock 69 = .ok (.putfield 47, 3) := by decide +kernel
theorem dX1_hearKnock_72 : decode cX1_hearKnock 72 = .ok (.aload 5, 2) := by decide +kernel
theorem dX1_hearKnock_74 : decode cX1_hearKnock 74 = .ok (.dup, 1) := by decide +kernel
theorem dX1_hearKnock_75 : decode cX1_hearKnock 75 = .ok (.getfield 134, 3) := by decide +kernel
theorem dX1_hearKnock_78 : decode cX1_hearKnock 78 = .ok (.iconst 1, 1) := by decide +kernel
theorem dX1_hearKnock_79 : decode cX1_hearKnock 79 = .ok (.iadd, 1) := by decide +kernel
theorem dX1_hearKnock_80 : decode cX1_hearKnock 80 = .ok (.putfield 134, 3) := by decide +kernel
theorem dX1_hearKnock_83 : decode cX1_hearKnock 83 = .ok (.aload 5, 2) := by decide +kernel
theorem dX1_hearKnock_85 : decode cX1_hearKnock 85 = .ok (.getfield 134, 3) := by decide +kernel
theorem dX1_hearKnock_88 : decode cX1_hearKnock 88 = .ok (.iconst 3, 1) := by decide +kernel
theorem dX1_hearKnock_89 : decode cX1_hearKnock 89 = .ok (.if_icmp .ne 19, 3) := by decide +kernel
theorem dX1_hearKnock_92 : decode cX1_hearKnock 92 = .ok (.aload 5, 2) := by decide +kernel
theorem dX1_hearKnock_94 : decode cX1_hearKnock 94 = .ok (.iconst 1, 1) := by decide +kernel
theorem dX1_hearKnock_95 : decode cX1_hearKnock 95 = .ok (.putfield 135, 3) := by decide +kernel
theorem dX1_hearKnock_98 : decode cX1_hearKnock 98 = .ok (.aload_n 0, 1) := by decide +kernel
theorem dX1_hearKnock_99 : decode cX1_hearKnock 99 = .ok (.dup, 1) := by decide +kernel
theorem dX1_hearKnock_100 : decode cX1_hearKnock 100 = .ok (.getfield 50, 3) := by decide +kernel
theorem dX1_hearKnock_103 : decode cX1_hearKnock 103 = .ok (.iconst 1, 1) := by decide +kernel
theorem dX1_hearKnock_104 : decode cX1_hearKnock 104 = .ok (.iadd, 1) := by decide +kernel
theorem dX1_hearKnock_105 : decode cX1_hearKnock 105 = .ok (.putfield 50, 3) := by decide +kernel
theorem dX1_hearKnock_108 : decode cX1_hearKnock 108 = .ok (.iload 6, 2) := by decide +kernel
theorem dX1_hearKnock_110 : decode cX1_hearKnock 110 = .ok (.ireturn, 1) := by decide +kernel
set_option maxRecDepth 20000 in
theorem ggX1_shutDoor_X1_openDoors : GoodIn wsX1_shutDoor wsX1_openDoors := goodIn_r _ [7, 8, 1, 2, 9, 10, 11, 12, 13, 14, 15, 16, 17, 18, 19, 20, 21, 22, 23, 24, 25, 26, 27, 28, 29, 30] (by decide +kernel) (by decide +kernel)
set_option maxRecDepth 20000 in
theorem gX1_shutDoor_X1_openDoors : GoodIn wsX1_shutDoor (wsV RX1 138 RX1 yX1_openDoors wsX1_openDoors) := goodIn_app (goodIn_of _ (by decide +kernel)) ggX1_shutDoor_X1_openDoors
theorem dX1_shutDoor_0 : decode cX1_shutDoor 0 = .ok (.aload_n 0, 1) := by decide +kernel
theorem dX1_shutDoor_1 : decode cX1_shutDoor 1 = .ok (.getfield 11, 3) := by decide +kernel
theorem dX1_shutDoor_4 : decode cX1_shutDoor 4 = .ok (.iload_n 1, 1) := by decide +kernel
theorem dX1_shutDoor_5 : decode cX1_shutDoor 5 = .ok (.aaload, 1) := by decide +kernel
theorem dX1_shutDoor_6 : decode cX1_shutDoor 6 = .ok (.iconst 0, 1) := by decide +kernel
theorem dX1_shutDoor_7 : decode cX1_shutDoor 7 = .ok (.putfield 130, 3) := by decide +kernel
theorem dX1_shutDoor_10 : decode cX1_shutDoor 10 = .ok (.aload_n 0, 1) := by decide +kernel
theorem dX1_shutDoor_11 : decode cX1_shutDoor 11 = .ok (.invokevirtual 138, 3) := by decide +kernel
theorem dX1_shutDoor_14 : decode cX1_shutDoor 14 = .ok (.ireturn, 1) := by decide +kernel
set_option maxRecDepth 20000 in
theorem ggX1_freeDoor_X1_latchesDown : GoodIn wsX1_freeDoor wsX1_latchesDown := goodIn_r _ [9, 10, 1, 2, 11, 12, 13, 14, 15, 16, 17, 18, 19, 20, 21, 22, 23, 24, 25, 26, 27, 28, 29, 30, 31, 32] (by decide +kernel) (by decide +kernel)
set_option maxRecDepth 20000 in
theorem gX1_freeDoor_X1_latchesDown : GoodIn wsX1_freeDoor (wsV RX1 142 RX1 yX1_latchesDown wsX1_latchesDown) := goodIn_app (goodIn_of _ (by decide +kernel)) ggX1_freeDoor_X1_latchesDown
theorem dX1_freeDoor_0 : decode cX1_freeDoor 0 = .ok (.aload_n 0, 1) := by decide +kernel
theorem dX1_freeDoor_1 : decode cX1_freeDoor 1 = .ok (.getfield 11, 3) := by decide +kernel
theorem dX1_freeDoor_4 : decode cX1_freeDoor 4 = .ok (.iload_n 1, 1) := by decide +kernel
theorem dX1_freeDoor_5 : decode cX1_freeDoor 5 = .ok (.aaload, 1) := by decide +kernel
theorem dX1_freeDoor_6 : decode cX1_freeDoor 6 = .ok (.iconst 0, 1) := by decide +kernel
theorem dX1_freeDoor_7 : decode cX1_freeDoor 7 = .ok (.putfield 135, 3) := by decide +kernel
theorem dX1_freeDoor_10 : decode cX1_freeDoor 10 = .ok (.aload_n 0, 1) := by decide +kernel
theorem dX1_freeDoor_11 : decode cX1_freeDoor 11 = .ok (.getfield 11, 3) := by decide +kernel
theorem dX1_freeDoor_14 : decode cX1_freeDoor 14 = .ok (.iload_n 1, 1) := by decide +kernel
theorem dX1_freeDoor_15 : decode cX1_freeDoor 15 = .ok (.aaload, 1) := by decide +kernel
theorem dX1_freeDoor_16 : decode cX1_freeDoor 16 = .ok (.iconst 0, 1) := by decide +kernel
theorem dX1_freeDoor_17 : decode cX1_freeDoor 17 = .ok (.putfield 134, 3) := by decide +kernel
theorem dX1_freeDoor_20 : decode cX1_freeDoor 20 = .ok (.aload_n 0, 1) := by decide +kernel
theorem dX1_freeDoor_21 : decode cX1_freeDoor 21 = .ok (.dup, 1) := by decide +kernel
theorem dX1_freeDoor_22 : decode cX1_freeDoor 22 = .ok (.getfield 53, 3) := by decide +kernel
theorem dX1_freeDoor_25 : decode cX1_freeDoor 25 = .ok (.iconst 1, 1) := by decide +kernel
theorem dX1_freeDoor_26 : decode cX1_freeDoor 26 = .ok (.iadd, 1) := by decide +kernel
theorem dX1_freeDoor_27 : decode cX1_freeDoor 27 = .ok (.putfield 53, 3) := by decide +kernel
theorem dX1_freeDoor_30 : decode cX1_freeDoor 30 = .ok (.aload_n 0, 1) := by decide +kernel
theorem dX1_freeDoor_31 : decode cX1_freeDoor 31 = .ok (.invokevirtual 142, 3) := by decide +kernel
theorem dX1_freeDoor_34 : decode cX1_freeDoor 34 = .ok (.ireturn, 1) := by decide +kernel
theorem dX1_openDoors_0 : decode cX1_openDoors 0 = .ok (.iconst 0, 1) := by decide +kernel
theorem dX1_openDoors_1 : decode cX1_openDoors 1 = .ok (.istore_n 1, 1) := by decide +kernel
theorem dX1_openDoors_2 : decode cX1_openDoors 2 = .ok (.iconst 0, 1) := by decide +kernel
theorem dX1_openDoors_3 : decode cX1_openDoors 3 = .ok (.istore_n 2, 1) := by decide +kernel
theorem dX1_openDoors_4 : decode cX1_openDoors 4 = .ok (.iload_n 2, 1) := by decide +kernel
theorem dX1_openDoors_5 : decode cX1_openDoors 5 = .ok (.aload_n 0, 1) := by decide +kernel
theorem dX1_openDoors_6 : decode cX1_openDoors 6 = .ok (.getfield 34, 3) := by decide +kernel
theorem dX1_openDoors_9 : decode cX1_openDoors 9 = .ok (.if_icmp .ge 29, 3) := by decide +kernel
theorem dX1_openDoors_12 : decode cX1_openDoors 12 = .ok (.iload_n 1, 1) := by decide +kernel
theorem dX1_openDoors_13 : decode cX1_openDoors 13 = .ok (.aload_n 0, 1) := by decide +kernel
theorem dX1_openDoors_14 : decode cX1_openDoors 14 = .ok (.getfield 11, 3) := by decide +kernel
theorem dX1_openDoors_17 : decode cX1_openDoors 17 = .ok (.iload_n 2, 1) := by decide +kernel
theorem dX1_openDoors_18 : decode cX1_openDoors 18 = .ok (.aaload, 1) := by decide +kernel
theorem dX1_openDoors_19 : decode cX1_openDoors 19 = .ok (.getfield 130, 3) := by decide +kernel
theorem dX1_openDoors_22 : decode cX1_openDoors 22 = .ok (.ifCond .eq 7, 3) := by decide +kernel
theorem dX1_openDoors_25 : decode cX1_openDoors 25 = .ok (.iconst 1, 1) := by decide +kernel
theorem dX1_openDoors_26 : decode cX1_openDoors 26 = .ok (.goto 4, 3) := by decide +kernel
theorem dX1_openDoors_29 : decode cX1_openDoors 29 = .ok (.iconst 0, 1) := by decide +kernel
theorem dX1_openDoors_30 : decode cX1_openDoors 30 = .ok (.iadd, 1) := by decide +kernel
theorem dX1_openDoors_31 : decode cX1_openDoors 31 = .ok (.istore_n 1, 1) := by decide +kernel
theorem dX1_openDoors_32 : decode cX1_openDoors 32 = .ok (.iinc 2 1, 3) := by decide +kernel
theorem dX1_openDoors_35 : decode cX1_openDoors 35 = .ok (.goto (-31), 3) := by decide +kernel
theorem dX1_openDoors_38 : decode cX1_openDoors 38 = .ok (.iload_n 1, 1) := by decide +kernel
theorem dX1_openDoors_39 : decode cX1_openDoors 39 = .ok (.ireturn, 1) := by decide +kernel
theorem dX1_latchesDown_0 : decode cX1_latchesDown 0 = .ok (.iconst 0, 1) := by decide +kernel
theorem dX1_latchesDown_1 : decode cX1_latchesDown 1 = .ok (.istore_n 1, 1) := by decide +kernel
theorem dX1_latchesDown_2 : decode cX1_latchesDown 2 = .ok (.iconst 0, 1) := by decide +kernel
theorem dX1_latchesDown_3 : decode cX1_latchesDown 3 = .ok (.istore_n 2, 1) := by decide +kernel
theorem dX1_latchesDown_4 : decode cX1_latchesDown 4 = .ok (.iload_n 2, 1) := by decide +kernel
theorem dX1_latchesDown_5 : decode cX1_latchesDown 5 = .ok (.aload_n 0, 1) := by decide +kernel
theorem dX1_latchesDown_6 : decode cX1_latchesDown 6 = .ok (.getfield 34, 3) := by decide +kernel
theorem dX1_latchesDown_9 : decode cX1_latchesDown 9 = .ok (.if_icmp .ge 29, 3) := by decide +kernel
theorem dX1_latchesDown_12 : decode cX1_latchesDown 12 = .ok (.iload_n 1, 1) := by decide +kernel
theorem dX1_latchesDown_13 : decode cX1_latchesDown 13 = .ok (.aload_n 0, 1) := by decide +kernel
theorem dX1_latchesDown_14 : decode cX1_latchesDown 14 = .ok (.getfield 11, 3) := by decide +kernel
theorem dX1_latchesDown_17 : decode cX1_latchesDown 17 = .ok (.iload_n 2, 1) := by decide +kernel
theorem dX1_latchesDown_18 : decode cX1_latchesDown 18 = .ok (.aaload, 1) := by decide +kernel
theorem dX1_latchesDown_19 : decode cX1_latchesDown 19 = .ok (.getfield 135, 3) := by decide +kernel
theorem dX1_latchesDown_22 : decode cX1_latchesDown 22 = .ok (.ifCond .eq 7, 3) := by decide +kernel
theorem dX1_latchesDown_25 : decode cX1_latchesDown 25 = .ok (.iconst 1, 1) := by decide +kernel
theorem dX1_latchesDown_26 : decode cX1_latchesDown 26 = .ok (.goto 4, 3) := by decide +kernel
theorem dX1_latchesDown_29 : decode cX1_latchesDown 29 = .ok (.iconst 0, 1) := by decide +kernel
theorem dX1_latchesDown_30 : decode cX1_latchesDown 30 = .ok (.iadd, 1) := by decide +kernel
theorem dX1_latchesDown_31 : decode cX1_latchesDown 31 = .ok (.istore_n 1, 1) := by decide +kernel
theorem dX1_latchesDown_32 : decode cX1_latchesDown 32 = .ok (.iinc 2 1, 3) := by decide +kernel
theorem dX1_latchesDown_35 : decode cX1_latchesDown 35 = .ok (.goto (-31), 3) := by decide +kernel
theorem dX1_latchesDown_38 : decode cX1_latchesDown 38 = .ok (.iload_n 1, 1) := by decide +kernel
theorem dX1_latchesDown_39 : decode cX1_latchesDown 39 = .ok (.ireturn, 1) := by decide +kernel
theorem dX1_knocksAtDoors_0 : decode cX1_knocksAtDoors 0 = .ok (.iconst 0, 1) := by decide +kernel
theorem dX1_knocksAtDoors_1 : decode cX1_knocksAtDoors 1 = .ok (.istore_n 1, 1) := by decide +kernel
theorem dX1_knocksAtDoors_2 : decode cX1_knocksAtDoors 2 = .ok (.iconst 0, 1) := by decide +kernel
theorem dX1_knocksAtDoors_3 : decode cX1_knocksAtDoors 3 = .ok (.istore_n 2, 1) := by decide +kernel
theorem dX1_knocksAtDoors_4 : decode cX1_knocksAtDoors 4 = .ok (.iload_n 2, 1) := by decide +kernel
theorem dX1_knocksAtDoors_5 : decode cX1_knocksAtDoors 5 = .ok (.aload_n 0, 1) := by decide +kernel
theorem dX1_knocksAtDoors_6 : decode cX1_knocksAtDoors 6 = .ok (.getfield 34, 3) := by decide +kernel
theorem dX1_knocksAtDoors_9 : decode cX1_knocksAtDoors 9 = .ok (.if_icmp .ge 21, 3) := by decide +kernel
theorem dX1_knocksAtDoors_12 : decode cX1_knocksAtDoors 12 = .ok (.iload_n 1, 1) := by decide +kernel
theorem dX1_knocksAtDoors_13 : decode cX1_knocksAtDoors 13 = .ok (.aload_n 0, 1) := by decide +kernel
theorem dX1_knocksAtDoors_14 : decode cX1_knocksAtDoors 14 = .ok (.getfield 11, 3) := by decide +kernel
theorem dX1_knocksAtDoors_17 : decode cX1_knocksAtDoors 17 = .ok (.iload_n 2, 1) := by decide +kernel
theorem dX1_knocksAtDoors_18 : decode cX1_knocksAtDoors 18 = .ok (.aaload, 1) := by decide +kernel
theorem dX1_knocksAtDoors_19 : decode cX1_knocksAtDoors 19 = .ok (.getfield 127, 3) := by decide +kernel
theorem dX1_knocksAtDoors_22 : decode cX1_knocksAtDoors 22 = .ok (.iadd, 1) := by decide +kernel
theorem dX1_knocksAtDoors_23 : decode cX1_knocksAtDoors 23 = .ok (.istore_n 1, 1) := by decide +kernel
theorem dX1_knocksAtDoors_24 : decode cX1_knocksAtDoors 24 = .ok (.iinc 2 1, 3) := by decide +kernel
theorem dX1_knocksAtDoors_27 : decode cX1_knocksAtDoors 27 = .ok (.goto (-23), 3) := by decide +kernel
theorem dX1_knocksAtDoors_30 : decode cX1_knocksAtDoors 30 = .ok (.iload_n 1, 1) := by decide +kernel
theorem dX1_knocksAtDoors_31 : decode cX1_knocksAtDoors 31 = .ok (.ireturn, 1) := by decide +kernel
theorem dX1_addKey_0 : decode cX1_addKey 0 = .ok (.aload_n 0, 1) := by decide +kernel
theorem dX1_addKey_1 : decode cX1_addKey 1 = .ok (.getfield 21, 3) := by decide +kernel
theorem dX1_addKey_4 : decode cX1_addKey 4 = .ok (.aload_n 0, 1) := by decide +kernel
theorem dX1_addKey_5 : decode cX1_addKey 5 = .ok (.getfield 41, 3) := by decide +kernel
theorem dX1_addKey_8 : decode cX1_addKey 8 = .ok (.iload_n 1, 1) := by decide +kernel
theorem dX1_addKey_9 : decode cX1_addKey 9 = .ok (.iastore, 1) := by decide +kernel
theorem dX1_addKey_10 : decode cX1_addKey 10 = .ok (.aload_n 0, 1) := by decide +kernel
theorem dX1_addKey_11 : decode cX1_addKey 11 = .ok (.getfield 24, 3) := by decide +kernel
theorem dX1_addKey_14 : decode cX1_addKey 14 = .ok (.aload_n 0, 1) := by decide +kernel
theorem dX1_addKey_15 : decode cX1_addKey 15 = .ok (.getfield 41, 3) := by decide +kernel
theorem dX1_addKey_18 : decode cX1_addKey 18 = .ok (.iload_n 2, 1) := by decide +kernel
theorem dX1_addKey_19 : decode cX1_addKey 19 = .ok (.iastore, 1) := by decide +kernel
theorem dX1_addKey_20 : decode cX1_addKey 20 = .ok (.aload_n 0, 1) := by decide +kernel
theorem dX1_addKey_21 : decode cX1_addKey 21 = .ok (.dup, 1) := by decide +kernel
theorem dX1_addKey_22 : decode cX1_addKey 22 = .ok (.getfield 41, 3) := by decide +kernel
theorem dX1_addKey_25 : decode cX1_addKey 25 = .ok (.iconst 1, 1) := by decide +kernel
theorem dX1_addKey_26 : decode cX1_addKey 26 = .ok (.iadd, 1) := by decide +kernel
theorem dX1_addKey_27 : decode cX1_addKey 27 = .ok (.putfield 41, 3) := by decide +kernel
theorem dX1_addKey_30 : decode cX1_addKey 30 = .ok (.aload_n 0, 1) := by decide +kernel
theorem dX1_addKey_31 : decode cX1_addKey 31 = .ok (.getfield 41, 3) := by decide +kernel
theorem dX1_addKey_34 : decode cX1_addKey 34 = .ok (.iconst 1, 1) := by decide +kernel
theorem dX1_addKey_35 : decode cX1_addKey 35 = .ok (.isub, 1) := by decide +kernel
theorem dX1_addKey_36 : decode cX1_addKey 36 = .ok (.ireturn, 1) := by decide +kernel
theorem dX1_keyWith_0 : decode cX1_keyWith 0 = .ok (.iconst 0, 1) := by decide +kernel
theorem dX1_keyWith_1 : decode cX1_keyWith 1 = .ok (.istore_n 3, 1) := by decide +kernel
theorem dX1_keyWith_2 : decode cX1_keyWith 2 = .ok (.iload_n 3, 1) := by decide +kernel
theorem dX1_keyWith_3 : decode cX1_keyWith 3 = .ok (.aload_n 0, 1) := by decide +kernel
theorem dX1_keyWith_4 : decode cX1_keyWith 4 = .ok (.getfield 41, 3) := by decide +kernel
theorem dX1_keyWith_7 : decode cX1_keyWith 7 = .ok (.if_icmp .ge 31, 3) := by decide +kernel
theorem dX1_keyWith_10 : decode cX1_keyWith 10 = .ok (.aload_n 0, 1) := by decide +kernel
theorem dX1_keyWith_11 : decode cX1_keyWith 11 = .ok (.getfield 21, 3) := by decide +kernel
theorem dX1_keyWith_14 : decode cX1_keyWith 14 = .ok (.iload_n 3, 1) := by decide +kernel
theorem dX1_keyWith_15 : decode cX1_keyWith 15 = .ok (.iaload, 1) := by decide +kernel
theorem dX1_keyWith_16 : decode cX1_keyWith 16 = .ok (.iload_n 1, 1) := by decide +kernel
theorem dX1_keyWith_17 : decode cX1_keyWith 17 = .ok (.if_icmp .ne 15, 3) := by decide +kernel
theorem dX1_keyWith_20 : decode cX1_keyWith 20 = .ok (.aload_n 0, 1) := by decide +kernel
theorem dX1_keyWith_21 : decode cX1_keyWith 21 = .ok (.getfield 24, 3) := by decide +kernel
theorem dX1_keyWith_24 : decode cX1_keyWith 24 = .ok (.iload_n 3, 1) := by decide +kernel
theorem dX1_keyWith_25 : decode cX1_keyWith 25 = .ok (.iaload, 1) := by decide +kernel
theorem dX1_keyWith_26 : decode cX1_keyWith 26 = .ok (.iload_n 2, 1) := by decide +kernel
theorem dX1_keyWith_27 : decode cX1_keyWith 27 = .ok (.if_icmp .ne 5, 3) := by decide +kernel
theorem dX1_keyWith_30 : decode cX1_keyWith 30 = .ok (.iload_n 3, 1) := by decide +kernel
theorem dX1_keyWith_31 : decode cX1_keyWith 31 = .ok (.ireturn, 1) := by decide +kernel
theorem dX1_keyWith_32 : decode cX1_keyWith 32 = .ok (.iinc 3 1, 3) := by decide +kernel
theorem dX1_keyWith_35 : decode cX1_keyWith 35 = .ok (.goto (-33), 3) := by decide +kernel
theorem dX1_keyWith_38 : decode cX1_keyWith 38 = .ok (.iconst (-1), 1) := by decide +kernel
theorem dX1_keyWith_39 : decode cX1_keyWith 39 = .ok (.ireturn, 1) := by decide +kernel
theorem dX1_fit_0 : decode cX1_fit 0 = .ok (.aload_n 0, 1) := by decide +kernel
theorem dX1_fit_1 : decode cX1_fit 1 = .ok (.getfield 21, 3) := by decide +kernel
theorem dX1_fit_4 : decode cX1_fit 4 = .ok (.iload_n 1, 1) := by decide +kernel
theorem dX1_fit_5 : decode cX1_fit 5 = .ok (.iaload, 1) := by decide +kernel
theorem dX1_fit_6 : decode cX1_fit 6 = .ok (.aload_n 0, 1) := by decide +kernel
theorem dX1_fit_7 : decode cX1_fit 7 = .ok (.getfield 11, 3) := by decide +kernel
theorem dX1_fit_10 : decode cX1_fit 10 = .ok (.iload_n 2, 1) := by decide +kernel
theorem dX1_fit_11 : decode cX1_fit 11 = .ok (.aaload, 1) := by decide +kernel
theorem dX1_fit_12 : decode cX1_fit 12 = .ok (.getfield 99, 3) := by decide +kernel
theorem dX1_fit_15 : decode cX1_fit 15 = .ok (.if_icmp .ne 7, 3) := by decide +kernel
theorem dX1_fit_18 : decode cX1_fit 18 = .ok (.iconst 1, 1) := by decide +kernel
theorem dX1_fit_19 : decode cX1_fit 19 = .ok (.goto 4, 3) := by decide +kernel
theorem dX1_fit_22 : decode cX1_fit 22 = .ok (.iconst 0, 1) := by decide +kernel
theorem dX1_fit_23 : decode cX1_fit 23 = .ok (.istore_n 3, 1) := by decide +kernel
theorem dX1_fit_24 : decode cX1_fit 24 = .ok (.iload_n 3, 1) := by decide +kernel
theorem dX1_fit_25 : decode cX1_fit 25 = .ok (.aload_n 0, 1) := by decide +kernel
theorem dX1_fit_26 : decode cX1_fit 26 = .ok (.getfield 24, 3) := by decide +kernel
theorem dX1_fit_29 : decode cX1_fit 29 = .ok (.iload_n 1, 1) := by decide +kernel
theorem dX1_fit_30 : decode cX1_fit 30 = .ok (.iaload, 1) := by decide +kernel
theorem dX1_fit_31 : decode cX1_fit 31 = .ok (.aload_n 0, 1) := by decide +kernel
theorem dX1_fit_32 : decode cX1_fit 32 = .ok (.getfield 11, 3) := by decide +kernel
theorem dX1_fit_35 : decode cX1_fit 35 = .ok (.iload_n 2, 1) := by decide +kernel
theorem dX1_fit_36 : decode cX1_fit 36 = .ok (.aaload, 1) := by decide +kernel
theorem dX1_fit_37 : decode cX1_fit 37 = .ok (.getfield 110, 3) := by decide +kernel
theorem dX1_fit_40 : decode cX1_fit 40 = .ok (.if_icmp .ne 7, 3) := by decide +kernel
theorem dX1_fit_43 : decode cX1_fit 43 = .ok (.iconst 1, 1) := by decide +kernel
theorem dX1_fit_44 : decode cX1_fit 44 = .ok (.goto 4, 3) := by decide +kernel
theorem dX1_fit_47 : decode cX1_fit 47 = .ok (.iconst 0, 1) := by decide +kernel
theorem dX1_fit_48 : decode cX1_fit 48 = .ok (.iadd, 1) := by decide +kernel
theorem dX1_fit_49 : decode cX1_fit 49 = .ok (.istore_n 3, 1) := by decide +kernel
theorem dX1_fit_50 : decode cX1_fit 50 = .ok (.iload_n 3, 1) := by decide +kernel
theorem dX1_fit_51 : decode cX1_fit 51 = .ok (.ireturn, 1) := by decide +kernel
theorem dX1_measured_0 : decode cX1_measured 0 = .ok (.iload_n 2, 1) := by decide +kernel
theorem dX1_measured_1 : decode cX1_measured 1 = .ok (.ifCond .ne 15, 3) := by decide +kernel
theorem dX1_measured_4 : decode cX1_measured 4 = .ok (.aload_n 0, 1) := by decide +kernel
theorem dX1_measured_5 : decode cX1_measured 5 = .ok (.getfield 11, 3) := by decide +kernel
theorem dX1_measured_8 : decode cX1_measured 8 = .ok (.iload_n 1, 1) := by decide +kernel
theorem dX1_measured_9 : decode cX1_measured 9 = .ok (.aaload, 1) := by decide +kernel
theorem dX1_measured_10 : decode cX1_measured 10 = .ok (.getfield 127, 3) := by decide +kernel
theorem dX1_measured_13 : decode cX1_measured 13 = .ok (.goto 12, 3) := by decide +kernel
theorem dX1_measured_16 : decode cX1_measured 16 = .ok (.aload_n 0, 1) := by decide +kernel
theorem dX1_measured_17 : decode cX1_measured 17 = .ok (.getfield 11, 3) := by decide +kernel
theorem dX1_measured_20 : decode cX1_measured 20 = .ok (.iload_n 1, 1) := by decide +kernel
theorem dX1_measured_21 : decode cX1_measured 21 = .ok (.aaload, 1) := by decide +kernel
theorem dX1_measured_22 : decode cX1_measured 22 = .ok (.getfield 134, 3) := by decide +kernel
theorem dX1_measured_25 : decode cX1_measured 25 = .ok (.ireturn, 1) := by decide +kernel
set_option maxRecDepth 20000 in
theorem ggX1_doorsAhead_X1_measured : GoodIn wsX1_doorsAhead wsX1_measured := goodIn_r _ [6, 7, 8, 9, 10, 11, 12, 13, 14, 15, 16, 17, 18, 19, 20, 21, 22, 23, 24, 25, 26, 27, 28, 29, 30, 31] (by decide +kernel) (by decide +kernel)
set_option maxRecDepth 20000 in
theorem gX1_doorsAhead_X1_measured : GoodIn wsX1_doorsAhead (wsV RX1 145 RX1 yX1_measured wsX1_measured) := goodIn_app (goodIn_of _ (by decide +kernel)) ggX1_doorsAhead_X1_measured
theorem dX1_doorsAhead_0 : decode cX1_doorsAhead 0 = .ok (.aload_n 0, 1) := by decide +kernel
theorem dX1_doorsAhead_1 : decode cX1_doorsAhead 1 = .ok (.iload_n 1, 1) := by decide +kernel
theorem dX1_doorsAhead_2 : decode cX1_doorsAhead 2 = .ok (.iload_n 2, 1) := by decide +kernel
theorem dX1_doorsAhead_3 : decode cX1_doorsAhead 3 = .ok (.invokevirtual 145, 3) := by decide +kernel
theorem dX1_doorsAhead_6 : decode cX1_doorsAhead 6 = .ok (.istore_n 3, 1) := by decide +kernel
theorem dX1_doorsAhead_7 : decode cX1_doorsAhead 7 = .ok (.iconst 0, 1) := by decide +kernel
theorem dX1_doorsAhead_8 : decode cX1_doorsAhead 8 = .ok (.istore 4, 2) := by decide +kernel
theorem dX1_doorsAhead_10 : decode cX1_doorsAhead 10 = .ok (.iconst 0, 1) := by decide +kernel
theorem dX1_doorsAhead_11 : decode cX1_doorsAhead 11 = .ok (.istore 5, 2) := by decide +kernel
theorem dX1_doorsAhead_13 : decode cX1_doorsAhead 13 = .ok (.iload 5, 2) := by decide +kernel
theorem dX1_doorsAhead_15 : decode cX1_doorsAhead 15 = .ok (.aload_n 0, 1) := by decide +kernel
theorem dX1_doorsAhead_16 : decode cX1_doorsAhead 16 = .ok (.getfield 34, 3) := by decide +kernel
theorem dX1_doorsAhead_19 : decode cX1_doorsAhead 19 = .ok (.if_icmp .ge 39, 3) := by decide +kernel
theorem dX1_doorsAhead_22 : decode cX1_doorsAhead 22 = .ok (.aload_n 0, 1) := by decide +kernel
theorem dX1_doorsAhead_23 : decode cX1_doorsAhead 23 = .ok (.iload 5, 2) := by decide +kernel
theorem dX1_doorsAhead_25 : decode cX1_doorsAhead 25 = .ok (.iload_n 2, 1) := by decide +kernel
theorem dX1_doorsAhead_26 : decode cX1_doorsAhead 26 = .ok (.invokevirtual 145, 3) := by decide +kernel
theorem dX1_doorsAhead_29 : decode cX1_doorsAhead 29 = .ok (.istore 6, 2) := by decide +kernel
theorem dX1_doorsAhead_31 : decode cX1_doorsAhead 31 = .ok (.iload 6, 2) := by decide +kernel
theorem dX1_doorsAhead_33 : decode cX1_doorsAhead 33 = .ok (.iload_n 3, 1) := by decide +kernel
theorem dX1_doorsAhead_34 : decode cX1_doorsAhead 34 = .ok (.if_icmp .gt 15, 3) := by decide +kernel
theorem dX1_doorsAhead_37 : decode cX1_doorsAhead 37 = .ok (.iload 6, 2) := by decide +kernel
theorem dX1_doorsAhead_39 : decode cX1_doorsAhead 39 = .ok (.iload_n 3, 1) := by decide +kernel
theorem dX1_doorsAhead_40 : decode cX1_doorsAhead 40 = .ok (.if_icmp .ne 12, 3) := by decide +kernel
theorem dX1_doorsAhead_43 : decode cX1_doorsAhead 43 = .ok (.iload 5, 2) := by decide +kernel
theorem dX1_doorsAhead_45 : decode cX1_doorsAhead 45 = .ok (.iload_n 1, 1) := by decide +kernel
theorem dX1_doorsAhead_46 : decode cX1_doorsAhead 46 = .ok (.if_icmp .ge 6, 3) := by decide +kernel
theorem dX1_doorsAhead_49 : decode cX1_doorsAhead 49 = .ok (.iinc 4 1, 3) := by decide +kernel
theorem dX1_doorsAhead_52 : decode cX1_doorsAhead 52 = .ok (.iinc 5 1, 3) := by decide +kernel
theorem dX1_doorsAhead_55 : decode cX1_doorsAhead 55 = .ok (.goto (-42), 3) := by decide +kernel
theorem dX1_doorsAhead_58 : decode cX1_doorsAhead 58 = .ok (.iload 4, 2) := by decide +kernel
theorem dX1_doorsAhead_60 : decode cX1_doorsAhead 60 = .ok (.ireturn, 1) := by decide +kernel
theorem dX1_roomBehind_0 : decode cX1_roomBehind 0 = .ok (.aload_n 0, 1) := by decide +kernel
theorem dX1_roomBehind_1 : decode cX1_roomBehind 1 = .ok (.getfield 11, 3) := by decide +kernel
theorem dX1_roomBehind_4 : decode cX1_roomBehind 4 = .ok (.iload_n 1, 1) := by decide +kernel
theorem dX1_roomBehind_5 : decode cX1_roomBehind 5 = .ok (.aaload, 1) := by decide +kernel
theorem dX1_roomBehind_6 : decode cX1_roomBehind 6 = .ok (.getfield 130, 3) := by decide +kernel
theorem dX1_roomBehind_9 : decode cX1_roomBehind 9 = .ok (.ifCond .ne 5, 3) := by decide +kernel
theorem dX1_roomBehind_12 : decode cX1_roomBehind 12 = .ok (.iconst (-1), 1) := by decide +kernel
theorem dX1_roomBehind_13 : decode cX1_roomBehind 13 = .ok (.ireturn, 1) := by decide +kernel
theorem dX1_roomBehind_14 : decode cX1_roomBehind 14 = .ok (.aload_n 0, 1) := by decide +kernel
theorem dX1_roomBehind_15 : decode cX1_roomBehind 15 = .ok (.getfield 11, 3) := by decide +kernel
theorem dX1_roomBehind_18 : decode cX1_roomBehind 18 = .ok (.iload_n 1, 1) := by decide +kernel
theorem dX1_roomBehind_19 : decode cX1_roomBehind 19 = .ok (.aaload, 1) := by decide +kernel
theorem dX1_roomBehind_20 : decode cX1_roomBehind 20 = .ok (.getfield 149, 3) := by decide +kernel
theorem dX1_roomBehind_23 : decode cX1_roomBehind 23 = .ok (.iload_n 2, 1) := by decide +kernel
theorem dX1_roomBehind_24 : decode cX1_roomBehind 24 = .ok (.if_icmp .ne 13, 3) := by decide +kernel
theorem dX1_roomBehind_27 : decode cX1_roomBehind 27 = .ok (.aload_n 0, 1) := by decide +kernel
theorem dX1_roomBehind_28 : decode cX1_roomBehind 28 = .ok (.getfield 11, 3) := by decide +kernel
theorem dX1_roomBehind_31 : decode cX1_roomBehind 31 = .ok (.iload_n 1, 1) := by decide +kernel
theorem dX1_roomBehind_32 : decode cX1_roomBehind 32 = .ok (.aaload, 1) := by decide +kernel
theorem dX1_roomBehind_33 : decode cX1_roomBehind 33 = .ok (.getfield 152, 3) := by decide +kernel
theorem dX1_roomBehind_36 : decode cX1_roomBehind 36 = .ok (.ireturn, 1) := by decide +kernel
theorem dX1_roomBehind_37 : decode cX1_roomBehind 37 = .ok (.aload_n 0, 1) := by decide +kernel
theorem dX1_roomBehind_38 : decode cX1_roomBehind 38 = .ok (.getfield 11, 3) := by decide +kernel
theorem dX1_roomBehind_41 : decode cX1_roomBehind 41 = .ok (.iload_n 1, 1) := by decide +kernel
theorem dX1_roomBehind_42 : decode cX1_roomBehind 42 = .ok (.aaload, 1) := by decide +kernel
theorem dX1_roomBehind_43 : decode cX1_roomBehind 43 = .ok (.getfield 152, 3) := by decide +kernel
theorem dX1_roomBehind_46 : decode cX1_roomBehind 46 = .ok (.iload_n 2, 1) := by decide +kernel
theorem dX1_roomBehind_47 : decode cX1_roomBehind 47 = .ok (.if_icmp .ne 15, 3) := by decide +kernel
theorem dX1_roomBehind_50 : decode cX1_roomBehind 50 = .ok (.aload_n 0, 1) := by decide +kernel
theorem dX1_roomBehind_51 : decode cX1_roomBehind 51 = .ok (.getfield 11, 3) := by decide +kernel
theorem dX1_roomBehind_54 : decode cX1_roomBehind 54 = .ok (.iload_n 1, 1) := by decide +kernel
theorem dX1_roomBehind_55 : decode cX1_roomBehind 55 = .ok (.aaload, 1) := by decide +kernel
theorem dX1_roomBehind_56 : decode cX1_roomBehind 56 = .ok (.getfield 149, 3) := by decide +kernel
theorem dX1_roomBehind_59 : decode cX1_roomBehind 59 = .ok (.goto 4, 3) := by decide +kernel
theorem dX1_roomBehind_62 : decode cX1_roomBehind 62 = .ok (.iconst (-1), 1) := by decide +kernel
theorem dX1_roomBehind_63 : decode cX1_roomBehind 63 = .ok (.ireturn, 1) := by decide +kernel
theorem dX1_roomsBeside_0 : decode cX1_roomsBeside 0 = .ok (.iconst 0, 1) := by decide +kernel
theorem dX1_roomsBeside_1 : decode cX1_roomsBeside 1 = .ok (.istore_n 3, 1) := by decide +kernel
theorem dX1_roomsBeside_2 : decode cX1_roomsBeside 2 = .ok (.iconst 0, 1) := by decide +kernel
theorem dX1_roomsBeside_3 : decode cX1_roomsBeside 3 = .ok (.istore 4, 2) := by decide +kernel
theorem dX1_roomsBeside_5 : decode cX1_roomsBeside 5 = .ok (.iload 4, 2) := by decide +kernel
theorem dX1_roomsBeside_7 : decode cX1_roomsBeside 7 = .ok (.aload_n 0, 1) := by decide +kernel
theorem dX1_roomsBeside_8 : decode cX1_roomsBeside 8 = .ok (.getfield 34, 3) := by decide +kernel
theorem dX1_roomsBeside_11 : decode cX1_roomsBeside 11 = .ok (.if_icmp .ge 88, 3) := by decide +kernel
theorem dX1_roomsBeside_14 : decode cX1_roomsBeside 14 = .ok (.aload_n 0, 1) := by decide +kernel
theorem dX1_roomsBeside_15 : decode cX1_roomsBeside 15 = .ok (.getfield 11, 3) := by decide +kernel
theorem dX1_roomsBeside_18 : decode cX1_roomsBeside 18 = .ok (.iload 4, 2) := by decide +kernel
theorem dX1_roomsBeside_20 : decode cX1_roomsBeside 20 = .ok (.aaload, 1) := by decide +kernel
theorem dX1_roomsBeside_21 : decode cX1_roomsBeside 21 = .ok (.getfield 130, 3) := by decide +kernel
theorem dX1_roomsBeside_24 : decode cX1_roomsBeside 24 = .ok (.ifCond .ne 9, 3) := by decide +kernel
theorem dX1_roomsBeside_27 : decode cX1_roomsBeside 27 = .ok (.iload 4, 2) := by decide +kernel
theorem dX1_roomsBeside_29 : decode cX1_roomsBeside 29 = .ok (.iload_n 2, 1) := by decide +kernel
theorem dX1_roomsBeside_30 : decode cX1_roomsBeside 30 = .ok (.if_icmp .ne 63, 3) := by decide +kernel
theorem dX1_roomsBeside_33 : decode cX1_roomsBeside 33 = .ok (.iconst 1, 1) := by decide +kernel
theorem dX1_roomsBeside_34 : decode cX1_roomsBeside 34 = .ok (.aload_n 0, 1) := by decide +kernel
theorem dX1_roomsBeside_35 : decode cX1_roomsBeside 35 = .ok (.getfield 11, 3) := by decide +kernel
theorem dX1_roomsBeside_38 : decode cX1_roomsBeside 38 = .ok (.iload 4, 2) := by decide +kernel
theorem dX1_roomsBeside_40 : decode cX1_roomsBeside 40 = .ok (.aaload, 1) := by decide +kernel
theorem dX1_roomsBeside_41 : decode cX1_roomsBeside 41 = .ok (.getfield 149, 3) := by decide +kernel
theorem dX1_roomsBeside_44 : decode cX1_roomsBeside 44 = .ok (.ishl, 1) := by decide +kernel
theorem dX1_roomsBeside_45 : decode cX1_roomsBeside 45 = .ok (.istore 5, 2) := by decide +kernel
theorem dX1_roomsBeside_47 : decode cX1_roomsBeside 47 = .ok (.iconst 1, 1) := by decide +kernel
theorem dX1_roomsBeside_48 : decode cX1_roomsBeside 48 = .ok (.aload_n 0, 1) := by decide +kernel
theorem dX1_roomsBeside_49 : decode cX1_roomsBeside 49 = .ok (.getfield 11, 3) := by decide +kernel
theorem dX1_roomsBeside_52 : decode cX1_roomsBeside 52 = .ok (.iload 4, 2) := by decide +kernel
theorem dX1_roomsBeside_54 : decode cX1_roomsBeside 54 = .ok (.aaload, 1) := by decide +kernel
theorem dX1_roomsBeside_55 : decode cX1_roomsBeside 55 = .ok (.getfield 152, 3) := by decide +kernel
theorem dX1_roomsBeside_58 : decode cX1_roomsBeside 58 = .ok (.ishl, 1) := by decide +kernel
theorem dX1_roomsBeside_59 : decode cX1_roomsBeside 59 = .ok (.istore 6, 2) := by decide +kernel
theorem dX1_roomsBeside_61 : decode cX1_roomsBeside 61 = .ok (.iload_n 3, 1) := by decide +kernel
theorem dX1_roomsBeside_62 : decode cX1_roomsBeside 62 = .ok (.iload_n 1, 1) := by decide +kernel
theorem dX1_roomsBeside_63 : decode cX1_roomsBeside 63 = .ok (.iload 5, 2) := by decide +kernel
theorem dX1_roomsBeside_65 : decode cX1_roomsBeside 65 = .ok (.iand, 1) := by decide +kernel
theorem dX1_roomsBeside_66 : decode cX1_roomsBeside 66 = .ok (.ifCond .eq 8, 3) := by decide +kernel
theorem dX1_roomsBeside_69 : decode cX1_roomsBeside 69 = .ok (.iload 6, 2) := by decide +kernel
theorem dX1_roomsBeside_71 : decode cX1_roomsBeside 71 = .ok (.goto 4, 3) := by decide +kernel
theorem dX1_roomsBeside_74 : decode cX1_roomsBeside 74 = .ok (.iconst 0, 1) := by decide +kernel
theorem dX1_roomsBeside_75 : decode cX1_roomsBeside 75 = .ok (.ior, 1) := by decide +kernel
theorem dX1_roomsBeside_76 : decode cX1_roomsBeside 76 = .ok (.istore_n 3, 1) := by decide +kernel
theorem dX1_roomsBeside_77 : decode cX1_roomsBeside 77 = .ok (.iload_n 3, 1) := by decide +kernel
theorem dX1_roomsBeside_78 : decode cX1_roomsBeside 78 = .ok (.iload_n 1, 1) := by decide +kernel
theorem dX1_roomsBeside_79 : decode cX1_roomsBeside 79 = .ok (.iload 6, 2) := by decide +kernel
theorem dX1_roomsBeside_81 : decode cX1_roomsBeside 81 = .ok (.iand, 1) := by decide +kernel
theorem dX1_roomsBeside_82 : decode cX1_roomsBeside 82 = .ok (.ifCond .eq 8, 3) := by decide +kernel
theorem dX1_roomsBeside_85 : decode cX1_roomsBeside 85 = .ok (.iload 5, 2) := by decide +kernel
theorem dX1_roomsBeside_87 : decode cX1_roomsBeside 87 = .ok (.goto 4, 3) := by decide +kernel
theorem dX1_roomsBeside_90 : decode cX1_roomsBeside 90 = .ok (.iconst 0, 1) := by decide +kernel
theorem dX1_roomsBeside_91 : decode cX1_roomsBeside 91 = .ok (.ior, 1) := by decide +kernel
theorem dX1_roomsBeside_92 : decode cX1_roomsBeside 92 = .ok (.istore_n 3, 1) := by decide +kernel
theorem dX1_roomsBeside_93 : decode cX1_roomsBeside 93 = .ok (.iinc 4 1, 3) := by decide +kernel
theorem dX1_roomsBeside_96 : decode cX1_roomsBeside 96 = .ok (.goto (-91), 3) := by decide +kernel
theorem dX1_roomsBeside_99 : decode cX1_roomsBeside 99 = .ok (.iload_n 3, 1) := by decide +kernel
theorem dX1_roomsBeside_100 : decode cX1_roomsBeside 100 = .ok (.ireturn, 1) := by decide +kernel
theorem dX2_init_0 : decode cX2_init 0 = .ok (.aload_n 0, 1) := by decide +kernel
theorem dX2_init_1 : decode cX2_init 1 = .ok (.invokespecial 3, 3) := by decide +kernel
theorem dX2_init_4 : decode cX2_init 4 = .ok (.aload_n 0, 1) := by decide +kernel
theorem dX2_init_5 : decode cX2_init 5 = .ok (.iconst 5, 1) := by decide +kernel
theorem dX2_init_6 : decode cX2_init 6 = .ok (.newarray .int, 2) := by decide +kernel
theorem dX2_init_8 : decode cX2_init 8 = .ok (.putfield 9, 3) := by decide +kernel
theorem dX2_init_11 : decode cX2_init 11 = .ok (.aload_n 0, 1) := by decide +kernel
theorem dX2_init_12 : decode cX2_init 12 = .ok (.bipush 60, 2) := by decide +kernel
theorem dX2_init_14 : decode cX2_init 14 = .ok (.newarray .char, 2) := by decide +kernel
theorem dX2_init_16 : decode cX2_init 16 = .ok (.putfield 15, 3) := by decide +kernel
theorem dX2_init_19 : decode cX2_init 19 = .ok (.return_, 1) := by decide +kernel
theorem dX2_empty_0 : decode cX2_empty 0 = .ok (.aload_n 0, 1) := by decide +kernel
theorem dX2_empty_1 : decode cX2_empty 1 = .ok (.iconst 0, 1) := by decide +kernel
theorem dX2_empty_2 : decode cX2_empty 2 = .ok (.putfield 19, 3) := by decide +kernel
theorem dX2_empty_5 : decode cX2_empty 5 = .ok (.return_, 1) := by decide +kernel
theorem dX2_rewind_0 : decode cX2_rewind 0 = .ok (.aload_n 0, 1) := by decide +kernel
theorem dX2_rewind_1 : decode cX2_rewind 1 = .ok (.iconst 0, 1) := by decide +kernel
theorem dX2_rewind_2 : decode cX2_rewind 2 = .ok (.putfield 23, 3) := by decide +kernel
theorem dX2_rewind_5 : decode cX2_rewind 5 = .ok (.return_, 1) := by decide +kernel
theorem dX2_addPacked_0 : decode cX2_addPacked 0 = .ok (.bipush 24, 2) := by decide +kernel
theorem dX2_addPacked_2 : decode cX2_addPacked 2 = .ok (.istore_n 2, 1) := by decide +kernel
theorem dX2_addPacked_3 : decode cX2_addPacked 3 = .ok (.iload_n 2, 1) := by decide +kernel
theorem dX2_addPacked_4 : decode cX2_addPacked 4 = .ok (.ifCond .lt 51, 3) := by decide +kernel
theorem dX2_addPacked_7 : decode cX2_addPacked 7 = .ok (.iload_n 1, 1) := by decide +kernel
theorem dX2_addPacked_8 : decode cX2_addPacked 8 = .ok (.iload_n 2, 1) := by decide +kernel
theorem dX2_addPacked_9 : decode cX2_addPacked 9 = .ok (.iushr, 1) := by decide +kernel
theorem dX2_addPacked_10 : decode cX2_addPacked 10 = .ok (.sipush 255, 3) := by decide +kernel
theorem dX2_addPacked_13 : decode cX2_addPacked 13 = .ok (.iand, 1) := by decide +kernel
theorem dX2_addPacked_14 : decode cX2_addPacked 14 = .ok (.istore_n 3, 1) := by decide +kernel
theorem dX2_addPacked_15 : decode cX2_addPacked 15 = .ok (.iload_n 3, 1) := by decide +kernel
theorem dX2_addPacked_16 : decode cX2_addPacked 16 = .ok (.ifCond .eq 33, 3) := by decide +kernel
theorem dX2_addPacked_19 : decode cX2_addPacked 19 = .ok (.aload_n 0, 1) := by decide +kernel
theorem dX2_addPacked_20 : decode cX2_addPacked 20 = .ok (.getfield 19, 3) := by decide +kernel
theorem dX2_addPacked_23 : decode cX2_addPacked 23 = .ok (.bipush 60, 2) := by decide +kernel
theorem dX2_addPacked_25 : decode cX2_addPacked 25 = .ok (.if_icmp .ge 24, 3) := by decide +kernel
theorem dX2_addPacked_28 : decode cX2_addPacked 28 = .ok (.aload_n 0, 1) := by decide +kernel
theorem dX2_addPacked_29 : decode cX2_addPacked 29 = .ok (.getfield 15, 3) := by decide +kernel
theorem dX2_addPacked_32 : decode cX2_addPacked 32 = .ok (.aload_n 0, 1) := by decide +kernel
theorem dX2_addPacked_33 : decode cX2_addPacked 33 = .ok (.getfield 19, 3) := by decide +kernel
theorem dX2_addPacked_36 : decode cX2_addPacked 36 = .ok (.iload_n 3, 1) := by decide +kernel
theorem dX2_addPacked_37 : decode cX2_addPacked 37 = .ok (.i2c, 1) := by decide +kernel
theorem dX2_addPacked_38 : decode cX2_addPacked 38 = .ok (.castore, 1) := by decide +kernel
theorem dX2_addPacked_39 : decode cX2_addPacked 39 = .ok (.aload_n 0, 1) := by decide +kernel
theorem dX2_addPacked_40 : decode cX2_addPacked 40 = .ok (.dup, 1) := by decide +kernel
theorem dX2_addPacked_41 : decode cX2_addPacked 41 = .ok (.getfield 19, 3) := by decide +kernel
theorem dX2_addPacked_44 : decode cX2_addPacked 44 = .ok (.iconst 1, 1) := by decide +kernel
theorem dX2_addPacked_45 : decode cX2_addPacked 45 = .ok (.iadd, 1) := by decide +kernel
theorem dX2_addPacked_46 : decode cX2_addPacked 46 = .ok (.putfield 19, 3) := by decide +kernel
theorem dX2_addPacked_49 : decode cX2_addPacked 49 = .ok (.iinc 2 (-8), 3) := by decide +kernel
theorem dX2_addPacked_52 : decode cX2_addPacked 52 = .ok (.goto (-49), 3) := by decide +kernel
theorem dX2_addPacked_55 : decode cX2_addPacked 55 = .ok (.return_, 1) := by decide +kernel
set_option maxRecDepth 20000 in
theorem ggX2_countOrders_X2_rewind : GoodIn wsX2_countOrders wsX2_rewind := goodIn_r _ [7, 1, 152, 153, 154, 155, 156, 157] (by decide +kernel) (by decide +kernel)
set_option maxRecDepth 20000 in
theorem gX2_countOrders_X2_rewind : GoodIn wsX2_countOrders (wsV RX2 26 RX2 yX2_rewind wsX2_rewind) := goodIn_app (goodIn_of _ (by decide +kernel)) ggX2_countOrders_X2_rewind
set_option maxRecDepth 20000 in
theorem ggX2_countOrders_X2_takeOrder : GoodIn wsX2_countOrders wsX2_takeOrder := goodIn_ca (goodIn_r _ [11, 1, 12, 13, 14, 15, 16, 17, 18, 6, 19, 20, 21, 22, 23, 24, 2, 25, 26, 27, 28, 29, 30, 31, 32, 33, 34, 35, 36, 37, 38, 39, 40, 41, 42, 43, 44, 45, 46, 47, 48, 49, 50, 51, 52, 53, 54, 55, 56, 57, 58, 59, 60, 61, 62, 63, 64, 65, 66, 67, 68, 69, 70, 71, 72, 73, 74, 75, 76, 77, 78, 79, 80, 81, 82, 83, 84, 85, 86, 87, 88, 89, 90, 91, 92, 93, 94, 95, 96, 97, 98, 99, 100, 101, 102, 103, 104, 105, 106, 107, 108, 109, 110, 111, 112, 113, 114, 115, 116, 117, 118, 119, 120, 121, 122, 123, 124, 125, 126, 127, 128, 129, 130, 131, 132, 133, 134, 135, 136, 137, 138, 139, 140, 141, 142, 143, 144, 145, 146, 147, 152, 153, 154, 155, 156, 157, 158, 159, 160, 161] (by decide +kernel) (by decide +kernel)) (goodIn_sub (fun _ h => List.mem_cons_of_mem _ (List.mem_append_right _ h)) (by decide +kernel))
set_option maxRecDepth 20000 in
theorem gX2_countOrders_X2_takeOrder : GoodIn wsX2_countOrders (wsV RX2 29 RX2 yX2_takeOrder wsX2_takeOrder) := goodIn_app (goodIn_of _ (by decide +kernel)) ggX2_countOrders_X2_takeOrder
set_option maxRecDepth 20000 in
theorem ggX2_countOrders_X2_takeSign : GoodIn wsX2_countOrders wsX2_takeSign := goodIn_ca (goodIn_r _ [151, 1, 2, 25, 152, 153, 154, 155, 156, 157] (by decide +kernel) (by decide +kernel)) (goodIn_sub (fun _ h => List.mem_cons_of_mem _ (List.mem_append_right _ h)) (by decide +kernel))
set_option maxRecDepth 20000 in
theorem gX2_countOrders_X2_takeSign : GoodIn wsX2_countOrders (wsV RX2 33 RX2 yX2_takeSign wsX2_takeSign) := goodIn_app (goodIn_of _ (by decide +kernel)) ggX2_countOrders_X2_takeSign
theorem dX2_countOrders_0 : decode cX2_countOrders 0 = .ok (.aload_n 0, 1) := by decide +kernel
theorem dX2_countOrders_1 : decode cX2_countOrders 1 = .ok (.invokevirtual 26, 3) := by decide +kernel
theorem dX2_countOrders_4 : decode cX2_countOrders 4 = .ok (.iconst 1, 1) := by decide +kernel
theorem dX2_countOrders_5 : decode cX2_countOrders 5 = .ok (.istore_n 1, 1) := by decide +kernel
theorem dX2_countOrders_6 : decode cX2_countOrders 6 = .ok (.iload_n 1, 1) := by decide +kernel
theorem dX2_countOrders_7 : decode cX2_countOrders 7 = .ok (.bipush 60, 2) := by decide +kernel
theorem dX2_countOrders_9 : decode cX2_countOrders 9 = .ok (.if_icmp .gt 42, 3) := by decide +kernel
theorem dX2_countOrders_12 : decode cX2_countOrders 12 = .ok (.aload_n 0, 1) := by decide +kernel
theorem dX2_countOrders_13 : decode cX2_countOrders 13 = .ok (.invokevirtual 29, 3) := by decide +kernel
theorem dX2_countOrders_16 : decode cX2_countOrders 16 = .ok (.ifCond .ne 5, 3) := by decide +kernel
theorem dX2_countOrders_19 : decode cX2_countOrders 19 = .ok (.iconst (-1), 1) := by decide +kernel
theorem dX2_countOrders_20 : decode cX2_countOrders 20 = .ok (.ireturn, 1) := by decide +kernel
theorem dX2_countOrders_21 : decode cX2_countOrders 21 = .ok (.aload_n 0, 1) := by decide +kernel
theorem dX2_countOrders_22 : decode cX2_countOrders 22 = .ok (.getfield 23, 3) := by decide +kernel
theorem dX2_countOrders_25 : decode cX2_countOrders 25 = .ok (.aload_n 0, 1) := by decide +kernel
theorem dX2_countOrders_26 : decode cX2_countOrders 26 = .ok (.getfield 19, 3) := by decide +kernel
theorem dX2_countOrders_29 : decode cX2_countOrders 29 = .ok (.if_icmp .lt 5, 3) := by decide +kernel
theorem dX2_countOrders_32 : decode cX2_countOrders 32 = .ok (.iload_n 1, 1) := by decide +kernel
theorem dX2_countOrders_33 : decode cX2_countOrders 33 = .ok (.ireturn, 1) := by decide +kernel
theorem dX2_countOrders_34 : decode cX2_countOrders 34 = .ok (.aload_n 0, 1) := by decide +kernel
theorem dX2_countOrders_35 : decode cX2_countOrders 35 = .ok (.bipush 59, 2) := by decide +kernel
theorem dX2_countOrders_37 : decode cX2_countOrders 37 = .ok (.invokevirtual 33, 3) := by decide +kernel
theorem dX2_countOrders_40 : decode cX2_countOrders 40 = .ok (.ifCond .ne 5, 3) := by decide +kernel
theorem dX2_countOrders_43 : decode cX2_countOrders 43 = .ok (.iconst (-1), 1) := by decide +kernel
theorem dX2_countOrders_44 : decode cX2_countOrders 44 = .ok (.ireturn, 1) := by decide +kernel
theorem dX2_countOrders_45 : decode cX2_countOrders 45 = .ok (.iinc 1 1, 3) := by decide +kernel
theorem dX2_countOrders_48 : decode cX2_countOrders 48 = .ok (.goto (-42), 3) := by decide +kernel
theorem dX2_countOrders_51 : decode cX2_countOrders 51 = .ok (.iconst (-1), 1) := by decide +kernel
theorem dX2_countOrders_52 : decode cX2_countOrders 52 = .ok (.ireturn, 1) := by decide +kernel
theorem dX2_takeSign_0 : decode cX2_takeSign 0 = .ok (.aload_n 0, 1) := by decide +kernel
theorem dX2_takeSign_1 : decode cX2_takeSign 1 = .ok (.getfield 23, 3) := by decide +kernel
theorem dX2_takeSign_4 : decode cX2_takeSign 4 = .ok (.aload_n 0, 1) := by decide +kernel
theorem dX2_takeSign_5 : decode cX2_takeSign 5 = .ok (.getfield 19, 3) := by decide +kernel
theorem dX2_takeSign_8 : decode cX2_takeSign 8 = .ok (.if_icmp .ge 16, 3) := by decide +kernel
theorem dX2_takeSign_11 : decode cX2_takeSign 11 = .ok (.aload_n 0, 1) := by decide +kernel
theorem dX2_takeSign_12 : decode cX2_takeSign 12 = .ok (.getfield 15, 3) := by decide +kernel
theorem dX2_takeSign_15 : decode cX2_takeSign 15 = .ok (.aload_n 0, 1) := by decide +kernel
theorem dX2_takeSign_16 : decode cX2_takeSign 16 = .ok (.getfield 23, 3) := by decide +kernel
theorem dX2_takeSign_19 : decode cX2_takeSign 19 = .ok (.caload, 1) := by decide +kernel
theorem dX2_takeSign_20 : decode cX2_takeSign 20 = .ok (.iload_n 1, 1) := by decide +kernel
theorem dX2_takeSign_21 : decode cX2_takeSign 21 = .ok (.if_icmp .eq 5, 3) := by decide +kernel
theorem dX2_takeSign_24 : decode cX2_takeSign 24 = .ok (.iconst 0, 1) := by decide +kernel
theorem dX2_takeSign_25 : decode cX2_takeSign 25 = .ok (.ireturn, 1) := by decide +kernel
theorem dX2_takeSign_26 : decode cX2_takeSign 26 = .ok (.aload_n 0, 1) := by decide +kernel
theorem dX2_takeSign_27 : decode cX2_takeSign 27 = .ok (.dup, 1) := by decide +kernel
theorem dX2_takeSign_28 : decode cX2_takeSign 28 = .ok (.getfield 23, 3) := by decide +kernel
theorem dX2_takeSign_31 : decode cX2_takeSign 31 = .ok (.iconst 1, 1) := by decide +kernel
theorem dX2_takeSign_32 : decode cX2_takeSign 32 = .ok (.iadd, 1) := by decide +kernel
theorem dX2_takeSign_33 : decode cX2_takeSign 33 = .ok (.putfield 23, 3) := by decide +kernel
theorem dX2_takeSign_36 : decode cX2_takeSign 36 = .ok (.iconst 1, 1) := by decide +kernel
theorem dX2_takeSign_37 : decode cX2_takeSign 37 = .ok (.ireturn, 1) := by decide +kernel
set_option maxRecDepth 20000 in
theorem ggX2_takeOrder_X2_patternOf : GoodIn wsX2_takeOrder wsX2_patternOf := goodIn_r _ [10] (by decide +kernel) (by decide +kernel)
set_option maxRecDepth 20000 in
theorem gX2_takeOrder_X2_patternOf : GoodIn wsX2_takeOrder (va_wsS RX2 37 yX2_patternOf wsX2_patternOf) := goodIn_app (goodIn_of _ (by decide +kernel)) ggX2_takeOrder_X2_patternOf
set_option maxRecDepth 20000 in
theorem ggX2_takeOrder_X2_endOfMatch : GoodIn wsX2_takeOrder wsX2_endOfMatch := goodIn_ca (goodIn_r _ [14, 15, 1, 16, 17, 18, 19, 20, 21, 22, 23, 24, 25, 26, 27, 28, 29, 30, 31, 32, 33, 34, 35, 36, 37, 38, 39, 40, 41, 42, 43, 44, 45, 46, 47, 48, 49, 50, 51, 52, 53, 54, 55, 56, 57, 58, 59, 60, 61, 62, 63, 64, 65, 66, 67, 68, 69, 9, 70, 71, 72, 73, 74, 75, 76, 77, 78, 79, 80, 81, 82, 83, 84, 85, 86, 87, 88, 89, 90, 91, 92, 93, 94, 4, 5, 6, 95, 96, 97, 98, 99, 100, 101, 102, 103, 104, 105, 106, 107, 108, 109, 110, 111, 112, 113, 114, 115, 116, 117, 118, 119, 120, 121, 122, 123, 124, 125, 126, 127, 128, 129, 130, 131, 132, 133, 134, 135, 136, 137, 138, 139, 140, 141, 142, 143, 144, 145, 146, 147, 148, 149] (by decide +kernel) (by decide +kernel)) (goodIn_sub (fun _ h => List.mem_cons_of_mem _ (List.mem_append_right _ h)) (by decide +kernel))
