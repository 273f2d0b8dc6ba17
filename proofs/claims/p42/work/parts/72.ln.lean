def wsNL_faults : List Cond := .code yL_faults cL_faults 3 (some .boolean) :: ((wsL_faults_r1 ++ (wsL_faults_r2 ++ (wsL_faults_r3 ++ (wsL_faults_r4 ++ (wsL_faults_r5 ++ (wsL_faults_r6 ++ (wsL_faults_r7 ++ (wsL_faults_r8 ++ (wsL_faults_r9 ++ (wsL_faults_r10 ++ (wsL_faults_r11 ++ (wsL_faults_r12 ++ (wsL_faults_r13 ++ (wsL_faults_r14 ++ (wsL_faults_r15 ++ (wsL_faults_r16 ++ (wsL_faults_r17 ++ (wsL_faults_r18 ++ wsL_faults_r19)))))))))))))))))) ++ wsJ00 ++ wsX60 ++ wsX20 ++ wsX30 ++ wsX10 ++ wsX00 ++ (vx_atS RX6 172 "java/lang/IllegalArgumentException" ["java/lang/RuntimeException", "java/lang/Exception"]).filter goodWord ++ (vx_atS RX6 322 "java/lang/IllegalStateException" ["java/lang/RuntimeException", "java/lang/Exception"]).filter goodWord ++ (vx_atM "java/lang/ArrayIndexOutOfBoundsException" ["java/lang/IndexOutOfBoundsException", "java/lang/RuntimeException", "java/lang/Exception"]).filter goodWord ++ (vx_atS RX6 394 "java/lang/UnsupportedOperationException" ["java/lang/RuntimeException", "java/lang/Exception"]).filter goodWord ++ (nxAt RX6 267 "java/util/NoSuchElementException" 13 rxNSE "java/lang/RuntimeException" ["java/lang/Exception"]).filter goodWord)
theorem dL_at_0 : decode cL_at 0 = .ok (.iload_n 1, 1) := by decide +kernel
theorem dL_at_1 : decode cL_at 1 = .ok (.aload_n 0, 1) := by decide +kernel
theorem dL_at_2 : decode cL_at 2 = .ok (.arraylength, 1) := by decide +kernel
theorem dL_at_3 : decode cL_at 3 = .ok (.if_icmp .ge 9, 3) := by decide +kernel
theorem dL_at_6 : decode cL_at 6 = .ok (.aload_n 0, 1) := by decide +kernel
theorem dL_at_7 : decode cL_at 7 = .ok (.iload_n 1, 1) := by decide +kernel
theorem dL_at_8 : decode cL_at 8 = .ok (.iaload, 1) := by decide +kernel
theorem dL_at_9 : decode cL_at 9 = .ok (.goto 4, 3) := by decide +kernel
theorem dL_at_12 : decode cL_at 12 = .ok (.iconst 0, 1) := by decide +kernel
theorem dL_at_13 : decode cL_at 13 = .ok (.ireturn, 1) := by decide +kernel
set_option maxRecDepth 20000 in
theorem ggL_put_J0_length_8abf5 : GoodIn wsL_put wsJ0_length_8abf5 := goodIn_r _ [5, 6, 7, 8, 9, 4, 10, 11, 12, 68, 69, 70, 71] (by decide +kernel) (by decide +kernel)
set_option maxRecDepth 20000 in
theorem gL_put_J0_length_8abf5 : GoodIn wsL_put (wsV RL 7 RJ0 yJ0_length_8abf5 wsJ0_length_8abf5) := goodIn_app (goodIn_of _ (by decide +kernel)) ggL_put_J0_length_8abf5
set_option maxRecDepth 20000 in
theorem ggL_put_J0_charAt_5068e : GoodIn wsL_put wsJ0_charAt_5068e := goodIn_r _ [16, 6, 17, 18, 19, 4, 20, 11, 12, 21, 22, 23, 24, 25, 26, 27, 28, 29, 30, 31, 32, 33, 34, 35, 36, 37, 38, 39, 40, 41, 42, 43, 44, 45, 46, 47, 48, 49, 68, 69, 70, 71] (by decide +kernel) (by decide +kernel)
set_option maxRecDepth 20000 in
theorem gL_put_J0_charAt_5068e : GoodIn wsL_put (wsV RL 13 RJ0 yJ0_charAt_5068e wsJ0_charAt_5068e) := goodIn_app (goodIn_of _ (by decide +kernel)) ggL_put_J0_charAt_5068e
set_option maxRecDepth 20000 in
theorem ggL_put_X6_append : GoodIn wsL_put wsX6_append := goodIn_ca (goodIn_ca (goodIn_ca (goodIn_r _ [54, 55, 56, 57, 58, 59, 60, 61, 62, 63, 64, 65, 66, 67, 72, 73, 74, 75, 76, 77, 78, 79, 80, 81, 82, 83, 84, 85, 86, 87, 88] (by decide +kernel) (by decide +kernel)) (goodIn_sub (fun _ h => List.mem_cons_of_mem _ (List.mem_append_left _ (List.mem_append_left _ (List.mem_append_right _ h)))) (by decide +kernel))) (goodIn_sub (fun _ h => List.mem_cons_of_mem _ (List.mem_append_left _ (List.mem_append_right _ h))) (by decide +kernel))) (goodIn_sub (fun _ h => List.mem_cons_of_mem _ (List.mem_append_right _ h)) (by decide +kernel))
set_option maxRecDepth 20000 in
theorem gL_put_X6_append : GoodIn wsL_put (wsV RL 17 RX6 yX6_append wsX6_append) := goodIn_app (goodIn_of _ (by decide +kernel)) ggL_put_X6_append
theorem dL_put_0 : decode cL_put 0 = .ok (.iconst 0, 1) := by decide +kernel
theorem dL_put_1 : decode cL_put 1 = .ok (.istore_n 2, 1) := by decide +kernel
theorem dL_put_2 : decode cL_put 2 = .ok (.iload_n 2, 1) := by decide +kernel
theorem dL_put_3 : decode cL_put 3 = .ok (.aload_n 1, 1) := by decide +kernel
theorem dL_put_4 : decode cL_put 4 = .ok (.invokevirtual 7, 3) := by decide +kernel
theorem dL_put_7 : decode cL_put 7 = .ok (.if_icmp .ge 19, 3) := by decide +kernel
theorem dL_put_10 : decode cL_put 10 = .ok (.aload_n 0, 1) := by decide +kernel
theorem dL_put_11 : decode cL_put 11 = .ok (.aload_n 1, 1) := by decide +kernel
theorem dL_put_12 : decode cL_put 12 = .ok (.iload_n 2, 1) := by decide +kernel
theorem dL_put_13 : decode cL_put 13 = .ok (.invokevirtual 13, 3) := by decide +kernel
theorem dL_put_16 : decode cL_put 16 = .ok (.invokevirtual 17, 3) := by decide +kernel
theorem dL_put_19 : decode cL_put 19 = .ok (.pop, 1) := by decide +kernel
theorem dL_put_20 : decode cL_put 20 = .ok (.iinc 2 1, 3) := by decide +kernel
theorem dL_put_23 : decode cL_put 23 = .ok (.goto (-21), 3) := by decide +kernel
theorem dL_put_26 : decode cL_put 26 = .ok (.return_, 1) := by decide +kernel
set_option maxRecDepth 20000 in
theorem ggL_build_X6_init : GoodIn wsL_build wsX6_init := goodIn_ca (goodIn_r _ [10, 11, 12, 13, 14, 15, 16, 17, 18, 19, 20, 21, 22, 23, 24, 25, 26, 27, 28, 29, 30, 31, 32, 33, 34, 35, 36, 37, 38, 39, 40, 41, 42, 43, 44, 45, 46, 47, 48, 49, 50, 51, 52, 53, 54, 55, 56, 57, 58, 59, 60, 61, 62, 63, 64, 65, 66, 67, 68, 69, 70, 71, 72, 73, 74, 75, 76, 77, 78, 79, 80, 81, 82, 83, 84, 85, 86, 87, 88, 89, 90, 91, 92, 93, 94, 95, 96, 97, 98, 99, 100, 101, 102, 103, 104, 105, 106, 107, 108, 109, 110, 111, 112, 113, 114, 115, 116, 117, 118, 119, 120, 121, 122, 123, 124, 125, 126, 127, 128, 129, 130, 131, 132, 133, 134, 135, 412, 413, 414, 415, 416, 417, 418, 419, 420, 421, 422, 423, 401, 402, 403, 404, 405, 406, 407, 408, 409, 410, 411, 424, 425, 426, 427, 428, 429, 430, 431, 432, 433, 434, 435, 436, 437, 438, 439, 440, 441, 442, 443, 444, 445, 446, 447, 448, 449, 450] (by decide +kernel) (by decide +kernel)) (goodIn_sub (fun _ h => List.mem_cons_of_mem _ (List.mem_append_left _ (List.mem_append_left _ (List.mem_append_left _ (List.mem_append_right _ h))))) (by decide +kernel))
set_option maxRecDepth 20000 in
theorem gL_build_X6_init : GoodIn wsL_build (wsX6_init) := ggL_build_X6_init
set_option maxRecDepth 20000 in
theorem ggL_build_L_at : GoodIn wsL_build wsL_at := goodIn_ca (goodIn_r _ [139] (by decide +kernel) (by decide +kernel)) (goodIn_sub (fun _ h => List.mem_cons_of_mem _ (List.mem_append_left _ (List.mem_append_left _ (List.mem_append_left _ (List.mem_append_right _ h))))) (by decide +kernel))
set_option maxRecDepth 20000 in
theorem gL_build_L_at : GoodIn wsL_build (va_wsS RL 24 yL_at wsL_at) := goodIn_app (goodIn_of _ (by decide +kernel)) ggL_build_L_at
set_option maxRecDepth 20000 in
theorem ggL_build_L_act : GoodIn wsL_build wsL_act := goodIn_ca (goodIn_ca (goodIn_ca (goodIn_ca (goodIn_r _ [142, 143, 144, 145, 146, 3, 147, 22, 17, 148, 149, 150, 151, 152, 153, 154, 155, 156, 157, 158, 159, 36, 37, 160, 161, 162, 163, 164, 165, 166, 167, 168, 169, 170, 171, 21, 172, 173, 174, 175, 176, 177, 178, 179, 180, 117, 118, 119, 181, 182, 183, 184, 185, 186, 187, 16, 188, 45, 47, 189, 190, 191, 192, 48, 49, 50, 61, 62, 63, 64, 65, 66, 67, 193, 194, 195, 52, 196, 197, 198, 199, 200, 201, 56, 202, 203, 204, 205, 206, 207, 208, 209, 210, 211, 212, 213, 214, 215, 216, 217, 218, 219, 220, 221, 222, 223, 224, 225, 226, 227, 228, 229, 230, 231, 232, 233, 234, 235, 236, 237, 238, 239, 240, 241, 242, 243, 244, 245, 246, 247, 248, 249, 250, 251, 252, 253, 254, 255, 256, 257, 258, 259, 260, 261, 262, 263, 264, 265, 266, 267, 268, 269, 270, 271, 272, 273, 274, 275, 276, 277, 278, 279, 280, 281, 68, 69, 70, 282, 283, 284, 285, 286, 287, 288, 289, 290, 291, 292, 293, 294, 295, 296, 297, 298, 299, 300, 301, 302, 303, 304, 305, 306, 307, 308, 309, 310, 311, 312, 313, 314, 315, 316, 317, 318, 319, 320, 321, 322, 323, 324, 325, 326, 327, 328, 329, 330, 331, 332, 333, 334, 335, 336, 337, 338, 339, 340, 341, 342, 343, 344, 345, 346, 347, 348, 349, 350, 351, 352, 353, 354, 355, 356, 357, 358, 359, 360, 361, 362, 363, 364, 365, 366, 367, 401, 402, 403, 404, 405, 406, 407, 408, 409, 410, 411, 412, 413, 414, 415, 416, 417, 418, 419, 420, 421, 422, 423, 424, 425, 426, 437, 438, 439, 440, 441, 442, 443, 444, 445, 446] (by decide +kernel) (by decide +kernel)) (goodIn_sub (fun _ h => List.mem_cons_of_mem _ (List.mem_append_left _ (List.mem_append_left _ (List.mem_append_right _ h)))) (by decide +kernel))) (goodIn_sub (fun _ h => List.mem_cons_of_mem _ (List.mem_append_left _ (List.mem_append_right _ h))) (by decide +kernel))) (goodIn_sub (fun _ h => List.mem_cons_of_mem _ (List.mem_append_right _ h)) (by decide +kernel))) (goodIn_sub (fun _ h => List.mem_cons_of_mem _ (List.mem_append_left _ (List.mem_append_left _ (List.mem_append_left _ (List.mem_append_right _ h))))) (by decide +kernel))
set_option maxRecDepth 20000 in
theorem gL_build_L_act : GoodIn wsL_build (va_wsS RL 30 yL_act wsL_act) := goodIn_app (goodIn_of _ (by decide +kernel)) ggL_build_L_act
set_option maxRecDepth 20000 in
theorem ggL_build_X6_account : GoodIn wsL_build wsX6_account := goodIn_ca (goodIn_ca (goodIn_r _ [371, 163, 164, 17, 152, 229, 295, 372, 373, 374, 375, 34, 376, 22, 377, 314, 315, 316, 16, 317, 61, 45, 318, 319, 320, 321, 322, 323, 378, 379, 380, 381, 382, 383, 384, 385, 50, 401, 402, 403, 404, 405, 406, 407, 408, 409, 410, 411, 412, 413, 414, 415, 416, 417, 418, 419, 420, 421, 422, 423, 431, 432, 433, 434, 435, 436, 424, 425, 426, 437, 438, 439, 440, 441, 442, 443, 444, 445, 446] (by decide +kernel) (by decide +kernel)) (goodIn_sub (fun _ h => List.mem_cons_of_mem _ (List.mem_append_left _ (List.mem_append_left _ (List.mem_append_right _ h)))) (by decide +kernel))) (goodIn_sub (fun _ h => List.mem_cons_of_mem _ (List.mem_append_left _ (List.mem_append_left _ (List.mem_append_left _ (List.mem_append_right _ h))))) (by decide +kernel))
set_option maxRecDepth 20000 in
theorem gL_build_X6_account : GoodIn wsL_build (wsV RL 34 RX6 yX6_account wsX6_account) := goodIn_app (goodIn_of _ (by decide +kernel)) ggL_build_X6_account
set_option maxRecDepth 20000 in
theorem ggL_build_X6_doorOf : GoodIn wsL_build wsX6_doorOf := goodIn_ca (goodIn_ca (goodIn_ca (goodIn_r _ [389, 163, 164, 17, 255, 390, 391, 392, 256, 357, 313, 312, 393, 394, 395, 396, 397, 398, 3, 399, 165, 166, 257, 258, 259, 16, 260, 61, 154, 155, 400, 267, 268, 269, 265, 62, 47, 401, 402, 403, 404, 405, 406, 407, 408, 409, 410, 411, 412, 413, 414, 415, 416, 417, 418, 419, 420, 421, 422, 423, 437, 438, 439, 440, 441, 442, 443, 444, 445, 446] (by decide +kernel) (by decide +kernel)) (goodIn_sub (fun _ h => List.mem_cons_of_mem _ (List.mem_append_left _ (List.mem_append_left _ (List.mem_append_right _ h)))) (by decide +kernel))) (goodIn_sub (fun _ h => List.mem_cons_of_mem _ (List.mem_append_left _ (List.mem_append_right _ h))) (by decide +kernel))) (goodIn_sub (fun _ h => List.mem_cons_of_mem _ (List.mem_append_left _ (List.mem_append_left _ (List.mem_append_left _ (List.mem_append_right _ h))))) (by decide +kernel))
set_option maxRecDepth 20000 in
theorem gL_build_X6_doorOf : GoodIn wsL_build (wsV RL 43 RX6 yX6_doorOf wsX6_doorOf) := goodIn_app (goodIn_of _ (by decide +kernel)) ggL_build_X6_doorOf
theorem dL_build_0 : decode cL_build 0 = .ok (.new 18, 3) := by decide +kernel
theorem dL_build_3 : decode cL_build 3 = .ok (.dup, 1) := by decide +kernel
theorem dL_build_4 : decode cL_build 4 = .ok (.invokespecial 23, 3) := by decide +kernel
theorem dL_build_7 : decode cL_build 7 = .ok (.astore_n 1, 1) := by decide +kernel
theorem dL_build_8 : decode cL_build 8 = .ok (.aload_n 0, 1) := by decide +kernel
theorem dL_build_9 : decode cL_build 9 = .ok (.iconst 0, 1) := by decide +kernel
theorem dL_build_10 : decode cL_build 10 = .ok (.invokestatic 24, 3) := by decide +kernel
theorem dL_build_13 : decode cL_build 13 = .ok (.istore_n 2, 1) := by decide +kernel
theorem dL_build_14 : decode cL_build 14 = .ok (.iconst 0, 1) := by decide +kernel
theorem dL_build_15 : decode cL_build 15 = .ok (.istore_n 3, 1) := by decide +kernel
theorem dL_build_16 : decode cL_build 16 = .ok (.iload_n 3, 1) := by decide +kernel
theorem dL_build_17 : decode cL_build 17 = .ok (.iconst 3, 1) := by decide +kernel
theorem dL_build_18 : decode cL_build 18 = .ok (.iload_n 2, 1) := by decide +kernel
theorem dL_build_19 : decode cL_build 19 = .ok (.iconst 3, 1) := by decide +kernel
theorem dL_build_20 : decode cL_build 20 = .ok (.iand, 1) := by decide +kernel
theorem dL_build_21 : decode cL_build 21 = .ok (.iadd, 1) := by decide +kernel
theorem dL_build_22 : decode cL_build 22 = .ok (.if_icmp .ge 65, 3) := by decide +kernel
theorem dL_build_25 : decode cL_build 25 = .ok (.aload_n 1, 1) := by decide +kernel
theorem dL_build_26 : decode cL_build 26 = .ok (.iconst 0, 1) := by decide +kernel
theorem dL_build_27 : decode cL_build 27 = .ok (.iload_n 2, 1) := by decide +kernel
theorem dL_build_28 : decode cL_build 28 = .ok (.iconst 2, 1) := by decide +kernel
theorem dL_build_29 : decode cL_build 29 = .ok (.iload_n 3, 1) := by decide +kernel
theorem dL_build_30 : decode cL_build 30 = .ok (.iadd, 1) := by decide +kernel
theorem dL_build_31 : decode cL_build 31 = .ok (.ishr, 1) := by decide +kernel
theorem dL_build_32 : decode cL_build 32 = .ok (.iconst 3, 1) := by decide +kernel
theorem dL_build_33 : decode cL_build 33 = .ok (.iand, 1) := by decide +kernel
theorem dL_build_34 : decode cL_build 34 = .ok (.iconst 3, 1) := by decide +kernel
theorem dL_build_35 : decode cL_build 35 = .ok (.irem, 1) := by decide +kernel
theorem dL_build_36 : decode cL_build 36 = .ok (.iload_n 2, 1) := by decide +kernel
theorem dL_build_37 : decode cL_build 37 = .ok (.iconst 4, 1) := by decide +kernel
theorem dL_build_38 : decode cL_build 38 = .ok (.iload_n 3, 1) := by decide +kernel
theorem dL_build_39 : decode cL_build 39 = .ok (.iadd, 1) := by decide +kernel
theorem dL_build_40 : decode cL_build 40 = .ok (.ishr, 1) := by decide +kernel
theorem dL_build_41 : decode cL_build 41 = .ok (.iconst 3, 1) := by decide +kernel
theorem dL_build_42 : decode cL_build 42 = .ok (.iand, 1) := by decide +kernel
theorem dL_build_43 : decode cL_build 43 = .ok (.iconst 3, 1) := by decide +kernel
theorem dL_build_44 : decode cL_build 44 = .ok (.irem, 1) := by decide +kernel
theorem dL_build_45 : decode cL_build 45 = .ok (.iload_n 2, 1) := by decide +kernel
theorem dL_build_46 : decode cL_build 46 = .ok (.bipush 8, 2) := by decide +kernel
theorem dL_build_48 : decode cL_build 48 = .ok (.iload_n 3, 1) := by decide +kernel
theorem dL_build_49 : decode cL_build 49 = .ok (.iadd, 1) := by decide +kernel
theorem dL_build_50 : decode cL_build 50 = .ok (.ishr, 1) := by decide +kernel
theorem dL_build_51 : decode cL_build 51 = .ok (.iconst 1, 1) := by decide +kernel
theorem dL_build_52 : decode cL_build 52 = .ok (.iand, 1) := by decide +kernel
theorem dL_build_53 : decode cL_build 53 = .ok (.iload_n 2, 1) := by decide +kernel
theorem dL_build_54 : decode cL_build 54 = .ok (.bipush 12, 2) := by decide +kernel
theorem dL_build_56 : decode cL_build 56 = .ok (.iload_n 3, 1) := by decide +kernel
theorem dL_build_57 : decode cL_build 57 = .ok (.iadd, 1) := by decide +kernel
theorem dL_build_58 : decode cL_build 58 = .ok (.ishr, 1) := by decide +kernel
theorem dL_build_59 : decode cL_build 59 = .ok (.bipush 7, 2) := by decide +kernel
theorem dL_build_61 : decode cL_build 61 = .ok (.iand, 1) := by decide +kernel
theorem dL_build_62 : decode cL_build 62 = .ok (.bipush 6, 2) := by decide +kernel
theorem dL_build_64 : decode cL_build 64 = .ok (.irem, 1) := by decide +kernel
theorem dL_build_65 : decode cL_build 65 = .ok (.iload_n 2, 1) := by decide +kernel
theorem dL_build_66 : decode cL_build 66 = .ok (.bipush 17, 2) := by decide +kernel
theorem dL_build_68 : decode cL_build 68 = .ok (.iload_n 3, 1) := by decide +kernel
theorem dL_build_69 : decode cL_build 69 = .ok (.iadd, 1) := by decide +kernel
theorem dL_build_70 : decode cL_build 70 = .ok (.ishr, 1) := by decide +kernel
theorem dL_build_71 : decode cL_build 71 = .ok (.bipush 7, 2) := by decide +kernel
theorem dL_build_73 : decode cL_build 73 = .ok (.iand, 1) := by decide +kernel
theorem dL_build_74 : decode cL_build 74 = .ok (.bipush 6, 2) := by decide +kernel
theorem dL_build_76 : decode cL_build 76 = .ok (.irem, 1) := by decide +kernel
theorem dL_build_77 : decode cL_build 77 = .ok (.invokestatic 30, 3) := by decide +kernel
theorem dL_build_80 : decode cL_build 80 = .ok (.pop, 1) := by decide +kernel
theorem dL_build_81 : decode cL_build 81 = .ok (.iinc 3 1, 3) := by decide +kernel
theorem dL_build_84 : decode cL_build 84 = .ok (.goto (-68), 3) := by decide +kernel
theorem dL_build_87 : decode cL_build 87 = .ok (.aload_n 1, 1) := by decide +kernel
theorem dL_build_88 : decode cL_build 88 = .ok (.iconst 1, 1) := by decide +kernel
theorem dL_build_89 : decode cL_build 89 = .ok (.iload_n 2, 1) := by decide +kernel
theorem dL_build_90 : decode cL_build 90 = .ok (.bipush 24, 2) := by decide +kernel
theorem dL_build_92 : decode cL_build 92 = .ok (.ishr, 1) := by decide +kernel
theorem dL_build_93 : decode cL_build 93 = .ok (.iconst 3, 1) := by decide +kernel
theorem dL_build_94 : decode cL_build 94 = .ok (.iand, 1) := by decide +kernel
theorem dL_build_95 : decode cL_build 95 = .ok (.iconst 0, 1) := by decide +kernel
theorem dL_build_96 : decode cL_build 96 = .ok (.iconst 0, 1) := by decide +kernel
theorem dL_build_97 : decode cL_build 97 = .ok (.iconst 0, 1) := by decide +kernel
theorem dL_build_98 : decode cL_build 98 = .ok (.iconst 0, 1) := by decide +kernel
theorem dL_build_99 : decode cL_build 99 = .ok (.invokestatic 30, 3) := by decide +kernel
theorem dL_build_102 : decode cL_build 102 = .ok (.pop, 1) := by decide +kernel
theorem dL_build_103 : decode cL_build 103 = .ok (.iconst 1, 1) := by decide +kernel
theorem dL_build_104 : decode cL_build 104 = .ok (.istore_n 3, 1) := by decide +kernel
theorem dL_build_105 : decode cL_build 105 = .ok (.iload_n 3, 1) := by decide +kernel
theorem dL_build_106 : decode cL_build 106 = .ok (.bipush 13, 2) := by decide +kernel
theorem dL_build_108 : decode cL_build 108 = .ok (.if_icmp .ge 550, 3) := by decide +kernel
theorem dL_build_111 : decode cL_build 111 = .ok (.aload_n 0, 1) := by decide +kernel
theorem dL_build_112 : decode cL_build 112 = .ok (.iload_n 3, 1) := by decide +kernel
theorem dL_build_113 : decode cL_build 113 = .ok (.invokestatic 24, 3) := by decide +kernel
theorem dL_build_116 : decode cL_build 116 = .ok (.istore 4, 2) := by decide +kernel
theorem dL_build_118 : decode cL_build 118 = .ok (.iconst 1, 1) := by decide +kernel
theorem dL_build_119 : decode cL_build 119 = .ok (.aload_n 1, 1) := by decide +kernel
theorem dL_build_120 : decode cL_build 120 = .ok (.iconst 0, 1) := by decide +kernel
theorem dL_build_121 : decode cL_build 121 = .ok (.invokevirtual 34, 3) := by decide +kernel
theorem dL_build_124 : decode cL_build 124 = .ok (.invokestatic 37, 3) := by decide +kernel
theorem dL_build_127 : decode cL_build 127 = .ok (.istore 5, 2) := by decide +kernel
theorem dL_build_129 : decode cL_build 129 = .ok (.iload 4, 2) := by decide +kernel
theorem dL_build_131 : decode cL_build 131 = .ok (.bipush 7, 2) := by decide +kernel
theorem dL_build_133 : decode cL_build 133 = .ok (.iand, 1) := by decide +kernel
theorem dL_build_134 : decode cL_build 134 = .ok (.iload 5, 2) := by decide +kernel
theorem dL_build_136 : decode cL_build 136 = .ok (.irem, 1) := by decide +kernel
theorem dL_build_137 : decode cL_build 137 = .ok (.istore 6, 2) := by decide +kernel
theorem dL_build_139 : decode cL_build 139 = .ok (.iconst 1, 1) := by decide +kernel
theorem dL_build_140 : decode cL_build 140 = .ok (.aload_n 1, 1) := by decide +kernel
theorem dL_build_141 : decode cL_build 141 = .ok (.iconst 1, 1) := by decide +kernel
theorem dL_build_142 : decode cL_build 142 = .ok (.invokevirtual 34, 3) := by decide +kernel
theorem dL_build_145 : decode cL_build 145 = .ok (.invokestatic 37, 3) := by decide +kernel
theorem dL_build_148 : decode cL_build 148 = .ok (.istore 7, 2) := by decide +kernel
theorem dL_build_150 : decode cL_build 150 = .ok (.aload_n 1, 1) := by decide +kernel
theorem dL_build_151 : decode cL_build 151 = .ok (.iconst 0, 1) := by decide +kernel
theorem dL_build_152 : decode cL_build 152 = .ok (.invokevirtual 34, 3) := by decide +kernel
theorem dL_build_155 : decode cL_build 155 = .ok (.ifCond .le 142, 3) := by decide +kernel
theorem dL_build_158 : decode cL_build 158 = .ok (.iload 4, 2) := by decide +kernel
theorem dL_build_160 : decode cL_build 160 = .ok (.iconst 3, 1) := by decide +kernel
theorem dL_build_161 : decode cL_build 161 = .ok (.ishr, 1) := by decide +kernel
theorem dL_build_162 : decode cL_build 162 = .ok (.iconst 3, 1) := by decide +kernel
theorem dL_build_163 : decode cL_build 163 = .ok (.iand, 1) := by decide +kernel
theorem dL_build_164 : decode cL_build 164 = .ok (.ifCond .le 7, 3) := by decide +kernel
theorem dL_build_167 : decode cL_build 167 = .ok (.iconst 1, 1) := by decide +kernel
theorem dL_build_168 : decode cL_build 168 = .ok (.goto 4, 3) := by decide +kernel
theorem dL_build_171 : decode cL_build 171 = .ok (.iconst 0, 1) := by decide +kernel
theorem dL_build_172 : decode cL_build 172 = .ok (.istore 8, 2) := by decide +kernel
theorem dL_build_174 : decode cL_build 174 = .ok (.aload_n 1, 1) := by decide +kernel
theorem dL_build_175 : decode cL_build 175 = .ok (.bipush 6, 2) := by decide +kernel
theorem dL_build_177 : decode cL_build 177 = .ok (.iload 6, 2) := by decide +kernel
theorem dL_build_179 : decode cL_build 179 = .ok (.iload 8, 2) := by decide +kernel
theorem dL_build_181 : decode cL_build 181 = .ok (.ifCond .eq 13, 3) := by decide +kernel
theorem dL_build_184 : decode cL_build 184 = .ok (.aload_n 1, 1) := by decide +kernel
theorem dL_build_185 : decode cL_build 185 = .ok (.iload 6, 2) := by decide +kernel
theorem dL_build_187 : decode cL_build 187 = .ok (.iconst 1, 1) := by decide +kernel
theorem dL_build_188 : decode cL_build 188 = .ok (.invokevirtual 43, 3) := by decide +kernel
theorem dL_build_191 : decode cL_build 191 = .ok (.goto 11, 3) := by decide +kernel
theorem dL_build_194 : decode cL_build 194 = .ok (.iload 4, 2) := by decide +kernel
theorem dL_build_196 : decode cL_build 196 = .ok (.iconst 5, 1) := by decide +kernel
theorem dL_build_197 : decode cL_build 197 = .ok (.ishr, 1) := by decide +kernel
theorem dL_build_198 : decode cL_build 198 = .ok (.iconst 3, 1) := by decide +kernel
theorem dL_build_199 : decode cL_build 199 = .ok (.iand, 1) := by decide +kernel
theorem dL_build_200 : decode cL_build 200 = .ok (.iconst 3, 1) := by decide +kernel
theorem dL_build_201 : decode cL_build 201 = .ok (.irem, 1) := by decide +kernel
theorem dL_build_202 : decode cL_build 202 = .ok (.iload 8, 2) := by decide +kernel
theorem dL_build_204 : decode cL_build 204 = .ok (.ifCond .eq 13, 3) := by decide +kernel
theorem dL_build_207 : decode cL_build 207 = .ok (.aload_n 1, 1) := by decide +kernel
theorem dL_build_208 : decode cL_build 208 = .ok (.iload 6, 2) := by decide +kernel
theorem dL_build_210 : decode cL_build 210 = .ok (.iconst 2, 1) := by decide +kernel
theorem dL_build_211 : decode cL_build 211 = .ok (.invokevirtual 43, 3) := by decide +kernel
theorem dL_build_214 : decode cL_build 214 = .ok (.goto 10, 3) := by decide +kernel
theorem dL_build_217 : decode cL_build 217 = .ok (.iload 4, 2) := by decide +kernel
theorem dL_build_219 : decode cL_build 219 = .ok (.bipush 7, 2) := by decide +kernel
theorem dL_build_221 : decode cL_build 221 = .ok (.ishr, 1) := by decide +kernel
theorem dL_build_222 : decode cL_build 222 = .ok (.iconst 1, 1) := by decide +kernel
theorem dL_build_223 : decode cL_build 223 = .ok (.iand, 1) := by decide +kernel
theorem dL_build_224 : decode cL_build 224 = .ok (.iload 4, 2) := by decide +kernel
theorem dL_build_226 : decode cL_build 226 = .ok (.bipush 8, 2) := by decide +kernel
theorem dL_build_228 : decode cL_build 228 = .ok (.ishr, 1) := by decide +kernel
theorem dL_build_229 : decode cL_build 229 = .ok (.iconst 1, 1) := by decide +kernel
theorem dL_build_230 : decode cL_build 230 = .ok (.iand, 1) := by decide +kernel
theorem dL_build_231 : decode cL_build 231 = .ok (.ifCond .ne 13, 3) := by decide +kernel
theorem dL_build_234 : decode cL_build 234 = .ok (.aload_n 1, 1) := by decide +kernel
theorem dL_build_235 : decode cL_build 235 = .ok (.iload 6, 2) := by decide +kernel
theorem dL_build_237 : decode cL_build 237 = .ok (.iconst 4, 1) := by decide +kernel
theorem dL_build_238 : decode cL_build 238 = .ok (.invokevirtual 43, 3) := by decide +kernel
theorem dL_build_241 : decode cL_build 241 = .ok (.goto 10, 3) := by decide +kernel
theorem dL_build_244 : decode cL_build 244 = .ok (.iload 4, 2) := by decide +kernel
theorem dL_build_246 : decode cL_build 246 = .ok (.bipush 9, 2) := by decide +kernel
theorem dL_build_248 : decode cL_build 248 = .ok (.ishr, 1) := by decide +kernel
theorem dL_build_249 : decode cL_build 249 = .ok (.iconst 3, 1) := by decide +kernel
theorem dL_build_250 : decode cL_build 250 = .ok (.iand, 1) := by decide +kernel
theorem dL_build_251 : decode cL_build 251 = .ok (.iconst 0, 1) := by decide +kernel
theorem dL_build_252 : decode cL_build 252 = .ok (.invokestatic 30, 3) := by decide +kernel
theorem dL_build_255 : decode cL_build 255 = .ok (.pop, 1) := by decide +kernel
theorem dL_build_256 : decode cL_build 256 = .ok (.aload_n 1, 1) := by decide +kernel
theorem dL_build_257 : decode cL_build 257 = .ok (.bipush 6, 2) := by decide +kernel
theorem dL_build_259 : decode cL_build 259 = .ok (.iload 4, 2) := by decide +kernel
theorem dL_build_261 : decode cL_build 261 = .ok (.iconst 4, 1) := by decide +kernel
theorem dL_build_262 : decode cL_build 262 = .ok (.ishr, 1) := by decide +kernel
theorem dL_build_263 : decode cL_build 263 = .ok (.bipush 7, 2) := by decide +kernel
theorem dL_build_265 : decode cL_build 265 = .ok (.iand, 1) := by decide +kernel
theorem dL_build_266 : decode cL_build 266 = .ok (.iload 5, 2) := by decide +kernel
theorem dL_build_268 : decode cL_build 268 = .ok (.irem, 1) := by decide +kernel
theorem dL_build_269 : decode cL_build 269 = .ok (.iload 4, 2) := by decide +kernel
theorem dL_build_271 : decode cL_build 271 = .ok (.bipush 6, 2) := by decide +kernel
theorem dL_build_273 : decode cL_build 273 = .ok (.ishr, 1) := by decide +kernel
theorem dL_build_274 : decode cL_build 274 = .ok (.iconst 3, 1) := by decide +kernel
theorem dL_build_275 : decode cL_build 275 = .ok (.iand, 1) := by decide +kernel
theorem dL_build_276 : decode cL_build 276 = .ok (.iconst 3, 1) := by decide +kernel
theorem dL_build_277 : decode cL_build 277 = .ok (.irem, 1) := by decide +kernel
theorem dL_build_278 : decode cL_build 278 = .ok (.iload 4, 2) := by decide +kernel
theorem dL_build_280 : decode cL_build 280 = .ok (.bipush 8, 2) := by decide +kernel
theorem dL_build_282 : decode cL_build 282 = .ok (.ishr, 1) := by decide +kernel
theorem dL_build_283 : decode cL_build 283 = .ok (.iconst 1, 1) := by decide +kernel
theorem dL_build_284 : decode cL_build 284 = .ok (.iand, 1) := by decide +kernel
theorem dL_build_285 : decode cL_build 285 = .ok (.iload 4, 2) := by decide +kernel
theorem dL_build_287 : decode cL_build 287 = .ok (.bipush 9, 2) := by decide +kernel
theorem dL_build_289 : decode cL_build 289 = .ok (.ishr, 1) := by decide +kernel
theorem dL_build_290 : decode cL_build 290 = .ok (.iconst 3, 1) := by decide +kernel
theorem dL_build_291 : decode cL_build 291 = .ok (.iand, 1) := by decide +kernel
theorem dL_build_292 : decode cL_build 292 = .ok (.iconst 0, 1) := by decide +kernel
theorem dL_build_293 : decode cL_build 293 = .ok (.invokestatic 30, 3) := by decide +kernel
theorem dL_build_296 : decode cL_build 296 = .ok (.pop, 1) := by decide +kernel
theorem dL_build_297 : decode cL_build 297 = .ok (.iload 4, 2) := by decide +kernel
theorem dL_build_299 : decode cL_build 299 = .ok (.bipush 11, 2) := by decide +kernel
theorem dL_build_301 : decode cL_build 301 = .ok (.ishr, 1) := by decide +kernel
theorem dL_build_302 : decode cL_build 302 = .ok (.iconst 3, 1) := by decide +kernel
theorem dL_build_303 : decode cL_build 303 = .ok (.iand, 1) := by decide +kernel
theorem dL_build_304 : decode cL_build 304 = .ok (.ifCond .ne 38, 3) := by decide +kernel
theorem dL_build_307 : decode cL_build 307 = .ok (.aload_n 1, 1) := by decide +kernel
theorem dL_build_308 : decode cL_build 308 = .ok (.iconst 3, 1) := by decide +kernel
theorem dL_build_309 : decode cL_build 309 = .ok (.iload 4, 2) := by decide +kernel
theorem dL_build_311 : decode cL_build 311 = .ok (.bipush 13, 2) := by decide +kernel
theorem dL_build_313 : decode cL_build 313 = .ok (.ishr, 1) := by decide +kernel
theorem dL_build_314 : decode cL_build 314 = .ok (.bipush 7, 2) := by decide +kernel
theorem dL_build_316 : decode cL_build 316 = .ok (.iand, 1) := by decide +kernel
theorem dL_build_317 : decode cL_build 317 = .ok (.iload 5, 2) := by decide +kernel
theorem dL_build_319 : decode cL_build 319 = .ok (.irem, 1) := by decide +kernel
theorem dL_build_320 : decode cL_build 320 = .ok (.iload 4, 2) := by decide +kernel
theorem dL_build_322 : decode cL_build 322 = .ok (.bipush 16, 2) := by decide +kernel
theorem dL_build_324 : decode cL_build 324 = .ok (.ishr, 1) := by decide +kernel
theorem dL_build_325 : decode cL_build 325 = .ok (.bipush 7, 2) := by decide +kernel
theorem dL_build_327 : decode cL_build 327 = .ok (.iand, 1) := by decide +kernel
theorem dL_build_328 : decode cL_build 328 = .ok (.iload 7, 2) := by decide +kernel
theorem dL_build_330 : decode cL_build 330 = .ok (.iconst 1, 1) := by decide +kernel
theorem dL_build_331 : decode cL_build 331 = .ok (.iadd, 1) := by decide +kernel
theorem dL_build_332 : decode cL_build 332 = .ok (.irem, 1) := by decide +kernel
theorem dL_build_333 : decode cL_build 333 = .ok (.iconst 1, 1) := by decide +kernel
theorem dL_build_334 : decode cL_build 334 = .ok (.isub, 1) := by decide +kernel
theorem dL_build_335 : decode cL_build 335 = .ok (.iconst 0, 1) := by decide +kernel
theorem dL_build_336 : decode cL_build 336 = .ok (.iconst 0, 1) := by decide +kernel
theorem dL_build_337 : decode cL_build 337 = .ok (.iconst 0, 1) := by decide +kernel
theorem dL_build_338 : decode cL_build 338 = .ok (.invokestatic 30, 3) := by decide +kernel
theorem dL_build_341 : decode cL_build 341 = .ok (.pop, 1) := by decide +kernel
theorem dL_build_342 : decode cL_build 342 = .ok (.iload 4, 2) := by decide +kernel
theorem dL_build_344 : decode cL_build 344 = .ok (.bipush 11, 2) := by decide +kernel
theorem dL_build_346 : decode cL_build 346 = .ok (.ishr, 1) := by decide +kernel
theorem dL_build_347 : decode cL_build 347 = .ok (.iconst 3, 1) := by decide +kernel
theorem dL_build_348 : decode cL_build 348 = .ok (.iand, 1) := by decide +kernel
theorem dL_build_349 : decode cL_build 349 = .ok (.iconst 1, 1) := by decide +kernel
theorem dL_build_350 : decode cL_build 350 = .ok (.if_icmp .ne 43, 3) := by decide +kernel
theorem dL_build_353 : decode cL_build 353 = .ok (.aload_n 1, 1) := by decide +kernel
theorem dL_build_354 : decode cL_build 354 = .ok (.iconst 4, 1) := by decide +kernel
theorem dL_build_355 : decode cL_build 355 = .ok (.iload 4, 2) := by decide +kernel
theorem dL_build_357 : decode cL_build 357 = .ok (.bipush 13, 2) := by decide +kernel
theorem dL_build_359 : decode cL_build 359 = .ok (.ishr, 1) := by decide +kernel
theorem dL_build_360 : decode cL_build 360 = .ok (.iconst 3, 1) := by decide +kernel
theorem dL_build_361 : decode cL_build 361 = .ok (.iand, 1) := by decide +kernel
theorem dL_build_362 : decode cL_build 362 = .ok (.iconst 3, 1) := by decide +kernel
theorem dL_build_363 : decode cL_build 363 = .ok (.irem, 1) := by decide +kernel
theorem dL_build_364 : decode cL_build 364 = .ok (.iload 4, 2) := by decide +kernel
theorem dL_build_366 : decode cL_build 366 = .ok (.bipush 15, 2) := by decide +kernel
theorem dL_build_368 : decode cL_build 368 = .ok (.ishr, 1) := by decide +kernel
theorem dL_build_369 : decode cL_build 369 = .ok (.iconst 3, 1) := by decide +kernel
theorem dL_build_370 : decode cL_build 370 = .ok (.iand, 1) := by decide +kernel
theorem dL_build_371 : decode cL_build 371 = .ok (.iload 4, 2) := by decide +kernel
theorem dL_build_373 : decode cL_build 373 = .ok (.bipush 17, 2) := by decide +kernel
theorem dL_build_375 : decode cL_build 375 = .ok (.ishr, 1) := by decide +kernel
theorem dL_build_376 : decode cL_build 376 = .ok (.iconst 1, 1) := by decide +kernel
theorem dL_build_377 : decode cL_build 377 = .ok (.iand, 1) := by decide +kernel
theorem dL_build_378 : decode cL_build 378 = .ok (.iload 4, 2) := by decide +kernel
theorem dL_build_380 : decode cL_build 380 = .ok (.bipush 18, 2) := by decide +kernel
theorem dL_build_382 : decode cL_build 382 = .ok (.ishr, 1) := by decide +kernel
theorem dL_build_383 : decode cL_build 383 = .ok (.bipush 7, 2) := by decide +kernel
theorem dL_build_385 : decode cL_build 385 = .ok (.iand, 1) := by decide +kernel
theorem dL_build_386 : decode cL_build 386 = .ok (.iconst 5, 1) := by decide +kernel
theorem dL_build_387 : decode cL_build 387 = .ok (.irem, 1) := by decide +kernel
theorem dL_build_388 : decode cL_build 388 = .ok (.iconst 0, 1) := by decide +kernel
theorem dL_build_389 : decode cL_build 389 = .ok (.invokestatic 30, 3) := by decide +kernel
theorem dL_build_392 : decode cL_build 392 = .ok (.pop, 1) := by decide +kernel
theorem dL_build_393 : decode cL_build 393 = .ok (.iload 4, 2) := by decide +kernel
theorem dL_build_395 : decode cL_build 395 = .ok (.bipush 11, 2) := by decide +kernel
theorem dL_build_397 : decode cL_build 397 = .ok (.ishr, 1) := by decide +kernel
theorem dL_build_398 : decode cL_build 398 = .ok (.bipush 7, 2) := by decide +kernel
theorem dL_build_400 : decode cL_build 400 = .ok (.iand, 1) := by decide +kernel
theorem dL_build_401 : decode cL_build 401 = .ok (.iconst 2, 1) := by decide +kernel
theorem dL_build_402 : decode cL_build 402 = .ok (.if_icmp .ne 30, 3) := by decide +kernel
theorem dL_build_405 : decode cL_build 405 = .ok (.aload_n 1, 1) := by decide +kernel
theorem dL_build_406 : decode cL_build 406 = .ok (.iconst 5, 1) := by decide +kernel
theorem dL_build_407 : decode cL_build 407 = .ok (.iload 4, 2) := by decide +kernel
theorem dL_build_409 : decode cL_build 409 = .ok (.bipush 14, 2) := by decide +kernel
theorem dL_build_411 : decode cL_build 411 = .ok (.ishr, 1) := by decide +kernel
theorem dL_build_412 : decode cL_build 412 = .ok (.iconst 3, 1) := by decide +kernel
theorem dL_build_413 : decode cL_build 413 = .ok (.iand, 1) := by decide +kernel
theorem dL_build_414 : decode cL_build 414 = .ok (.iconst 3, 1) := by decide +kernel
theorem dL_build_415 : decode cL_build 415 = .ok (.irem, 1) := by decide +kernel
theorem dL_build_416 : decode cL_build 416 = .ok (.iload 4, 2) := by decide +kernel
theorem dL_build_418 : decode cL_build 418 = .ok (.bipush 16, 2) := by decide +kernel
theorem dL_build_420 : decode cL_build 420 = .ok (.ishr, 1) := by decide +kernel
theorem dL_build_421 : decode cL_build 421 = .ok (.iconst 3, 1) := by decide +kernel
theorem dL_build_422 : decode cL_build 422 = .ok (.iand, 1) := by decide +kernel
theorem dL_build_423 : decode cL_build 423 = .ok (.iconst 3, 1) := by decide +kernel
theorem dL_build_424 : decode cL_build 424 = .ok (.irem, 1) := by decide +kernel
theorem dL_build_425 : decode cL_build 425 = .ok (.iconst 0, 1) := by decide +kernel
theorem dL_build_426 : decode cL_build 426 = .ok (.iconst 0, 1) := by decide +kernel
theorem dL_build_427 : decode cL_build 427 = .ok (.iconst 0, 1) := by decide +kernel
theorem dL_build_428 : decode cL_build 428 = .ok (.invokestatic 30, 3) := by decide +kernel
theorem dL_build_431 : decode cL_build 431 = .ok (.pop, 1) := by decide +kernel
theorem dL_build_432 : decode cL_build 432 = .ok (.iload 4, 2) := by decide +kernel
theorem dL_build_434 : decode cL_build 434 = .ok (.bipush 11, 2) := by decide +kernel
theorem dL_build_436 : decode cL_build 436 = .ok (.ishr, 1) := by decide +kernel
theorem dL_build_437 : decode cL_build 437 = .ok (.bipush 7, 2) := by decide +kernel
theorem dL_build_439 : decode cL_build 439 = .ok (.iand, 1) := by decide +kernel
theorem dL_build_440 : decode cL_build 440 = .ok (.bipush 6, 2) := by decide +kernel
theorem dL_build_442 : decode cL_build 442 = .ok (.if_icmp .ne 25, 3) := by decide +kernel
theorem dL_build_445 : decode cL_build 445 = .ok (.aload_n 1, 1) := by decide +kernel
theorem dL_build_446 : decode cL_build 446 = .ok (.bipush 7, 2) := by decide +kernel
theorem dL_build_448 : decode cL_build 448 = .ok (.iload 4, 2) := by decide +kernel
theorem dL_build_450 : decode cL_build 450 = .ok (.bipush 14, 2) := by decide +kernel
theorem dL_build_452 : decode cL_build 452 = .ok (.ishr, 1) := by decide +kernel
theorem dL_build_453 : decode cL_build 453 = .ok (.bipush 7, 2) := by decide +kernel
theorem dL_build_455 : decode cL_build 455 = .ok (.iand, 1) := by decide +kernel
theorem dL_build_456 : decode cL_build 456 = .ok (.iload 5, 2) := by decide +kernel
theorem dL_build_458 : decode cL_build 458 = .ok (.irem, 1) := by decide +kernel
theorem dL_build_459 : decode cL_build 459 = .ok (.iconst 0, 1) := by decide +kernel
theorem dL_build_460 : decode cL_build 460 = .ok (.iconst 0, 1) := by decide +kernel
theorem dL_build_461 : decode cL_build 461 = .ok (.iconst 0, 1) := by decide +kernel
theorem dL_build_462 : decode cL_build 462 = .ok (.iconst 0, 1) := by decide +kernel
theorem dL_build_463 : decode cL_build 463 = .ok (.invokestatic 30, 3) := by decide +kernel
theorem dL_build_466 : decode cL_build 466 = .ok (.pop, 1) := by decide +kernel
theorem dL_build_467 : decode cL_build 467 = .ok (.iload 4, 2) := by decide +kernel
theorem dL_build_469 : decode cL_build 469 = .ok (.bipush 11, 2) := by decide +kernel
theorem dL_build_471 : decode cL_build 471 = .ok (.ishr, 1) := by decide +kernel
theorem dL_build_472 : decode cL_build 472 = .ok (.bipush 7, 2) := by decide +kernel
theorem dL_build_474 : decode cL_build 474 = .ok (.iand, 1) := by decide +kernel
theorem dL_build_475 : decode cL_build 475 = .ok (.iconst 3, 1) := by decide +kernel
theorem dL_build_476 : decode cL_build 476 = .ok (.if_icmp .ne 42, 3) := by decide +kernel
theorem dL_build_479 : decode cL_build 479 = .ok (.aload_n 1, 1) := by decide +kernel
theorem dL_build_480 : decode cL_build 480 = .ok (.bipush 8, 2) := by decide +kernel
theorem dL_build_482 : decode cL_build 482 = .ok (.iload 4, 2) := by decide +kernel
theorem dL_build_484 : decode cL_build 484 = .ok (.bipush 14, 2) := by decide +kernel
theorem dL_build_486 : decode cL_build 486 = .ok (.ishr, 1) := by decide +kernel
theorem dL_build_487 : decode cL_build 487 = .ok (.bipush 7, 2) := by decide +kernel
theorem dL_build_489 : decode cL_build 489 = .ok (.iand, 1) := by decide +kernel
theorem dL_build_490 : decode cL_build 490 = .ok (.iconst 1, 1) := by decide +kernel
theorem dL_build_491 : decode cL_build 491 = .ok (.aload_n 1, 1) := by decide +kernel
theorem dL_build_492 : decode cL_build 492 = .ok (.iconst 2, 1) := by decide +kernel
theorem dL_build_493 : decode cL_build 493 = .ok (.invokevirtual 34, 3) := by decide +kernel
theorem dL_build_496 : decode cL_build 496 = .ok (.invokestatic 37, 3) := by decide +kernel
theorem dL_build_499 : decode cL_build 499 = .ok (.irem, 1) := by decide +kernel
theorem dL_build_500 : decode cL_build 500 = .ok (.iload 4, 2) := by decide +kernel
theorem dL_build_502 : decode cL_build 502 = .ok (.bipush 17, 2) := by decide +kernel
theorem dL_build_504 : decode cL_build 504 = .ok (.ishr, 1) := by decide +kernel
theorem dL_build_505 : decode cL_build 505 = .ok (.bipush 7, 2) := by decide +kernel
theorem dL_build_507 : decode cL_build 507 = .ok (.iand, 1) := by decide +kernel
theorem dL_build_508 : decode cL_build 508 = .ok (.iload 5, 2) := by decide +kernel
theorem dL_build_510 : decode cL_build 510 = .ok (.irem, 1) := by decide +kernel
theorem dL_build_511 : decode cL_build 511 = .ok (.iconst 0, 1) := by decide +kernel
theorem dL_build_512 : decode cL_build 512 = .ok (.iconst 0, 1) := by decide +kernel
theorem dL_build_513 : decode cL_build 513 = .ok (.iconst 0, 1) := by decide +kernel
theorem dL_build_514 : decode cL_build 514 = .ok (.invokestatic 30, 3) := by decide +kernel
theorem dL_build_517 : decode cL_build 517 = .ok (.pop, 1) := by decide +kernel
theorem dL_build_518 : decode cL_build 518 = .ok (.iload 4, 2) := by decide +kernel
theorem dL_build_520 : decode cL_build 520 = .ok (.bipush 11, 2) := by decide +kernel
theorem dL_build_522 : decode cL_build 522 = .ok (.ishr, 1) := by decide +kernel
theorem dL_build_523 : decode cL_build 523 = .ok (.bipush 15, 2) := by decide +kernel
theorem dL_build_525 : decode cL_build 525 = .ok (.iand, 1) := by decide +kernel
theorem dL_build_526 : decode cL_build 526 = .ok (.bipush 7, 2) := by decide +kernel
theorem dL_build_528 : decode cL_build 528 = .ok (.if_icmp .ne 30, 3) := by decide +kernel
theorem dL_build_531 : decode cL_build 531 = .ok (.aload_n 1, 1) := by decide +kernel
theorem dL_build_532 : decode cL_build 532 = .ok (.iconst 2, 1) := by decide +kernel
theorem dL_build_533 : decode cL_build 533 = .ok (.iload 4, 2) := by decide +kernel
theorem dL_build_535 : decode cL_build 535 = .ok (.bipush 15, 2) := by decide +kernel
theorem dL_build_537 : decode cL_build 537 = .ok (.ishr, 1) := by decide +kernel
theorem dL_build_538 : decode cL_build 538 = .ok (.bipush 7, 2) := by decide +kernel
theorem dL_build_540 : decode cL_build 540 = .ok (.iand, 1) := by decide +kernel
theorem dL_build_541 : decode cL_build 541 = .ok (.iload 7, 2) := by decide +kernel
theorem dL_build_543 : decode cL_build 543 = .ok (.irem, 1) := by decide +kernel
theorem dL_build_544 : decode cL_build 544 = .ok (.iload 4, 2) := by decide +kernel
theorem dL_build_546 : decode cL_build 546 = .ok (.bipush 18, 2) := by decide +kernel
theorem dL_build_548 : decode cL_build 548 = .ok (.ishr, 1) := by decide +kernel
theorem dL_build_549 : decode cL_build 549 = .ok (.iconst 3, 1) := by decide +kernel
theorem dL_build_550 : decode cL_build 550 = .ok (.iand, 1) := by decide +kernel
theorem dL_build_551 : decode cL_build 551 = .ok (.iconst 0, 1) := by decide +kernel
theorem dL_build_552 : decode cL_build 552 = .ok (.iconst 0, 1) := by decide +kernel
theorem dL_build_553 : decode cL_build 553 = .ok (.iconst 0, 1) := by decide +kernel
theorem dL_build_554 : decode cL_build 554 = .ok (.invokestatic 30, 3) := by decide +kernel
theorem dL_build_557 : decode cL_build 557 = .ok (.pop, 1) := by decide +kernel
theorem dL_build_558 : decode cL_build 558 = .ok (.iload 4, 2) := by decide +kernel
theorem dL_build_560 : decode cL_build 560 = .ok (.bipush 11, 2) := by decide +kernel
theorem dL_build_562 : decode cL_build 562 = .ok (.ishr, 1) := by decide +kernel
theorem dL_build_563 : decode cL_build 563 = .ok (.bipush 15, 2) := by decide +kernel
theorem dL_build_565 : decode cL_build 565 = .ok (.iand, 1) := by decide +kernel
theorem dL_build_566 : decode cL_build 566 = .ok (.bipush 15, 2) := by decide +kernel
theorem dL_build_568 : decode cL_build 568 = .ok (.if_icmp .ne 20, 3) := by decide +kernel
theorem dL_build_571 : decode cL_build 571 = .ok (.aload_n 1, 1) := by decide +kernel
theorem dL_build_572 : decode cL_build 572 = .ok (.iconst 1, 1) := by decide +kernel
theorem dL_build_573 : decode cL_build 573 = .ok (.iload 4, 2) := by decide +kernel
theorem dL_build_575 : decode cL_build 575 = .ok (.bipush 15, 2) := by decide +kernel
theorem dL_build_577 : decode cL_build 577 = .ok (.ishr, 1) := by decide +kernel
theorem dL_build_578 : decode cL_build 578 = .ok (.iconst 3, 1) := by decide +kernel
theorem dL_build_579 : decode cL_build 579 = .ok (.iand, 1) := by decide +kernel
theorem dL_build_580 : decode cL_build 580 = .ok (.iconst 0, 1) := by decide +kernel
theorem dL_build_581 : decode cL_build 581 = .ok (.iconst 0, 1) := by decide +kernel
theorem dL_build_582 : decode cL_build 582 = .ok (.iconst 0, 1) := by decide +kernel
theorem dL_build_583 : decode cL_build 583 = .ok (.iconst 0, 1) := by decide +kernel
theorem dL_build_584 : decode cL_build 584 = .ok (.invokestatic 30, 3) := by decide +kernel
theorem dL_build_587 : decode cL_build 587 = .ok (.pop, 1) := by decide +kernel
theorem dL_build_588 : decode cL_build 588 = .ok (.iload 4, 2) := by decide +kernel
theorem dL_build_590 : decode cL_build 590 = .ok (.bipush 20, 2) := by decide +kernel
theorem dL_build_592 : decode cL_build 592 = .ok (.ishr, 1) := by decide +kernel
theorem dL_build_593 : decode cL_build 593 = .ok (.bipush 7, 2) := by decide +kernel
theorem dL_build_595 : decode cL_build 595 = .ok (.iand, 1) := by decide +kernel
theorem dL_build_596 : decode cL_build 596 = .ok (.ifCond .ne 56, 3) := by decide +kernel
theorem dL_build_599 : decode cL_build 599 = .ok (.aload_n 1, 1) := by decide +kernel
theorem dL_build_600 : decode cL_build 600 = .ok (.iconst 0, 1) := by decide +kernel
theorem dL_build_601 : decode cL_build 601 = .ok (.iload 4, 2) := by decide +kernel
theorem dL_build_603 : decode cL_build 603 = .ok (.bipush 23, 2) := by decide +kernel
theorem dL_build_605 : decode cL_build 605 = .ok (.ishr, 1) := by decide +kernel
theorem dL_build_606 : decode cL_build 606 = .ok (.iconst 3, 1) := by decide +kernel
theorem dL_build_607 : decode cL_build 607 = .ok (.iand, 1) := by decide +kernel
theorem dL_build_608 : decode cL_build 608 = .ok (.iconst 3, 1) := by decide +kernel
theorem dL_build_609 : decode cL_build 609 = .ok (.irem, 1) := by decide +kernel
theorem dL_build_610 : decode cL_build 610 = .ok (.iload 4, 2) := by decide +kernel
theorem dL_build_612 : decode cL_build 612 = .ok (.bipush 25, 2) := by decide +kernel
theorem dL_build_614 : decode cL_build 614 = .ok (.ishr, 1) := by decide +kernel
theorem dL_build_615 : decode cL_build 615 = .ok (.iconst 3, 1) := by decide +kernel
theorem dL_build_616 : decode cL_build 616 = .ok (.iand, 1) := by decide +kernel
theorem dL_build_617 : decode cL_build 617 = .ok (.iconst 3, 1) := by decide +kernel
theorem dL_build_618 : decode cL_build 618 = .ok (.irem, 1) := by decide +kernel
theorem dL_build_619 : decode cL_build 619 = .ok (.iload 4, 2) := by decide +kernel
theorem dL_build_621 : decode cL_build 621 = .ok (.bipush 27, 2) := by decide +kernel
theorem dL_build_623 : decode cL_build 623 = .ok (.ishr, 1) := by decide +kernel
theorem dL_build_624 : decode cL_build 624 = .ok (.iconst 1, 1) := by decide +kernel
theorem dL_build_625 : decode cL_build 625 = .ok (.iand, 1) := by decide +kernel
theorem dL_build_626 : decode cL_build 626 = .ok (.iload 4, 2) := by decide +kernel
theorem dL_build_628 : decode cL_build 628 = .ok (.bipush 13, 2) := by decide +kernel
theorem dL_build_630 : decode cL_build 630 = .ok (.ishr, 1) := by decide +kernel
theorem dL_build_631 : decode cL_build 631 = .ok (.bipush 7, 2) := by decide +kernel
theorem dL_build_633 : decode cL_build 633 = .ok (.iand, 1) := by decide +kernel
theorem dL_build_634 : decode cL_build 634 = .ok (.bipush 6, 2) := by decide +kernel
theorem dL_build_636 : decode cL_build 636 = .ok (.irem, 1) := by decide +kernel
theorem dL_build_637 : decode cL_build 637 = .ok (.iload 4, 2) := by decide +kernel
theorem dL_build_639 : decode cL_build 639 = .ok (.bipush 16, 2) := by decide +kernel
theorem dL_build_641 : decode cL_build 641 = .ok (.ishr, 1) := by decide +kernel
theorem dL_build_642 : decode cL_build 642 = .ok (.bipush 7, 2) := by decide +kernel
theorem dL_build_644 : decode cL_build 644 = .ok (.iand, 1) := by decide +kernel
theorem dL_build_645 : decode cL_build 645 = .ok (.bipush 6, 2) := by decide +kernel
theorem dL_build_647 : decode cL_build 647 = .ok (.irem, 1) := by decide +kernel
theorem dL_build_648 : decode cL_build 648 = .ok (.invokestatic 30, 3) := by decide +kernel
theorem dL_build_651 : decode cL_build 651 = .ok (.pop, 1) := by decide +kernel
theorem dL_build_652 : decode cL_build 652 = .ok (.iinc 3 1, 3) := by decide +kernel
theorem dL_build_655 : decode cL_build 655 = .ok (.goto (-550), 3) := by decide +kernel
theorem dL_build_658 : decode cL_build 658 = .ok (.aload_n 1, 1) := by decide +kernel
theorem dL_build_659 : decode cL_build 659 = .ok (.areturn, 1) := by decide +kernel
set_option maxRecDepth 20000 in
theorem ggL_act_X6_door : GoodIn wsL_act wsX6_door := goodIn_ca (goodIn_ca (goodIn_ca (goodIn_r _ [6, 7, 8, 9, 10, 11, 5, 12, 13, 14, 15, 16, 17, 18, 19, 20, 21, 22, 23, 24, 25, 26, 27, 28, 29, 30, 31, 32, 33, 34, 35, 36, 37, 38, 39, 40, 41, 42, 43, 44, 45, 46, 47, 48, 49, 50, 51, 52, 53, 54, 55, 56, 57, 58, 59, 60, 61, 62, 63, 64, 65, 66, 67, 68, 69, 70, 71, 72, 73, 74, 75, 76, 77, 78, 79, 80, 81, 82, 83, 84, 85, 86, 87, 88, 89, 90, 91, 92, 93, 94, 95, 96, 97, 98, 99, 100, 101, 102, 253, 254, 255, 256, 257, 258, 259, 260, 261, 262, 263, 264, 265, 266, 267, 268, 269, 270, 271, 272, 273, 274, 275, 276, 277, 278, 279, 280, 281, 282, 283, 284, 285, 286, 287, 288] (by decide +kernel) (by decide +kernel)) (goodIn_sub (fun _ h => List.mem_cons_of_mem _ (List.mem_append_left _ (List.mem_append_left _ (List.mem_append_left _ (List.mem_append_right _ h))))) (by decide +kernel))) (goodIn_sub (fun _ h => List.mem_cons_of_mem _ (List.mem_append_left _ (List.mem_append_left _ (List.mem_append_right _ h)))) (by decide +kernel))) (goodIn_sub (fun _ h => List.mem_cons_of_mem _ (List.mem_append_left _ (List.mem_append_right _ h))) (by decide +kernel))
set_option maxRecDepth 20000 in
theorem gL_act_X6_door : GoodIn wsL_act (wsV RL 46 RX6 yX6_door wsX6_door) := goodIn_app (goodIn_of _ (by decide +kernel)) ggL_act_X6_door
set_option maxRecDepth 20000 in
theorem ggL_act_X6_threshold : GoodIn wsL_act wsX6_threshold := goodIn_ca (goodIn_ca (goodIn_ca (goodIn_ca (goodIn_r _ [106, 7, 8, 107, 108, 109, 5, 110, 111, 14, 15, 16, 17, 18, 19, 20, 21, 22, 23, 24, 25, 26, 27, 28, 29, 30, 31, 32, 33, 34, 35, 36, 37, 38, 39, 40, 41, 42, 43, 44, 45, 46, 47, 48, 49, 50, 51, 52, 53, 54, 55, 56, 57, 58, 59, 60, 61, 62, 63, 64, 65, 66, 67, 68, 69, 70, 71, 72, 73, 74, 75, 76, 77, 78, 79, 80, 81, 82, 83, 84, 85, 86, 87, 88, 89, 90, 91, 112, 113, 114, 115, 253, 254, 255, 256, 257, 258, 259, 260, 261, 262, 263, 264, 265, 266, 267, 268, 269, 270, 271, 272, 273, 274, 275, 276, 277, 278, 279, 280, 281, 282, 283, 284, 285, 286, 287, 288] (by decide +kernel) (by decide +kernel)) (goodIn_sub (fun _ h => List.mem_cons_of_mem _ (List.mem_append_left _ (List.mem_append_left _ (List.mem_append_left _ (List.mem_append_right _ h))))) (by decide +kernel))) (goodIn_sub (fun _ h => List.mem_cons_of_mem _ (List.mem_append_left _ (List.mem_append_left _ (List.mem_append_right _ h)))) (by decide +kernel))) (goodIn_sub (fun _ h => List.mem_cons_of_mem _ (List.mem_append_left _ (List.mem_append_right _ h))) (by decide +kernel))) (goodIn_sub (fun _ h => List.mem_cons_of_mem _ (List.mem_append_right _ h)) (by decide +kernel))
set_option maxRecDepth 20000 in
theorem gL_act_X6_threshold : GoodIn wsL_act (wsV RL 50 RX6 yX6_threshold wsX6_threshold) := goodIn_app (goodIn_of _ (by decide +kernel)) ggL_act_X6_threshold
set_option maxRecDepth 20000 in
theorem ggL_act_X6_govern : GoodIn wsL_act wsX6_govern := goodIn_ca (goodIn_ca (goodIn_ca (goodIn_ca (goodIn_r _ [119, 7, 8, 120, 121, 122, 5, 123, 111, 124, 14, 15, 16, 17, 18, 19, 20, 21, 22, 23, 24, 25, 26, 27, 28, 29, 30, 31, 32, 33, 34, 35, 36, 37, 38, 39, 40, 41, 42, 43, 44, 45, 46, 47, 48, 49, 50, 51, 52, 53, 54, 55, 56, 57, 58, 59, 60, 61, 62, 63, 64, 65, 66, 67, 68, 69, 70, 71, 72, 73, 74, 75, 76, 77, 78, 79, 80, 81, 82, 83, 84, 85, 86, 87, 88, 89, 90, 91, 125, 126, 127, 128, 253, 254, 255, 256, 257, 258, 259, 260, 261, 262, 263, 264, 265, 266, 267, 268, 269, 270, 271, 272, 273, 274, 275, 276, 277, 278, 279, 280, 281, 282, 283, 284, 285, 286, 287, 288] (by decide +kernel) (by decide +kernel)) (goodIn_sub (fun _ h => List.mem_cons_of_mem _ (List.mem_append_right _ h)) (by decide +kernel))) (goodIn_sub (fun _ h => List.mem_cons_of_mem _ (List.mem_append_left _ (List.mem_append_left _ (List.mem_append_left _ (List.mem_append_right _ h))))) (by decide +kernel))) (goodIn_sub (fun _ h => List.mem_cons_of_mem _ (List.mem_append_left _ (List.mem_append_left _ (List.mem_append_right _ h)))) (by decide +kernel))) (goodIn_sub (fun _ h => List.mem_cons_of_mem _ (List.mem_append_left _ (List.mem_append_right _ h))) (by decide +kernel))
set_option maxRecDepth 20000 in
theorem gL_act_X6_govern : GoodIn wsL_act (wsV RL 53 RX6 yX6_govern wsX6_govern) := goodIn_app (goodIn_of _ (by decide +kernel)) ggL_act_X6_govern
set_option maxRecDepth 20000 in
theorem ggL_act_X6_set : GoodIn wsL_act wsX6_set := goodIn_ca (goodIn_ca (goodIn_ca (goodIn_ca (goodIn_r _ [132, 7, 8, 133, 134, 135, 5, 136, 111, 137, 138, 139, 140, 141, 55, 142, 66, 15, 16, 14, 17, 18, 19, 20, 21, 22, 23, 24, 25, 26, 27, 28, 29, 30, 31, 32, 33, 34, 35, 36, 37, 38, 39, 40, 41, 42, 43, 44, 45, 46, 47, 48, 49, 50, 51, 52, 53, 54, 56, 57, 58, 59, 60, 61, 62, 63, 64, 65, 67, 68, 69, 70, 71, 72, 73, 74, 75, 76, 77, 78, 79, 80, 81, 82, 83, 84, 85, 86, 87, 88, 89, 90, 91, 143, 144, 145, 146, 147, 148, 149, 150, 151, 253, 254, 255, 256, 257, 258, 259, 260, 261, 262, 263, 264, 265, 266, 267, 268, 269, 270, 271, 272, 273, 274, 275, 279, 280, 281, 282, 283, 284, 285, 286, 287, 288, 276, 277, 278] (by decide +kernel) (by decide +kernel)) (goodIn_sub (fun _ h => List.mem_cons_of_mem _ (List.mem_append_left _ (List.mem_append_left _ (List.mem_append_left _ (List.mem_append_right _ h))))) (by decide +kernel))) (goodIn_sub (fun _ h => List.mem_cons_of_mem _ (List.mem_append_left _ (List.mem_append_left _ (List.mem_append_right _ h)))) (by decide +kernel))) (goodIn_sub (fun _ h => List.mem_cons_of_mem _ (List.mem_append_left _ (List.mem_append_right _ h))) (by decide +kernel))) (goodIn_sub (fun _ h => List.mem_cons_of_mem _ (List.mem_append_right _ h)) (by decide +kernel))
set_option maxRecDepth 20000 in
theorem gL_act_X6_set : GoodIn wsL_act (wsV RL 56 RX6 yX6_set wsX6_set) := goodIn_app (goodIn_of _ (by decide +kernel)) ggL_act_X6_set
set_option maxRecDepth 20000 in
theorem ggL_act_X6_tellEnding : GoodIn wsL_act wsX6_tellEnding := goodIn_ca (goodIn_ca (goodIn_ca (goodIn_ca (goodIn_r _ [155, 7, 8, 92, 93, 5, 94, 156, 157, 158, 159, 14, 15, 16, 160, 161, 162, 55, 163, 65, 164, 165, 166, 17, 18, 19, 20, 21, 22, 23, 24, 25, 26, 27, 28, 29, 30, 31, 32, 33, 34, 35, 36, 37, 38, 39, 40, 41, 42, 43, 44, 45, 46, 47, 48, 49, 50, 51, 52, 53, 54, 56, 57, 58, 59, 60, 61, 62, 63, 64, 66, 67, 68, 69, 70, 71, 72, 73, 74, 75, 76, 77, 78, 79, 80, 81, 82, 83, 84, 85, 86, 87, 88, 89, 90, 91, 167, 168, 169, 170, 171, 253, 254, 255, 256, 257, 258, 259, 260, 261, 262, 263, 264, 265, 266, 267, 268, 269, 270, 271, 272, 273, 274, 275, 276, 277, 278, 279, 280, 281, 282, 283, 284, 285, 286, 287, 288] (by decide +kernel) (by decide +kernel)) (goodIn_sub (fun _ h => List.mem_cons_of_mem _ (List.mem_append_right _ h)) (by decide +kernel))) (goodIn_sub (fun _ h => List.mem_cons_of_mem _ (List.mem_append_left _ (List.mem_append_left _ (List.mem_append_left _ (List.mem_append_right _ h))))) (by decide +kernel))) (goodIn_sub (fun _ h => List.mem_cons_of_mem _ (List.mem_append_left _ (List.mem_append_left _ (List.mem_append_right _ h)))) (by decide +kernel))) (goodIn_sub (fun _ h => List.mem_cons_of_mem _ (List.mem_append_left _ (List.mem_append_right _ h))) (by decide +kernel))
set_option maxRecDepth 20000 in
theorem gL_act_X6_tellEnding : GoodIn wsL_act (wsV RL 59 RX6 yX6_tellEnding wsX6_tellEnding) := goodIn_app (goodIn_of _ (by decide +kernel)) ggL_act_X6_tellEnding
set_option maxRecDepth 20000 in
theorem ggL_act_X6_key : GoodIn wsL_act wsX6_key := goodIn_ca (goodIn_ca (goodIn_ca (goodIn_ca (goodIn_r _ [175, 7, 8, 176, 177, 178, 5, 179, 180, 14, 15, 16, 181, 182, 183, 55, 184, 68, 63, 64, 17, 18, 19, 20, 21, 22, 23, 24, 25, 26, 27, 28, 29, 30, 31, 32, 33, 34, 35, 36, 37, 38, 39, 40, 41, 42, 43, 44, 45, 46, 47, 48, 49, 50, 51, 52, 53, 54, 56, 57, 58, 59, 60, 61, 62, 65, 66, 67, 69, 70, 71, 72, 73, 74, 75, 76, 77, 78, 79, 80, 81, 82, 83, 84, 85, 86, 87, 88, 89, 90, 91, 185, 186, 187, 188, 253, 254, 255, 256, 257, 258, 259, 260, 261, 262, 263, 264, 265, 266, 267, 268, 269, 270, 271, 272, 273, 274, 275, 276, 277, 278, 279, 280, 281, 282, 283, 284, 285, 286, 287, 288] (by decide +kernel) (by decide +kernel)) (goodIn_sub (fun _ h => List.mem_cons_of_mem _ (List.mem_append_right _ h)) (by decide +kernel))) (goodIn_sub (fun _ h => List.mem_cons_of_mem _ (List.mem_append_left _ (List.mem_append_left _ (List.mem_append_left _ (List.mem_append_right _ h))))) (by decide +kernel))) (goodIn_sub (fun _ h => List.mem_cons_of_mem _ (List.mem_append_left _ (List.mem_append_left _ (List.mem_append_right _ h)))) (by decide +kernel))) (goodIn_sub (fun _ h => List.mem_cons_of_mem _ (List.mem_append_left _ (List.mem_append_right _ h))) (by decide +kernel))
set_option maxRecDepth 20000 in
theorem gL_act_X6_key : GoodIn wsL_act (wsV RL 63 RX6 yX6_key wsX6_key) := goodIn_app (goodIn_of _ (by decide +kernel)) ggL_act_X6_key
set_option maxRecDepth 20000 in
theorem ggL_act_X6_knock : GoodIn wsL_act wsX6_knock := goodIn_ca (goodIn_ca (goodIn_ca (goodIn_ca (goodIn_r _ [192, 7, 8, 193, 194, 195, 5, 196, 137, 197, 198, 139, 140, 141, 55, 142, 66, 15, 16, 14, 199, 200, 201, 202, 57, 203, 17, 18, 19, 20, 21, 22, 204, 205, 206, 207, 208, 23, 24, 25, 26, 27, 28, 29, 30, 31, 32, 33, 34, 35, 36, 37, 38, 39, 40, 41, 42, 43, 44, 45, 46, 47, 48, 49, 50, 51, 52, 53, 54, 56, 58, 59, 60, 61, 62, 63, 64, 65, 67, 68, 69, 70, 71, 72, 73, 74, 75, 76, 77, 78, 79, 80, 81, 82, 83, 84, 85, 86, 87, 88, 89, 90, 91, 92, 93, 94, 209, 210, 211, 212, 213, 214, 215, 216, 217, 218, 219, 220, 148, 149, 150, 151, 147, 253, 254, 255, 256, 257, 258, 259, 260, 261, 262, 263, 264, 265, 266, 267, 268, 269, 270, 271, 272, 273, 274, 275, 279, 280, 281, 282, 283, 284, 285, 286, 287, 288, 276, 277, 278] (by decide +kernel) (by decide +kernel)) (goodIn_sub (fun _ h => List.mem_cons_of_mem _ (List.mem_append_left _ (List.mem_append_left _ (List.mem_append_left _ (List.mem_append_right _ h))))) (by decide +kernel))) (goodIn_sub (fun _ h => List.mem_cons_of_mem _ (List.mem_append_left _ (List.mem_append_left _ (List.mem_append_right _ h)))) (by decide +kernel))) (goodIn_sub (fun _ h => List.mem_cons_of_mem _ (List.mem_append_left _ (List.mem_append_right _ h))) (by decide +kernel))) (goodIn_sub (fun _ h => List.mem_cons_of_mem _ (List.mem_append_right _ h)) (by decide +kernel))
set_option maxRecDepth 20000 in
theorem gL_act_X6_knock : GoodIn wsL_act (wsV RL 66 RX6 yX6_knock wsX6_knock) := goodIn_app (goodIn_of _ (by decide +kernel)) ggL_act_X6_knock
set_option maxRecDepth 20000 in
theorem ggL_act_X6_shut : GoodIn wsL_act wsX6_shut := goodIn_ca (goodIn_ca (goodIn_ca (goodIn_r _ [224, 7, 8, 225, 226, 227, 5, 228, 137, 197, 139, 140, 141, 55, 142, 66, 15, 16, 199, 200, 201, 202, 57, 203, 17, 18, 19, 20, 21, 22, 23, 24, 25, 26, 27, 28, 29, 30, 31, 32, 33, 34, 35, 36, 37, 38, 39, 40, 41, 42, 43, 44, 45, 46, 47, 48, 49, 50, 51, 52, 53, 54, 56, 58, 59, 60, 61, 62, 63, 64, 65, 67, 68, 69, 70, 71, 72, 73, 74, 75, 76, 77, 78, 79, 80, 81, 82, 83, 84, 85, 86, 87, 88, 89, 90, 91, 229, 230, 231, 232, 233, 253, 254, 255, 256, 257, 258, 259, 260, 261, 262, 263, 264, 265, 266, 267, 268, 269, 270, 271, 272, 273, 274, 275, 279, 280, 281, 282, 283, 284, 285, 286, 287, 288, 276, 277, 278] (by decide +kernel) (by decide +kernel)) (goodIn_sub (fun _ h => List.mem_cons_of_mem _ (List.mem_append_left _ (List.mem_append_left _ (List.mem_append_left _ (List.mem_append_right _ h))))) (by decide +kernel))) (goodIn_sub (fun _ h => List.mem_cons_of_mem _ (List.mem_append_left _ (List.mem_append_left _ (List.mem_append_right _ h)))) (by decide +kernel))) (goodIn_sub (fun _ h => List.mem_cons_of_mem _ (List.mem_append_left _ (List.mem_append_right _ h))) (by decide +kernel))
set_option maxRecDepth 20000 in
theorem gL_act_X6_shut : GoodIn wsL_act (wsV RL 69 RX6 yX6_shut wsX6_shut) := goodIn_app (goodIn_of _ (by decide +kernel)) ggL_act_X6_shut
set_option maxRecDepth 20000 in
theorem ggL_act_X6_free : GoodIn wsL_act wsX6_free := goodIn_ca (goodIn_ca (goodIn_ca (goodIn_ca (goodIn_r _ [237, 7, 8, 238, 239, 240, 5, 241, 180, 137, 198, 242, 14, 15, 16, 139, 140, 141, 55, 142, 66, 17, 18, 19, 20, 21, 22, 243, 244, 245, 246, 63, 57, 247, 64, 219, 23, 24, 25, 26, 27, 28, 29, 30, 31, 32, 33, 34, 35, 36, 37, 38, 39, 40, 41, 42, 43, 44, 45, 46, 47, 48, 49, 50, 51, 52, 53, 54, 56, 58, 59, 60, 61, 62, 65, 67, 68, 69, 70, 71, 72, 73, 74, 75, 76, 77, 78, 79, 80, 81, 82, 83, 84, 85, 86, 87, 88, 89, 90, 91, 248, 249, 250, 251, 208, 214, 252, 205, 206, 207, 253, 254, 255, 256, 257, 258, 259, 260, 261, 262, 263, 264, 265, 266, 267, 268, 269, 270, 271, 272, 273, 274, 275, 279, 280, 281, 282, 283, 284, 285, 286, 287, 288, 276, 277, 278] (by decide +kernel) (by decide +kernel)) (goodIn_sub (fun _ h => List.mem_cons_of_mem _ (List.mem_append_right _ h)) (by decide +kernel))) (goodIn_sub (fun _ h => List.mem_cons_of_mem _ (List.mem_append_left _ (List.mem_append_left _ (List.mem_append_left _ (List.mem_append_right _ h))))) (by decide +kernel))) (goodIn_sub (fun _ h => List.mem_cons_of_mem _ (List.mem_append_left _ (List.mem_append_left _ (List.mem_append_right _ h)))) (by decide +kernel))) (goodIn_sub (fun _ h => List.mem_cons_of_mem _ (List.mem_append_left _ (List.mem_append_right _ h))) (by decide +kernel))
set_option maxRecDepth 20000 in
theorem gL_act_X6_free : GoodIn wsL_act (wsV RL 72 RX6 yX6_free wsX6_free) := goodIn_app (goodIn_of _ (by decide +kernel)) ggL_act_X6_free
theorem dL_act_0 : decode cL_act 0 = .ok (.iload_n 1, 1) := by decide +kernel
theorem dL_act_1 : decode cL_act 1 = .ok (.tableswitch 142 0 7 #[47, 69, 75, 82, 89, 109, 116, 136], 47) := by decide +kernel
theorem dL_act_48 : decode cL_act 48 = .ok (.aload_n 0, 1) := by decide +kernel
theorem dL_act_49 : decode cL_act 49 = .ok (.iload_n 2, 1) := by decide +kernel
theorem dL_act_50 : decode cL_act 50 = .ok (.iload_n 3, 1) := by decide +kernel
theorem dL_act_51 : decode cL_act 51 = .ok (.iload 4, 2) := by decide +kernel
theorem dL_act_53 : decode cL_act 53 = .ok (.iconst 1, 1) := by decide +kernel
theorem dL_act_54 : decode cL_act 54 = .ok (.if_icmp .ne 7, 3) := by decide +kernel
theorem dL_act_57 : decode cL_act 57 = .ok (.iconst 1, 1) := by decide +kernel
theorem dL_act_58 : decode cL_act 58 = .ok (.goto 4, 3) := by decide +kernel
theorem dL_act_61 : decode cL_act 61 = .ok (.iconst 0, 1) := by decide +kernel
theorem dL_act_62 : decode cL_act 62 = .ok (.iload 5, 2) := by decide +kernel
theorem dL_act_64 : decode cL_act 64 = .ok (.iload 6, 2) := by decide +kernel
theorem dL_act_66 : decode cL_act 66 = .ok (.invokevirtual 46, 3) := by decide +kernel
theorem dL_act_69 : decode cL_act 69 = .ok (.ireturn, 1) := by decide +kernel
theorem dL_act_70 : decode cL_act 70 = .ok (.aload_n 0, 1) := by decide +kernel
theorem dL_act_71 : decode cL_act 71 = .ok (.iload_n 2, 1) := by decide +kernel
theorem dL_act_72 : decode cL_act 72 = .ok (.invokevirtual 50, 3) := by decide +kernel
theorem dL_act_75 : decode cL_act 75 = .ok (.ireturn, 1) := by decide +kernel
theorem dL_act_76 : decode cL_act 76 = .ok (.aload_n 0, 1) := by decide +kernel
theorem dL_act_77 : decode cL_act 77 = .ok (.iload_n 2, 1) := by decide +kernel
theorem dL_act_78 : decode cL_act 78 = .ok (.iload_n 3, 1) := by decide +kernel
theorem dL_act_79 : decode cL_act 79 = .ok (.invokevirtual 53, 3) := by decide +kernel
theorem dL_act_82 : decode cL_act 82 = .ok (.ireturn, 1) := by decide +kernel
theorem dL_act_83 : decode cL_act 83 = .ok (.aload_n 0, 1) := by decide +kernel
theorem dL_act_84 : decode cL_act 84 = .ok (.iload_n 2, 1) := by decide +kernel
theorem dL_act_85 : decode cL_act 85 = .ok (.iload_n 3, 1) := by decide +kernel
theorem dL_act_86 : decode cL_act 86 = .ok (.invokevirtual 56, 3) := by decide +kernel
theorem dL_act_89 : decode cL_act 89 = .ok (.ireturn, 1) := by decide +kernel
theorem dL_act_90 : decode cL_act 90 = .ok (.aload_n 0, 1) := by decide +kernel
theorem dL_act_91 : decode cL_act 91 = .ok (.iload_n 2, 1) := by decide +kernel
theorem dL_act_92 : decode cL_act 92 = .ok (.iload_n 3, 1) := by decide +kernel
theorem dL_act_93 : decode cL_act 93 = .ok (.iload 4, 2) := by decide +kernel
theorem dL_act_95 : decode cL_act 95 = .ok (.iconst 1, 1) := by decide +kernel
theorem dL_act_96 : decode cL_act 96 = .ok (.if_icmp .ne 7, 3) := by decide +kernel
theorem dL_act_99 : decode cL_act 99 = .ok (.iconst 1, 1) := by decide +kernel
theorem dL_act_100 : decode cL_act 100 = .ok (.goto 4, 3) := by decide +kernel
theorem dL_act_103 : decode cL_act 103 = .ok (.iconst 0, 1) := by decide +kernel
theorem dL_act_104 : decode cL_act 104 = .ok (.iload 5, 2) := by decide +kernel
theorem dL_act_106 : decode cL_act 106 = .ok (.invokevirtual 59, 3) := by decide +kernel
theorem dL_act_109 : decode cL_act 109 = .ok (.ireturn, 1) := by decide +kernel
theorem dL_act_110 : decode cL_act 110 = .ok (.aload_n 0, 1) := by decide +kernel
theorem dL_act_111 : decode cL_act 111 = .ok (.iload_n 2, 1) := by decide +kernel
theorem dL_act_112 : decode cL_act 112 = .ok (.iload_n 3, 1) := by decide +kernel
theorem dL_act_113 : decode cL_act 113 = .ok (.invokevirtual 63, 3) := by decide +kernel
theorem dL_act_116 : decode cL_act 116 = .ok (.ireturn, 1) := by decide +kernel
theorem dL_act_117 : decode cL_act 117 = .ok (.aload_n 0, 1) := by decide +kernel
theorem dL_act_118 : decode cL_act 118 = .ok (.iload_n 2, 1) := by decide +kernel
theorem dL_act_119 : decode cL_act 119 = .ok (.iload_n 3, 1) := by decide +kernel
theorem dL_act_120 : decode cL_act 120 = .ok (.iload 4, 2) := by decide +kernel
theorem dL_act_122 : decode cL_act 122 = .ok (.iconst 1, 1) := by decide +kernel
theorem dL_act_123 : decode cL_act 123 = .ok (.if_icmp .ne 7, 3) := by decide +kernel
theorem dL_act_126 : decode cL_act 126 = .ok (.iconst 1, 1) := by decide +kernel
theorem dL_act_127 : decode cL_act 127 = .ok (.goto 4, 3) := by decide +kernel
theorem dL_act_130 : decode cL_act 130 = .ok (.iconst 0, 1) := by decide +kernel
theorem dL_act_131 : decode cL_act 131 = .ok (.iload 5, 2) := by decide +kernel
theorem dL_act_133 : decode cL_act 133 = .ok (.invokevirtual 66, 3) := by decide +kernel
theorem dL_act_136 : decode cL_act 136 = .ok (.ireturn, 1) := by decide +kernel
theorem dL_act_137 : decode cL_act 137 = .ok (.aload_n 0, 1) := by decide +kernel
theorem dL_act_138 : decode cL_act 138 = .ok (.iload_n 2, 1) := by decide +kernel
theorem dL_act_139 : decode cL_act 139 = .ok (.invokevirtual 69, 3) := by decide +kernel
theorem dL_act_142 : decode cL_act 142 = .ok (.ireturn, 1) := by decide +kernel
theorem dL_act_143 : decode cL_act 143 = .ok (.aload_n 0, 1) := by decide +kernel
theorem dL_act_144 : decode cL_act 144 = .ok (.iload_n 2, 1) := by decide +kernel
theorem dL_act_145 : decode cL_act 145 = .ok (.iload_n 3, 1) := by decide +kernel
theorem dL_act_146 : decode cL_act 146 = .ok (.invokevirtual 72, 3) := by decide +kernel
theorem dL_act_149 : decode cL_act 149 = .ok (.ireturn, 1) := by decide +kernel
theorem dL_act_150 : decode cL_act 150 = .ok (.astore 7, 2) := by decide +kernel
theorem dL_act_152 : decode cL_act 152 = .ok (.bipush (-2), 2) := by decide +kernel
theorem dL_act_154 : decode cL_act 154 = .ok (.ireturn, 1) := by decide +kernel
theorem dL_act_155 : decode cL_act 155 = .ok (.astore 7, 2) := by decide +kernel
theorem dL_act_157 : decode cL_act 157 = .ok (.bipush (-3), 2) := by decide +kernel
theorem dL_act_159 : decode cL_act 159 = .ok (.ireturn, 1) := by decide +kernel
theorem dL_act_160 : decode cL_act 160 = .ok (.astore 7, 2) := by decide +kernel
theorem dL_act_162 : decode cL_act 162 = .ok (.bipush (-3), 2) := by decide +kernel
theorem dL_act_164 : decode cL_act 164 = .ok (.ireturn, 1) := by decide +kernel
set_option maxRecDepth 20000 in
theorem ggL_state_X6_account : GoodIn wsL_state wsX6_account := goodIn_ca (goodIn_ca (goodIn_r _ [5, 6, 7, 8, 9, 10, 11, 12, 13, 14, 15, 16, 17, 18, 19, 20, 21, 22, 23, 24, 25, 26, 27, 28, 29, 30, 31, 32, 33, 34, 35, 36, 37, 38, 39, 40, 41, 116, 117, 118, 119, 120, 121, 122, 123, 124, 125, 126, 127, 128, 129, 130, 131, 132, 133, 134, 135, 136, 137, 138, 139, 140, 141, 142, 143, 144, 145, 146, 147, 148, 149, 150, 151, 152, 153, 154, 155, 156, 157] (by decide +kernel) (by decide +kernel)) (goodIn_sub (fun _ h => List.mem_cons_of_mem _ (List.mem_append_left _ (List.mem_append_left _ (List.mem_append_right _ h)))) (by decide +kernel))) (goodIn_sub (fun _ h => List.mem_cons_of_mem _ (List.mem_append_left _ (List.mem_append_right _ h))) (by decide +kernel))
set_option maxRecDepth 20000 in
theorem gL_state_X6_account : GoodIn wsL_state (wsV RL 34 RX6 yX6_account wsX6_account) := goodIn_app (goodIn_of _ (by decide +kernel)) ggL_state_X6_account
set_option maxRecDepth 20000 in
theorem ggL_state_X6_doorOf : GoodIn wsL_state wsX6_doorOf := goodIn_ca (goodIn_ca (goodIn_ca (goodIn_r _ [45, 6, 7, 8, 46, 47, 48, 49, 50, 51, 52, 53, 54, 55, 56, 57, 58, 59, 4, 60, 61, 62, 63, 64, 65, 23, 66, 25, 67, 68, 69, 70, 71, 72, 73, 74, 75, 116, 117, 118, 119, 120, 121, 122, 123, 124, 125, 126, 127, 128, 129, 130, 131, 132, 133, 134, 135, 136, 137, 138, 148, 149, 150, 151, 152, 153, 154, 155, 156, 157] (by decide +kernel) (by decide +kernel)) (goodIn_sub (fun _ h => List.mem_cons_of_mem _ (List.mem_append_left _ (List.mem_append_left _ (List.mem_append_right _ h)))) (by decide +kernel))) (goodIn_sub (fun _ h => List.mem_cons_of_mem _ (List.mem_append_right _ h)) (by decide +kernel))) (goodIn_sub (fun _ h => List.mem_cons_of_mem _ (List.mem_append_left _ (List.mem_append_right _ h))) (by decide +kernel))
set_option maxRecDepth 20000 in
theorem gL_state_X6_doorOf : GoodIn wsL_state (wsV RL 43 RX6 yX6_doorOf wsX6_doorOf) := goodIn_app (goodIn_of _ (by decide +kernel)) ggL_state_X6_doorOf
set_option maxRecDepth 20000 in
theorem ggL_state_X6_thresholdOf : GoodIn wsL_state wsX6_thresholdOf := goodIn_ca (goodIn_ca (goodIn_ca (goodIn_r _ [79, 61, 62, 6, 7, 8, 10, 80, 81, 67, 4, 68, 82, 83, 84, 23, 85, 25, 26, 73, 116, 117, 118, 119, 120, 121, 122, 123, 124, 125, 126, 127, 128, 129, 130, 131, 132, 133, 134, 135, 136, 137, 138, 148, 149, 150, 151, 152, 153, 154, 155, 156, 157] (by decide +kernel) (by decide +kernel)) (goodIn_sub (fun _ h => List.mem_cons_of_mem _ (List.mem_append_right _ h)) (by decide +kernel))) (goodIn_sub (fun _ h => List.mem_cons_of_mem _ (List.mem_append_left _ (List.mem_append_right _ h))) (by decide +kernel))) (goodIn_sub (fun _ h => List.mem_cons_of_mem _ (List.mem_append_left _ (List.mem_append_left _ (List.mem_append_right _ h)))) (by decide +kernel))
set_option maxRecDepth 20000 in
theorem gL_state_X6_thresholdOf : GoodIn wsL_state (wsV RL 81 RX6 yX6_thresholdOf wsX6_thresholdOf) := goodIn_app (goodIn_of _ (by decide +kernel)) ggL_state_X6_thresholdOf
set_option maxRecDepth 20000 in
theorem ggL_state_X6_keysFor : GoodIn wsL_state wsX6_keysFor := goodIn_ca (goodIn_ca (goodIn_r _ [89, 8, 11, 57, 58, 59, 4, 60, 61, 62, 63, 64, 65, 23, 66, 25, 67, 68, 90, 91, 92, 93, 94, 26, 95, 96, 97, 116, 117, 118, 119, 120, 121, 122, 123, 124, 125, 126, 127, 128, 129, 130, 131, 132, 133, 134, 135, 136, 137, 138, 148, 149, 150, 151, 152, 153, 154, 155, 156, 157] (by decide +kernel) (by decide +kernel)) (goodIn_sub (fun _ h => List.mem_cons_of_mem _ (List.mem_append_right _ h)) (by decide +kernel))) (goodIn_sub (fun _ h => List.mem_cons_of_mem _ (List.mem_append_left _ (List.mem_append_right _ h))) (by decide +kernel))
set_option maxRecDepth 20000 in
theorem gL_state_X6_keysFor : GoodIn wsL_state (wsV RL 84 RX6 yX6_keysFor wsX6_keysFor) := goodIn_app (goodIn_of _ (by decide +kernel)) ggL_state_X6_keysFor
set_option maxRecDepth 20000 in
theorem ggL_state_X6_ending : GoodIn wsL_state wsX6_ending := goodIn_ca (goodIn_ca (goodIn_r _ [101, 6, 7, 8, 81, 67, 4, 68, 102, 103, 104, 105, 106, 107, 23, 108, 109, 110, 111, 112, 41, 113, 114, 115, 116, 117, 118, 119, 120, 121, 122, 123, 124, 125, 126, 127, 128, 129, 130, 131, 132, 133, 134, 135, 136, 137, 138] (by decide +kernel) (by decide +kernel)) (goodIn_sub (fun _ h => List.mem_cons_of_mem _ (List.mem_append_left _ (List.mem_append_left _ (List.mem_append_right _ h)))) (by decide +kernel))) (goodIn_sub (fun _ h => List.mem_cons_of_mem _ (List.mem_append_left _ (List.mem_append_right _ h))) (by decide +kernel))
set_option maxRecDepth 20000 in
theorem gL_state_X6_ending : GoodIn wsL_state (wsV RL 87 RX6 yX6_ending wsX6_ending) := goodIn_app (goodIn_of _ (by decide +kernel)) ggL_state_X6_ending
theorem dL_state_0 : decode cL_state 0 = .ok (.iconst 0, 1) := by decide +kernel
theorem dL_state_1 : decode cL_state 1 = .ok (.istore_n 1, 1) := by decide +kernel
theorem dL_state_2 : decode cL_state 2 = .ok (.iconst 0, 1) := by decide +kernel
theorem dL_state_3 : decode cL_state 3 = .ok (.istore_n 2, 1) := by decide +kernel
theorem dL_state_4 : decode cL_state 4 = .ok (.iload_n 2, 1) := by decide +kernel
theorem dL_state_5 : decode cL_state 5 = .ok (.bipush 11, 2) := by decide +kernel
theorem dL_state_7 : decode cL_state 7 = .ok (.if_icmp .ge 20, 3) := by decide +kernel
theorem dL_state_10 : decode cL_state 10 = .ok (.bipush 31, 2) := by decide +kernel
theorem dL_state_12 : decode cL_state 12 = .ok (.iload_n 1, 1) := by decide +kernel
theorem dL_state_13 : decode cL_state 13 = .ok (.imul, 1) := by decide +kernel
theorem dL_state_14 : decode cL_state 14 = .ok (.aload_n 0, 1) := by decide +kernel
theorem dL_state_15 : decode cL_state 15 = .ok (.iload_n 2, 1) := by decide +kernel
theorem dL_state_16 : decode cL_state 16 = .ok (.invokevirtual 34, 3) := by decide +kernel
theorem dL_state_19 : decode cL_state 19 = .ok (.iadd, 1) := by decide +kernel
theorem dL_state_20 : decode cL_state 20 = .ok (.istore_n 1, 1) := by decide +kernel
theorem dL_state_21 : decode cL_state 21 = .ok (.iinc 2 1, 3) := by decide +kernel
theorem dL_state_24 : decode cL_state 24 = .ok (.goto (-20), 3) := by decide +kernel
theorem dL_state_27 : decode cL_state 27 = .ok (.iconst 0, 1) := by decide +kernel
theorem dL_state_28 : decode cL_state 28 = .ok (.istore_n 2, 1) := by decide +kernel
theorem dL_state_29 : decode cL_state 29 = .ok (.iload_n 2, 1) := by decide +kernel
theorem dL_state_30 : decode cL_state 30 = .ok (.aload_n 0, 1) := by decide +kernel
theorem dL_state_31 : decode cL_state 31 = .ok (.iconst 0, 1) := by decide +kernel
theorem dL_state_32 : decode cL_state 32 = .ok (.invokevirtual 34, 3) := by decide +kernel
theorem dL_state_35 : decode cL_state 35 = .ok (.if_icmp .ge 35, 3) := by decide +kernel
theorem dL_state_38 : decode cL_state 38 = .ok (.iconst 0, 1) := by decide +kernel
theorem dL_state_39 : decode cL_state 39 = .ok (.istore_n 3, 1) := by decide +kernel
theorem dL_state_40 : decode cL_state 40 = .ok (.iload_n 3, 1) := by decide +kernel
theorem dL_state_41 : decode cL_state 41 = .ok (.bipush 11, 2) := by decide +kernel
theorem dL_state_43 : decode cL_state 43 = .ok (.if_icmp .ge 21, 3) := by decide +kernel
theorem dL_state_46 : decode cL_state 46 = .ok (.bipush 31, 2) := by decide +kernel
theorem dL_state_48 : decode cL_state 48 = .ok (.iload_n 1, 1) := by decide +kernel
theorem dL_state_49 : decode cL_state 49 = .ok (.imul, 1) := by decide +kernel
theorem dL_state_50 : decode cL_state 50 = .ok (.aload_n 0, 1) := by decide +kernel
theorem dL_state_51 : decode cL_state 51 = .ok (.iload_n 2, 1) := by decide +kernel
theorem dL_state_52 : decode cL_state 52 = .ok (.iload_n 3, 1) := by decide +kernel
theorem dL_state_53 : decode cL_state 53 = .ok (.invokevirtual 43, 3) := by decide +kernel
theorem dL_state_56 : decode cL_state 56 = .ok (.iadd, 1) := by decide +kernel
theorem dL_state_57 : decode cL_state 57 = .ok (.istore_n 1, 1) := by decide +kernel
theorem dL_state_58 : decode cL_state 58 = .ok (.iinc 3 1, 3) := by decide +kernel
theorem dL_state_61 : decode cL_state 61 = .ok (.goto (-21), 3) := by decide +kernel
theorem dL_state_64 : decode cL_state 64 = .ok (.iinc 2 1, 3) := by decide +kernel
theorem dL_state_67 : decode cL_state 67 = .ok (.goto (-38), 3) := by decide +kernel
theorem dL_state_70 : decode cL_state 70 = .ok (.iconst 0, 1) := by decide +kernel
theorem dL_state_71 : decode cL_state 71 = .ok (.istore_n 2, 1) := by decide +kernel
theorem dL_state_72 : decode cL_state 72 = .ok (.iload_n 2, 1) := by decide +kernel
theorem dL_state_73 : decode cL_state 73 = .ok (.aload_n 0, 1) := by decide +kernel
theorem dL_state_74 : decode cL_state 74 = .ok (.iconst 1, 1) := by decide +kernel
theorem dL_state_75 : decode cL_state 75 = .ok (.invokevirtual 34, 3) := by decide +kernel
theorem dL_state_78 : decode cL_state 78 = .ok (.if_icmp .ge 21, 3) := by decide +kernel
theorem dL_state_81 : decode cL_state 81 = .ok (.bipush 31, 2) := by decide +kernel
theorem dL_state_83 : decode cL_state 83 = .ok (.iload_n 1, 1) := by decide +kernel
theorem dL_state_84 : decode cL_state 84 = .ok (.imul, 1) := by decide +kernel
theorem dL_state_85 : decode cL_state 85 = .ok (.aload_n 0, 1) := by decide +kernel
theorem dL_state_86 : decode cL_state 86 = .ok (.iload_n 2, 1) := by decide +kernel
theorem dL_state_87 : decode cL_state 87 = .ok (.iconst 0, 1) := by decide +kernel
theorem dL_state_88 : decode cL_state 88 = .ok (.invokevirtual 81, 3) := by decide +kernel
theorem dL_state_91 : decode cL_state 91 = .ok (.iadd, 1) := by decide +kernel
theorem dL_state_92 : decode cL_state 92 = .ok (.istore_n 1, 1) := by decide +kernel
theorem dL_state_93 : decode cL_state 93 = .ok (.iinc 2 1, 3) := by decide +kernel
theorem dL_state_96 : decode cL_state 96 = .ok (.goto (-24), 3) := by decide +kernel
theorem dL_state_99 : decode cL_state 99 = .ok (.iconst 0, 1) := by decide +kernel
theorem dL_state_100 : decode cL_state 100 = .ok (.istore_n 2, 1) := by decide +kernel
theorem dL_state_101 : decode cL_state 101 = .ok (.iload_n 2, 1) := by decide +kernel
theorem dL_state_102 : decode cL_state 102 = .ok (.aload_n 0, 1) := by decide +kernel
theorem dL_state_103 : decode cL_state 103 = .ok (.iconst 0, 1) := by decide +kernel
theorem dL_state_104 : decode cL_state 104 = .ok (.invokevirtual 34, 3) := by decide +kernel
theorem dL_state_107 : decode cL_state 107 = .ok (.if_icmp .ge 20, 3) := by decide +kernel
theorem dL_state_110 : decode cL_state 110 = .ok (.bipush 31, 2) := by decide +kernel
theorem dL_state_112 : decode cL_state 112 = .ok (.iload_n 1, 1) := by decide +kernel
theorem dL_state_113 : decode cL_state 113 = .ok (.imul, 1) := by decide +kernel
theorem dL_state_114 : decode cL_state 114 = .ok (.aload_n 0, 1) := by decide +kernel
theorem dL_state_115 : decode cL_state 115 = .ok (.iload_n 2, 1) := by decide +kernel
theorem dL_state_116 : decode cL_state 116 = .ok (.invokevirtual 84, 3) := by decide +kernel
theorem dL_state_119 : decode cL_state 119 = .ok (.iadd, 1) := by decide +kernel
theorem dL_state_120 : decode cL_state 120 = .ok (.istore_n 1, 1) := by decide +kernel
theorem dL_state_121 : decode cL_state 121 = .ok (.iinc 2 1, 3) := by decide +kernel
theorem dL_state_124 : decode cL_state 124 = .ok (.goto (-23), 3) := by decide +kernel
theorem dL_state_127 : decode cL_state 127 = .ok (.iconst 0, 1) := by decide +kernel
theorem dL_state_128 : decode cL_state 128 = .ok (.istore_n 2, 1) := by decide +kernel
theorem dL_state_129 : decode cL_state 129 = .ok (.iload_n 2, 1) := by decide +kernel
theorem dL_state_130 : decode cL_state 130 = .ok (.bipush 24, 2) := by decide +kernel
theorem dL_state_132 : decode cL_state 132 = .ok (.if_icmp .ge 40, 3) := by decide +kernel
theorem dL_state_135 : decode cL_state 135 = .ok (.bipush 31, 2) := by decide +kernel
theorem dL_state_137 : decode cL_state 137 = .ok (.iload_n 1, 1) := by decide +kernel
theorem dL_state_138 : decode cL_state 138 = .ok (.imul, 1) := by decide +kernel
theorem dL_state_139 : decode cL_state 139 = .ok (.aload_n 0, 1) := by decide +kernel
theorem dL_state_140 : decode cL_state 140 = .ok (.iload_n 2, 1) := by decide +kernel
theorem dL_state_141 : decode cL_state 141 = .ok (.bipush 8, 2) := by decide +kernel
theorem dL_state_143 : decode cL_state 143 = .ok (.idiv, 1) := by decide +kernel
theorem dL_state_144 : decode cL_state 144 = .ok (.iload_n 2, 1) := by decide +kernel
theorem dL_state_145 : decode cL_state 145 = .ok (.iconst 2, 1) := by decide +kernel
theorem dL_state_146 : decode cL_state 146 = .ok (.idiv, 1) := by decide +kernel
theorem dL_state_147 : decode cL_state 147 = .ok (.iconst 4, 1) := by decide +kernel
theorem dL_state_148 : decode cL_state 148 = .ok (.irem, 1) := by decide +kernel
theorem dL_state_149 : decode cL_state 149 = .ok (.iload_n 2, 1) := by decide +kernel
theorem dL_state_150 : decode cL_state 150 = .ok (.iconst 2, 1) := by decide +kernel
theorem dL_state_151 : decode cL_state 151 = .ok (.irem, 1) := by decide +kernel
theorem dL_state_152 : decode cL_state 152 = .ok (.iconst 1, 1) := by decide +kernel
theorem dL_state_153 : decode cL_state 153 = .ok (.if_icmp .ne 7, 3) := by decide +kernel
theorem dL_state_156 : decode cL_state 156 = .ok (.iconst 1, 1) := by decide +kernel
theorem dL_state_157 : decode cL_state 157 = .ok (.goto 4, 3) := by decide +kernel
theorem dL_state_160 : decode cL_state 160 = .ok (.iconst 0, 1) := by decide +kernel
theorem dL_state_161 : decode cL_state 161 = .ok (.invokevirtual 87, 3) := by decide +kernel
theorem dL_state_164 : decode cL_state 164 = .ok (.iadd, 1) := by decide +kernel
theorem dL_state_165 : decode cL_state 165 = .ok (.istore_n 1, 1) := by decide +kernel
theorem dL_state_166 : decode cL_state 166 = .ok (.iinc 2 1, 3) := by decide +kernel
theorem dL_state_169 : decode cL_state 169 = .ok (.goto (-40), 3) := by decide +kernel
theorem dL_state_172 : decode cL_state 172 = .ok (.iload_n 1, 1) := by decide +kernel
theorem dL_state_173 : decode cL_state 173 = .ok (.ireturn, 1) := by decide +kernel
set_option maxRecDepth 20000 in
theorem ggL_ending_J4_init_da8c8 : GoodIn wsL_ending wsJ4_init_da8c8 := goodIn_r _ [6, 7, 8, 9, 10, 11, 12, 13, 14, 15, 16, 17, 18, 19, 20, 21, 22, 23, 24, 25, 249, 250, 251, 252] (by decide +kernel) (by decide +kernel)
set_option maxRecDepth 20000 in
theorem gL_ending_J4_init_da8c8 : GoodIn wsL_ending (wsJ4_init_da8c8) := ggL_ending_J4_init_da8c8
set_option maxRecDepth 20000 in
theorem ggL_ending_J4_append_15ec4 : GoodIn wsL_ending wsJ4_append_15ec4 := goodIn_r _ [29, 30, 31, 32, 33, 9, 34, 35, 36, 37, 38, 39, 40, 16, 41, 42, 43, 44, 45, 17, 46, 47, 48, 49, 50, 51, 52, 53, 54, 55, 56, 57, 58, 59, 60, 61, 62, 63, 64, 65, 66, 67, 68, 69, 70, 71, 72, 73, 15, 74, 75, 76, 77, 78, 79, 80, 81, 82, 83, 84, 85, 14, 86, 87, 20, 88, 89, 90, 91, 92, 93, 94, 95, 96, 97, 98, 99, 100, 101, 102, 103, 104, 105, 106, 107, 108, 109, 110, 111, 112, 113, 114, 115, 116, 117, 118, 119, 120, 121, 122, 123, 124, 125, 126, 127, 128, 129, 130, 131, 132, 133, 134, 135, 136, 18, 19, 21, 22, 23, 24, 25, 137, 138, 139, 140, 141, 142, 143, 144, 145, 146, 147, 148, 149, 150, 151, 152, 153, 154, 155, 156, 157, 158, 249, 250, 251, 252, 253, 254, 255, 256] (by decide +kernel) (by decide +kernel)
set_option maxRecDepth 20000 in
theorem gL_ending_J4_append_15ec4 : GoodIn wsL_ending (wsV RL 96 RJ4 yJ4_append_15ec4 wsJ4_append_15ec4) := goodIn_app (goodIn_of _ (by decide +kernel)) ggL_ending_J4_append_15ec4
set_option maxRecDepth 20000 in
theorem ggL_ending_J0_charAt_5068e : GoodIn wsL_ending wsJ0_charAt_5068e := goodIn_r _ [162, 114, 163, 164, 165, 98, 166, 119, 120, 167, 168, 139, 169, 170, 171, 172, 100, 173, 174, 103, 175, 176, 177, 20, 178, 179, 180, 181, 93, 94, 95, 182, 183, 184, 185, 89, 108, 109, 253, 254, 255, 256] (by decide +kernel) (by decide +kernel)
set_option maxRecDepth 20000 in
theorem gL_ending_J0_charAt_5068e : GoodIn wsL_ending (wsV RL 13 RJ0 yJ0_charAt_5068e wsJ0_charAt_5068e) := goodIn_app (goodIn_of _ (by decide +kernel)) ggL_ending_J0_charAt_5068e
set_option maxRecDepth 20000 in
theorem ggL_ending_J4_append_cf468 : GoodIn wsL_ending wsJ4_append_cf468 := goodIn_r _ [189, 190, 191, 32, 192, 9, 193, 35, 16, 41, 42, 43, 44, 45, 17, 46, 47, 48, 49, 50, 51, 52, 53, 54, 55, 56, 57, 58, 59, 60, 61, 62, 63, 64, 65, 66, 67, 68, 69, 70, 71, 72, 73, 15, 74, 75, 76, 77, 78, 79, 80, 81, 82, 83, 84, 85, 14, 194, 195, 139, 196, 132, 133, 134, 135, 136, 18, 19, 20, 21, 22, 23, 24, 25, 137, 138, 140, 141, 142, 143, 144, 145, 146, 93, 94, 95, 147, 148, 98, 149, 100, 150, 151, 103, 152, 105, 106, 107, 89, 108, 109, 197, 198, 199, 179, 180, 181, 182, 171, 172, 173, 174, 175, 249, 250, 251, 252] (by decide +kernel) (by decide +kernel)
set_option maxRecDepth 20000 in
theorem gL_ending_J4_append_cf468 : GoodIn wsL_ending (wsV RL 101 RJ4 yJ4_append_cf468 wsJ4_append_cf468) := goodIn_app (goodIn_of _ (by decide +kernel)) ggL_ending_J4_append_cf468
set_option maxRecDepth 20000 in
theorem ggL_ending_J4_toString_0e30d : GoodIn wsL_ending wsJ4_toString_0e30d := goodIn_r _ [203, 204, 205, 98, 206, 207, 208, 209, 210, 211, 212, 12, 13, 120, 114, 119, 213, 214, 215, 216, 217, 9, 218, 16, 219, 220, 221, 222, 223, 3, 224, 225, 32, 226, 227, 35, 228, 82, 83, 84, 85, 14, 17, 229, 230, 66, 231, 68, 69, 70, 71, 72, 73, 232, 233, 234, 15, 74, 75, 58, 76, 77, 78, 79, 80, 235, 236, 237, 238, 2, 239, 240, 20, 241, 242, 243, 244, 144, 145, 146, 93, 94, 95, 147, 148, 149, 100, 150, 151, 103, 152, 183, 184, 185, 89, 108, 109, 22, 23, 24, 25, 245, 246, 247, 248, 253, 254, 255, 256, 249, 250, 251, 252] (by decide +kernel) (by decide +kernel)
set_option maxRecDepth 20000 in
theorem gL_ending_J4_toString_0e30d : GoodIn wsL_ending (wsV RL 106 RJ4 yJ4_toString_0e30d wsJ4_toString_0e30d) := goodIn_app (goodIn_of _ (by decide +kernel)) ggL_ending_J4_toString_0e30d
theorem dL_ending_0 : decode cL_ending 0 = .ok (.ldc 94, 2) := by decide +kernel
theorem dL_ending_2 : decode cL_ending 2 = .ok (.astore_n 0, 1) := by decide +kernel
theorem dL_ending_3 : decode cL_ending 3 = .ok (.iconst 0, 1) := by decide +kernel
theorem dL_ending_4 : decode cL_ending 4 = .ok (.istore_n 1, 1) := by decide +kernel
theorem dL_ending_5 : decode cL_ending 5 = .ok (.iload_n 1, 1) := by decide +kernel
theorem dL_ending_6 : decode cL_ending 6 = .ok (.bipush 8, 2) := by decide +kernel
theorem dL_ending_8 : decode cL_ending 8 = .ok (.if_icmp .ge 60, 3) := by decide +kernel
theorem dL_ending_11 : decode cL_ending 11 = .ok (.new 91, 3) := by decide +kernel
theorem dL_ending_14 : decode cL_ending 14 = .ok (.dup, 1) := by decide +kernel
theorem dL_ending_15 : decode cL_ending 15 = .ok (.invokespecial 93, 3) := by decide +kernel
theorem dL_ending_18 : decode cL_ending 18 = .ok (.aload_n 0, 1) := by decide +kernel
theorem dL_ending_19 : decode cL_ending 19 = .ok (.invokevirtual 96, 3) := by decide +kernel
theorem dL_ending_22 : decode cL_ending 22 = .ok (.iload_n 1, 1) := by decide +kernel
theorem dL_ending_23 : decode cL_ending 23 = .ok (.iconst 4, 1) := by decide +kernel
theorem dL_ending_24 : decode cL_ending 24 = .ok (.if_icmp .ne 8, 3) := by decide +kernel
theorem dL_ending_27 : decode cL_ending 27 = .ok (.ldc 246, 2) := by decide +kernel
theorem dL_ending_29 : decode cL_ending 29 = .ok (.goto 5, 3) := by decide +kernel
theorem dL_ending_32 : decode cL_ending 32 = .ok (.ldc 94, 2) := by decide +kernel
theorem dL_ending_34 : decode cL_ending 34 = .ok (.invokevirtual 96, 3) := by decide +kernel
theorem dL_ending_37 : decode cL_ending 37 = .ok (.ldc 248, 2) := by decide +kernel
theorem dL_ending_39 : decode cL_ending 39 = .ok (.iconst 2, 1) := by decide +kernel
theorem dL_ending_40 : decode cL_ending 40 = .ok (.iconst 2, 1) := by decide +kernel
theorem dL_ending_41 : decode cL_ending 41 = .ok (.iload_n 1, 1) := by decide +kernel
theorem dL_ending_42 : decode cL_ending 42 = .ok (.iconst 4, 1) := by decide +kernel
theorem dL_ending_43 : decode cL_ending 43 = .ok (.irem, 1) := by decide +kernel
theorem dL_ending_44 : decode cL_ending 44 = .ok (.imul, 1) := by decide +kernel
theorem dL_ending_45 : decode cL_ending 45 = .ok (.iadd, 1) := by decide +kernel
theorem dL_ending_46 : decode cL_ending 46 = .ok (.iload_n 1, 1) := by decide +kernel
theorem dL_ending_47 : decode cL_ending 47 = .ok (.iconst 4, 1) := by decide +kernel
theorem dL_ending_48 : decode cL_ending 48 = .ok (.idiv, 1) := by decide +kernel
theorem dL_ending_49 : decode cL_ending 49 = .ok (.iadd, 1) := by decide +kernel
theorem dL_ending_50 : decode cL_ending 50 = .ok (.iconst 5, 1) := by decide +kernel
theorem dL_ending_51 : decode cL_ending 51 = .ok (.irem, 1) := by decide +kernel
theorem dL_ending_52 : decode cL_ending 52 = .ok (.invokevirtual 13, 3) := by decide +kernel
theorem dL_ending_55 : decode cL_ending 55 = .ok (.invokevirtual 101, 3) := by decide +kernel
theorem dL_ending_58 : decode cL_ending 58 = .ok (.invokevirtual 106, 3) := by decide +kernel
theorem dL_ending_61 : decode cL_ending 61 = .ok (.astore_n 0, 1) := by decide +kernel
theorem dL_ending_62 : decode cL_ending 62 = .ok (.iinc 1 1, 3) := by decide +kernel
theorem dL_ending_65 : decode cL_ending 65 = .ok (.goto (-60), 3) := by decide +kernel
theorem dL_ending_68 : decode cL_ending 68 = .ok (.aload_n 0, 1) := by decide +kernel
theorem dL_ending_69 : decode cL_ending 69 = .ok (.areturn, 1) := by decide +kernel
set_option maxRecDepth 20000 in
theorem ggL_isLine_J0_length_8abf5 : GoodIn wsL_isLine wsJ0_length_8abf5 := goodIn_r _ [5, 6, 7, 8, 9, 4, 10, 11, 12, 63, 64, 65, 66] (by decide +kernel) (by decide +kernel)
set_option maxRecDepth 20000 in
theorem gL_isLine_J0_length_8abf5 : GoodIn wsL_isLine (wsV RL 7 RJ0 yJ0_length_8abf5 wsJ0_length_8abf5) := goodIn_app (goodIn_of _ (by decide +kernel)) ggL_isLine_J0_length_8abf5
set_option maxRecDepth 20000 in
theorem ggL_isLine_X6_character : GoodIn wsL_isLine wsX6_character := goodIn_ca (goodIn_ca (goodIn_r _ [17, 18, 19, 20, 21, 22, 23, 24, 16, 25, 67, 68, 69, 70, 71, 72, 73, 74, 75, 76, 77, 78, 79] (by decide +kernel) (by decide +kernel)) (goodIn_sub (fun _ h => List.mem_cons_of_mem _ (List.mem_append_left _ (List.mem_append_right _ h))) (by decide +kernel))) (goodIn_sub (fun _ h => List.mem_cons_of_mem _ (List.mem_append_right _ h)) (by decide +kernel))
set_option maxRecDepth 20000 in
theorem gL_isLine_X6_character : GoodIn wsL_isLine (wsV RL 250 RX6 yX6_character wsX6_character) := goodIn_app (goodIn_of _ (by decide +kernel)) ggL_isLine_X6_character
set_option maxRecDepth 20000 in
theorem ggL_isLine_J0_charAt_5068e : GoodIn wsL_isLine wsJ0_charAt_5068e := goodIn_r _ [29, 6, 30, 31, 32, 4, 33, 11, 12, 34, 35, 36, 37, 38, 39, 40, 41, 42, 43, 44, 45, 46, 47, 48, 49, 50, 51, 52, 53, 54, 55, 56, 57, 58, 59, 60, 61, 62, 63, 64, 65, 66] (by decide +kernel) (by decide +kernel)
set_option maxRecDepth 20000 in
theorem gL_isLine_J0_charAt_5068e : GoodIn wsL_isLine (wsV RL 13 RJ0 yJ0_charAt_5068e wsJ0_charAt_5068e) := goodIn_app (goodIn_of _ (by decide +kernel)) ggL_isLine_J0_charAt_5068e
theorem dL_isLine_0 : decode cL_isLine 0 = .ok (.iload_n 1, 1) := by decide +kernel
theorem dL_isLine_1 : decode cL_isLine 1 = .ok (.aload_n 2, 1) := by decide +kernel
theorem dL_isLine_2 : decode cL_isLine 2 = .ok (.invokevirtual 7, 3) := by decide +kernel
theorem dL_isLine_5 : decode cL_isLine 5 = .ok (.if_icmp .eq 5, 3) := by decide +kernel
theorem dL_isLine_8 : decode cL_isLine 8 = .ok (.iconst 0, 1) := by decide +kernel
theorem dL_isLine_9 : decode cL_isLine 9 = .ok (.ireturn, 1) := by decide +kernel
theorem dL_isLine_10 : decode cL_isLine 10 = .ok (.iconst 0, 1) := by decide +kernel
theorem dL_isLine_11 : decode cL_isLine 11 = .ok (.istore_n 3, 1) := by decide +kernel
theorem dL_isLine_12 : decode cL_isLine 12 = .ok (.iload_n 3, 1) := by decide +kernel
theorem dL_isLine_13 : decode cL_isLine 13 = .ok (.iload_n 1, 1) := by decide +kernel
theorem dL_isLine_14 : decode cL_isLine 14 = .ok (.if_icmp .ge 24, 3) := by decide +kernel
theorem dL_isLine_17 : decode cL_isLine 17 = .ok (.aload_n 0, 1) := by decide +kernel
theorem dL_isLine_18 : decode cL_isLine 18 = .ok (.iload_n 3, 1) := by decide +kernel
theorem dL_isLine_19 : decode cL_isLine 19 = .ok (.invokevirtual 250, 3) := by decide +kernel
theorem dL_isLine_22 : decode cL_isLine 22 = .ok (.aload_n 2, 1) := by decide +kernel
theorem dL_isLine_23 : decode cL_isLine 23 = .ok (.iload_n 3, 1) := by decide +kernel
theorem dL_isLine_24 : decode cL_isLine 24 = .ok (.invokevirtual 13, 3) := by decide +kernel
theorem dL_isLine_27 : decode cL_isLine 27 = .ok (.if_icmp .eq 5, 3) := by decide +kernel
theorem dL_isLine_30 : decode cL_isLine 30 = .ok (.iconst 0, 1) := by decide +kernel
theorem dL_isLine_31 : decode cL_isLine 31 = .ok (.ireturn, 1) := by decide +kernel
theorem dL_isLine_32 : decode cL_isLine 32 = .ok (.iinc 3 1, 3) := by decide +kernel
theorem dL_isLine_35 : decode cL_isLine 35 = .ok (.goto (-23), 3) := by decide +kernel
theorem dL_isLine_38 : decode cL_isLine 38 = .ok (.iconst 1, 1) := by decide +kernel
theorem dL_isLine_39 : decode cL_isLine 39 = .ok (.ireturn, 1) := by decide +kernel
set_option maxRecDepth 20000 in
theorem ggL_runs_X6_read : GoodIn wsL_runs wsX6_read := goodIn_ca (goodIn_ca (goodIn_ca (goodIn_r _ [6, 7, 8, 9, 10, 11, 12, 13, 14, 15, 16, 17, 18, 19, 20, 21, 22, 23, 24, 25, 26, 27, 28, 29, 30, 31, 32, 33, 34, 35, 36, 37, 38, 39, 40, 41, 42, 43, 44, 45, 46, 47, 48, 49, 50, 51, 52, 53, 54, 55, 56, 57, 58, 59, 60, 61, 62, 63, 64, 65, 66, 67, 68, 69, 70, 71, 72, 73, 74, 75, 76, 77, 78, 79, 80, 81, 82, 83, 84, 85, 86, 87, 88, 89, 90, 91, 92, 93, 94, 95, 96, 97, 98, 99, 100, 101, 102, 103, 104, 105, 106, 107, 108, 109, 110, 111, 112, 113, 114, 115, 116, 117, 118, 119, 120, 121, 122, 123, 124, 125, 126, 127, 128, 129, 130, 131, 132, 133, 134, 135, 136, 137, 138, 139, 140, 141, 142, 143, 144, 145, 146, 147, 148, 149, 150, 151, 152, 153, 154, 155, 156, 157, 158, 159, 160, 161, 162, 163, 164, 165, 166, 167, 168, 169, 170, 171, 172, 173, 174, 175, 176, 177, 178, 179, 180, 181, 182, 183, 184, 185, 186, 187, 188, 189, 190, 191, 192, 193, 194, 195, 196, 197, 198, 199, 200, 201, 202, 203, 204, 205, 206, 207, 208, 209, 210, 211, 212, 213, 214, 215, 216, 217, 218, 219, 220, 221, 222, 223, 224, 225, 226, 227, 228, 229, 230, 5, 231, 232, 233, 234, 235, 236, 237, 238, 239, 240, 241, 242, 243, 244, 245, 246, 247, 248, 249, 250, 251, 252, 253, 254, 255, 256, 257, 258, 259, 260, 261, 262, 263, 264, 265, 266, 267, 268, 269, 270, 271, 272, 273, 274, 275, 276, 277, 278, 279, 280, 281, 282, 283, 284, 285, 286, 287, 288, 289, 290, 291, 292, 293, 294, 295, 296, 297, 298, 299, 300, 301, 302, 303, 304, 305, 306, 307, 308, 309, 310, 311, 312, 313, 314, 315, 316, 317, 318, 319, 320, 321, 322, 323, 324, 325, 326, 327, 328, 329, 330, 331, 332, 333, 334, 335, 336, 337, 338, 339, 340, 341, 342, 343, 344, 345, 346, 347, 348, 349, 350, 351, 352, 353, 354, 355, 356, 357, 358, 359, 360, 361, 362, 363, 364, 365, 366, 367, 368, 369, 370, 371, 372, 373, 374, 375, 376, 377, 378, 379, 380, 381, 382, 383, 384, 385, 386, 387, 388, 389, 390, 391, 392, 393, 394, 395, 396, 397, 398, 399, 400, 401, 402, 403, 404, 405, 406, 407, 408, 409, 410, 411, 412, 413, 414, 415, 416, 417, 418, 419, 420, 421, 422, 423, 424, 425, 426, 427, 428, 429, 430, 431, 432, 433, 434, 435, 436, 437, 438, 439, 440, 441, 442, 443, 444, 445, 446, 447, 448, 449, 450, 451, 452, 453, 454, 455, 456, 457, 458, 459, 460, 461, 462, 463, 464, 465, 466, 467, 468] (by decide +kernel) (by decide +kernel)) (goodIn_sub (fun _ h => List.mem_cons_of_mem _ (List.mem_append_left _ (List.mem_append_left _ (List.mem_append_right _ h)))) (by decide +kernel))) (goodIn_sub (fun _ h => List.mem_cons_of_mem _ (List.mem_append_left _ (List.mem_append_right _ h))) (by decide +kernel))) (goodIn_sub (fun _ h => List.mem_cons_of_mem _ (List.mem_append_right _ h)) (by decide +kernel))
set_option maxRecDepth 20000 in
theorem gL_runs_X6_read : GoodIn wsL_runs (wsV RL 132 RX6 yX6_read wsX6_read) := goodIn_app (goodIn_of _ (by decide +kernel)) ggL_runs_X6_read
theorem dL_runs_0 : decode cL_runs 0 = .ok (.aload_n 0, 1) := by decide +kernel
theorem dL_runs_1 : decode cL_runs 1 = .ok (.invokevirtual 132, 3) := by decide +kernel
theorem dL_runs_4 : decode cL_runs 4 = .ok (.ireturn, 1) := by decide +kernel
theorem dL_runs_5 : decode cL_runs 5 = .ok (.astore_n 1, 1) := by decide +kernel
theorem dL_runs_6 : decode cL_runs 6 = .ok (.iconst (-1), 1) := by decide +kernel
theorem dL_runs_7 : decode cL_runs 7 = .ok (.ireturn, 1) := by decide +kernel
theorem dL_runs_8 : decode cL_runs 8 = .ok (.astore_n 1, 1) := by decide +kernel
theorem dL_runs_9 : decode cL_runs 9 = .ok (.bipush (-2), 2) := by decide +kernel
theorem dL_runs_11 : decode cL_runs 11 = .ok (.ireturn, 1) := by decide +kernel
set_option maxRecDepth 20000 in
theorem ggNL_faults_L_put : GoodIn wsNL_faults wsL_put := goodIn_ca (goodIn_ca (goodIn_ca (goodIn_r _ [4, 5, 6, 7, 8, 9, 10, 11, 12, 13, 14, 15, 16, 17, 18, 19, 20, 21, 22, 23, 24, 25, 26, 27, 28, 29, 30, 31, 32, 33, 34, 35, 36, 37, 38, 39, 40, 41, 42, 43, 44, 45, 46, 47, 48, 49, 50, 51, 52, 53, 54, 55, 56, 57, 58, 59, 60, 61, 62, 63, 64, 65, 66, 67, 68, 69, 70, 71, 449, 450, 451, 452, 453, 454, 455, 456, 457, 458, 459, 460, 461, 462, 463, 464, 465, 466, 467, 468, 469] (by decide +kernel) (by decide +kernel)) (goodIn_sub (fun _ h => List.mem_cons_of_mem _ (List.mem_append_left _ (List.mem_append_left _ (List.mem_append_left _ (List.mem_append_left _ (List.mem_append_right _ h)))))) (by decide +kernel))) (goodIn_sub (fun _ h => List.mem_cons_of_mem _ (List.mem_append_left _ (List.mem_append_left _ (List.mem_append_left _ (List.mem_append_right _ h))))) (by decide +kernel))) (goodIn_sub (fun _ h => List.mem_cons_of_mem _ (List.mem_append_left _ (List.mem_append_left _ (List.mem_append_right _ h)))) (by decide +kernel))
set_option maxRecDepth 20000 in
theorem gNL_faults_L_put : GoodIn wsNL_faults (va_wsS RL 128 yL_put wsL_put) := goodIn_app (goodIn_of _ (by decide +kernel)) ggNL_faults_L_put
set_option maxRecDepth 20000 in
theorem ggNL_faults_L_runs : GoodIn wsNL_faults wsL_runs := goodIn_ca (goodIn_ca (goodIn_ca (goodIn_r _ [74, 75, 76, 77, 78, 57, 79, 59, 60, 80, 81, 63, 82, 83, 84, 85, 86, 87, 88, 89, 68, 90, 91, 70, 92, 93, 94, 95, 96, 97, 98, 99, 100, 101, 102, 103, 104, 105, 106, 107, 108, 109, 110, 111, 112, 71, 113, 6, 7, 8, 9, 10, 11, 12, 13, 14, 15, 16, 114, 18, 19, 20, 21, 22, 23, 24, 25, 26, 27, 28, 29, 30, 31, 32, 33, 34, 35, 36, 37, 38, 39, 40, 41, 42, 43, 44, 45, 46, 47, 48, 49, 50, 51, 52, 53, 115, 116, 117, 118, 119, 120, 121, 122, 123, 124, 125, 126, 127, 128, 129, 130, 131, 132, 133, 134, 135, 136, 137, 138, 139, 140, 141, 142, 143, 144, 145, 146, 147, 148, 149, 150, 151, 152, 153, 154, 155, 156, 157, 158, 159, 160, 161, 162, 163, 164, 165, 166, 167, 168, 169, 170, 171, 172, 173, 174, 175, 176, 177, 178, 179, 180, 181, 182, 183, 184, 185, 186, 187, 188, 189, 190, 191, 192, 193, 194, 195, 196, 197, 198, 199, 200, 201, 202, 203, 204, 205, 206, 207, 208, 209, 210, 211, 212, 213, 214, 215, 216, 217, 218, 219, 220, 221, 222, 223, 224, 225, 226, 227, 228, 229, 230, 231, 232, 233, 234, 235, 236, 237, 238, 239, 240, 241, 242, 243, 244, 245, 246, 247, 248, 249, 250, 251, 252, 253, 254, 255, 256, 257, 258, 259, 260, 261, 262, 263, 264, 265, 266, 267, 268, 269, 270, 271, 272, 273, 274, 275, 276, 277, 278, 279, 280, 281, 282, 283, 284, 285, 286, 287, 288, 289, 290, 291, 292, 293, 294, 295, 296, 297, 298, 299, 300, 301, 302, 303, 304, 305, 306, 307, 308, 309, 310, 311, 312, 313, 314, 315, 316, 317, 318, 319, 320, 321, 322, 323, 324, 325, 326, 327, 328, 329, 330, 331, 332, 333, 334, 335, 336, 337, 338, 339, 340, 341, 342, 343, 344, 345, 346, 347, 348, 349, 350, 351, 352, 353, 354, 355, 356, 357, 358, 359, 360, 361, 362, 363, 364, 365, 366, 367, 368, 369, 370, 371, 372, 373, 374, 375, 376, 377, 378, 379, 380, 381, 382, 383, 384, 385, 386, 387, 388, 389, 390, 391, 392, 393, 394, 395, 396, 397, 398, 399, 400, 401, 402, 403, 404, 405, 406, 407, 408, 409, 410, 411, 412, 413, 414, 415, 416, 417, 418, 419, 420, 421, 422, 423, 424, 425, 426, 427, 428, 429, 430, 431, 432, 433, 434, 435, 436, 437, 438, 439, 440, 441, 442, 453, 454, 455, 456, 457, 458, 459, 460, 461, 462, 463, 464, 465, 466, 467, 468, 469, 449, 450, 451, 452, 470, 471, 472, 473, 474, 475, 476, 477, 478, 479, 480, 481, 482, 483, 484, 485, 486, 487, 488, 489, 490, 491, 492, 493, 494] (by decide +kernel) (by decide +kernel)) (goodIn_sub (fun _ h => List.mem_cons_of_mem _ (List.mem_append_left _ (List.mem_append_left _ (List.mem_append_left _ (List.mem_append_left _ (List.mem_append_right _ h)))))) (by decide +kernel))) (goodIn_sub (fun _ h => List.mem_cons_of_mem _ (List.mem_append_left _ (List.mem_append_right _ h))) (by decide +kernel))) (goodIn_sub (fun _ h => List.mem_cons_of_mem _ (List.mem_append_left _ (List.mem_append_left _ (List.mem_append_right _ h)))) (by decide +kernel))
set_option maxRecDepth 20000 in
theorem gNL_faults_L_runs : GoodIn wsNL_faults (va_wsS RL 138 yL_runs wsL_runs) := goodIn_app (goodIn_of _ (by decide +kernel)) ggNL_faults_L_runs
set_option maxRecDepth 20000 in
theorem ggNL_faults_X6_errorPosition : GoodIn wsNL_faults wsNX6_errorPosition := goodIn_ca (goodIn_r _ [446, 447, 448, 83, 453, 454, 455, 456, 457, 458, 459, 460, 461, 462, 463] (by decide +kernel) (by decide +kernel)) (goodIn_sub (fun _ h => List.mem_cons_of_mem _ (List.mem_append_right _ h)) (by decide +kernel))
set_option maxRecDepth 20000 in
theorem gNL_faults_X6_errorPosition : GoodIn wsNL_faults (wsV RL 253 RX6 yX6_errorPosition wsNX6_errorPosition) := goodIn_app (goodIn_of _ (by decide +kernel)) ggNL_faults_X6_errorPosition
theorem dL_faults_0 : decode cL_faults 0 = .ok (.aload_n 0, 1) := by decide +kernel
theorem dL_faults_1 : decode cL_faults 1 = .ok (.aload_n 1, 1) := by decide +kernel
theorem dL_faults_2 : decode cL_faults 2 = .ok (.invokestatic 128, 3) := by decide +kernel
theorem dL_faults_5 : decode cL_faults 5 = .ok (.aload_n 0, 1) := by decide +kernel
theorem dL_faults_6 : decode cL_faults 6 = .ok (.invokestatic 138, 3) := by decide +kernel
theorem dL_faults_9 : decode cL_faults 9 = .ok (.iconst (-1), 1) := by decide +kernel
theorem dL_faults_10 : decode cL_faults 10 = .ok (.if_icmp .ne 15, 3) := by decide +kernel
theorem dL_faults_13 : decode cL_faults 13 = .ok (.aload_n 0, 1) := by decide +kernel
theorem dL_faults_14 : decode cL_faults 14 = .ok (.invokevirtual 253, 3) := by decide +kernel
theorem dL_faults_17 : decode cL_faults 17 = .ok (.iload_n 2, 1) := by decide +kernel
theorem dL_faults_18 : decode cL_faults 18 = .ok (.if_icmp .ne 7, 3) := by decide +kernel
theorem dL_faults_21 : decode cL_faults 21 = .ok (.iconst 1, 1) := by decide +kernel
theorem dL_faults_22 : decode cL_faults 22 = .ok (.goto 4, 3) := by decide +kernel
theorem dL_faults_25 : decode cL_faults 25 = .ok (.iconst 0, 1) := by decide +kernel
theorem dL_faults_26 : decode cL_faults 26 = .ok (.ireturn, 1) := by decide +kernel
