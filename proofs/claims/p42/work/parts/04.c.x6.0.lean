set_option maxRecDepth 20000 in
theorem ggX6_init_X1_init : GoodIn wsX6_init wsX1_init := goodIn_ca (goodIn_r _ [32, 33, 2, 3, 34, 35, 36, 37, 38, 39, 40, 41, 42, 43, 44, 45, 46, 47, 48, 49, 6, 50, 51, 52, 53, 54, 55, 56, 57, 58, 59, 60, 61, 62, 63, 64, 65, 66, 67, 68, 69, 70, 71, 72, 73, 74, 75, 76, 77, 78, 79, 80, 81, 82, 83, 84, 85, 86, 87, 88, 89, 90, 91, 92, 93, 94, 95, 96, 97, 98, 99, 100, 101, 126, 127, 128, 129, 130, 131, 132, 133, 134, 135, 136, 137, 162, 163, 164, 165, 166, 167, 168, 169, 170, 171, 172, 173, 174, 175] (by decide +kernel) (by decide +kernel)) (goodIn_sub (fun _ h => List.mem_cons_of_mem _ (List.mem_append_right _ h)) (by decide +kernel))
set_option maxRecDepth 20000 in
theorem gX6_init_X1_init : GoodIn wsX6_init (wsX1_init) := ggX6_init_X1_init
set_option maxRecDepth 20000 in
theorem ggX6_init_X3_init : GoodIn wsX6_init wsX3_init := goodIn_ca (goodIn_r _ [104, 105, 2, 3, 106, 107, 5, 6, 108, 109, 110, 31, 32, 33, 34, 35, 36, 37, 38, 39, 40, 41, 42, 43, 44, 45, 46, 47, 48, 49, 50, 51, 52, 53, 54, 55, 56, 57, 58, 59, 60, 61, 62, 63, 64, 65, 66, 67, 68, 69, 70, 71, 72, 73, 74, 75, 76, 77, 78, 79, 80, 81, 82, 83, 84, 85, 86, 87, 88, 89, 90, 91, 92, 93, 94, 95, 96, 97, 98, 99, 100, 101, 149, 150, 151, 126, 127, 128, 129, 130, 131, 132, 133, 134, 135, 136, 137, 162, 163, 164, 165, 166, 167, 168, 169, 170, 171, 172, 173, 174, 175] (by decide +kernel) (by decide +kernel)) (goodIn_sub (fun _ h => List.mem_cons_of_mem _ (List.mem_append_right _ h)) (by decide +kernel))
set_option maxRecDepth 20000 in
theorem gX6_init_X3_init : GoodIn wsX6_init (wsX3_init) := ggX6_init_X3_init
set_option maxRecDepth 20000 in
theorem ggX6_init_X5_init : GoodIn wsX6_init wsX5_init := goodIn_r _ [112, 113, 2, 3, 36, 114, 115, 152, 153] (by decide +kernel) (by decide +kernel)
set_option maxRecDepth 20000 in
theorem gX6_init_X5_init_n28 : GoodIn wsX6_init (wsX5_init) := ggX6_init_X5_init
set_option maxRecDepth 20000 in
theorem ggX6_init_X4_init : GoodIn wsX6_init wsX4_init := goodIn_r _ [117, 118, 2, 3, 119, 120, 154, 155] (by decide +kernel) (by decide +kernel)
set_option maxRecDepth 20000 in
theorem gX6_init_X4_init_n35 : GoodIn wsX6_init (wsX4_init) := ggX6_init_X4_init
set_option maxRecDepth 20000 in
theorem ggX6_init_X2_init : GoodIn wsX6_init wsX2_init := goodIn_r _ [122, 123, 2, 3, 36, 124, 119, 125, 156, 157, 158, 159, 160, 161] (by decide +kernel) (by decide +kernel)
set_option maxRecDepth 20000 in
theorem gX6_init_X2_init_n42 : GoodIn wsX6_init (wsX2_init) := ggX6_init_X2_init
theorem dX6_init_0 : decode cX6_init 0 = .ok (.aload_n 0, 1) := by decide +kernel
theorem dX6_init_1 : decode cX6_init 1 = .ok (.invokespecial 1, 3) := by decide +kernel
theorem dX6_init_4 : decode cX6_init 4 = .ok (.aload_n 0, 1) := by decide +kernel
theorem dX6_init_5 : decode cX6_init 5 = .ok (.new 7, 3) := by decide +kernel
theorem dX6_init_8 : decode cX6_init 8 = .ok (.dup, 1) := by decide +kernel
theorem dX6_init_9 : decode cX6_init 9 = .ok (.invokespecial 9, 3) := by decide +kernel
theorem dX6_init_12 : decode cX6_init 12 = .ok (.putfield 10, 3) := by decide +kernel
theorem dX6_init_15 : decode cX6_init 15 = .ok (.aload_n 0, 1) := by decide +kernel
theorem dX6_init_16 : decode cX6_init 16 = .ok (.new 7, 3) := by decide +kernel
theorem dX6_init_19 : decode cX6_init 19 = .ok (.dup, 1) := by decide +kernel
theorem dX6_init_20 : decode cX6_init 20 = .ok (.invokespecial 9, 3) := by decide +kernel
theorem dX6_init_23 : decode cX6_init 23 = .ok (.putfield 16, 3) := by decide +kernel
theorem dX6_init_26 : decode cX6_init 26 = .ok (.aload_n 0, 1) := by decide +kernel
theorem dX6_init_27 : decode cX6_init 27 = .ok (.new 19, 3) := by decide +kernel
theorem dX6_init_30 : decode cX6_init 30 = .ok (.dup, 1) := by decide +kernel
theorem dX6_init_31 : decode cX6_init 31 = .ok (.invokespecial 21, 3) := by decide +kernel
theorem dX6_init_34 : decode cX6_init 34 = .ok (.putfield 22, 3) := by decide +kernel
theorem dX6_init_37 : decode cX6_init 37 = .ok (.aload_n 0, 1) := by decide +kernel
theorem dX6_init_38 : decode cX6_init 38 = .ok (.new 26, 3) := by decide +kernel
theorem dX6_init_41 : decode cX6_init 41 = .ok (.dup, 1) := by decide +kernel
theorem dX6_init_42 : decode cX6_init 42 = .ok (.invokespecial 28, 3) := by decide +kernel
theorem dX6_init_45 : decode cX6_init 45 = .ok (.putfield 29, 3) := by decide +kernel
theorem dX6_init_48 : decode cX6_init 48 = .ok (.aload_n 0, 1) := by decide +kernel
theorem dX6_init_49 : decode cX6_init 49 = .ok (.new 33, 3) := by decide +kernel
theorem dX6_init_52 : decode cX6_init 52 = .ok (.dup, 1) := by decide +kernel
theorem dX6_init_53 : decode cX6_init 53 = .ok (.invokespecial 35, 3) := by decide +kernel
theorem dX6_init_56 : decode cX6_init 56 = .ok (.putfield 36, 3) := by decide +kernel
theorem dX6_init_59 : decode cX6_init 59 = .ok (.aload_n 0, 1) := by decide +kernel
theorem dX6_init_60 : decode cX6_init 60 = .ok (.new 40, 3) := by decide +kernel
theorem dX6_init_63 : decode cX6_init 63 = .ok (.dup, 1) := by decide +kernel
theorem dX6_init_64 : decode cX6_init 64 = .ok (.invokespecial 42, 3) := by decide +kernel
theorem dX6_init_67 : decode cX6_init 67 = .ok (.putfield 43, 3) := by decide +kernel
theorem dX6_init_70 : decode cX6_init 70 = .ok (.aload_n 0, 1) := by decide +kernel
theorem dX6_init_71 : decode cX6_init 71 = .ok (.iconst 0, 1) := by decide +kernel
theorem dX6_init_72 : decode cX6_init 72 = .ok (.putfield 47, 3) := by decide +kernel
theorem dX6_init_75 : decode cX6_init 75 = .ok (.aload_n 0, 1) := by decide +kernel
theorem dX6_init_76 : decode cX6_init 76 = .ok (.iconst 0, 1) := by decide +kernel
theorem dX6_init_77 : decode cX6_init 77 = .ok (.putfield 51, 3) := by decide +kernel
theorem dX6_init_80 : decode cX6_init 80 = .ok (.aload_n 0, 1) := by decide +kernel
theorem dX6_init_81 : decode cX6_init 81 = .ok (.iconst 0, 1) := by decide +kernel
theorem dX6_init_82 : decode cX6_init 82 = .ok (.putfield 55, 3) := by decide +kernel
theorem dX6_init_85 : decode cX6_init 85 = .ok (.aload_n 0, 1) := by decide +kernel
theorem dX6_init_86 : decode cX6_init 86 = .ok (.iconst (-1), 1) := by decide +kernel
theorem dX6_init_87 : decode cX6_init 87 = .ok (.putfield 58, 3) := by decide +kernel
theorem dX6_init_90 : decode cX6_init 90 = .ok (.aload_n 0, 1) := by decide +kernel
theorem dX6_init_91 : decode cX6_init 91 = .ok (.iconst (-1), 1) := by decide +kernel
theorem dX6_init_92 : decode cX6_init 92 = .ok (.putfield 61, 3) := by decide +kernel
theorem dX6_init_95 : decode cX6_init 95 = .ok (.return_, 1) := by decide +kernel
set_option maxRecDepth 20000 in
theorem ggX6_clear_X1_makeNew : GoodIn wsX6_clear wsX1_makeNew := goodIn_ca (goodIn_r _ [8, 9, 10, 11, 12, 13, 14, 15, 16, 17, 18, 7, 19, 20, 21, 22, 23, 24, 25, 26, 27, 28, 29, 30, 31, 32, 33, 34, 35, 36, 37, 38, 39, 40, 41, 42, 43, 44, 45, 46, 47, 48, 49, 50, 51, 52, 53, 54, 55, 56, 57, 58, 59, 60, 78, 79, 80, 81, 82, 83, 84, 85, 86, 87, 88, 89, 90, 91, 92, 93] (by decide +kernel) (by decide +kernel)) (goodIn_sub (fun _ h => List.mem_cons_of_mem _ (List.mem_append_right _ h)) (by decide +kernel))
set_option maxRecDepth 20000 in
theorem gX6_clear_X1_makeNew : GoodIn wsX6_clear (wsV RX6 67 RX1 yX1_makeNew wsX1_makeNew) := goodIn_app (goodIn_of _ (by decide +kernel)) ggX6_clear_X1_makeNew
set_option maxRecDepth 20000 in
theorem ggX6_clear_X3_forgetAll : GoodIn wsX6_clear wsX3_forgetAll := goodIn_r _ [65, 66, 94, 95, 96] (by decide +kernel) (by decide +kernel)
set_option maxRecDepth 20000 in
theorem gX6_clear_X3_forgetAll : GoodIn wsX6_clear (wsV RX6 70 RX3 yX3_forgetAll wsX3_forgetAll) := goodIn_app (goodIn_of _ (by decide +kernel)) ggX6_clear_X3_forgetAll
theorem dX6_clear_0 : decode cX6_clear 0 = .ok (.aload_n 0, 1) := by decide +kernel
theorem dX6_clear_1 : decode cX6_clear 1 = .ok (.getfield 10, 3) := by decide +kernel
theorem dX6_clear_4 : decode cX6_clear 4 = .ok (.getfield 64, 3) := by decide +kernel
theorem dX6_clear_7 : decode cX6_clear 7 = .ok (.istore_n 1, 1) := by decide +kernel
theorem dX6_clear_8 : decode cX6_clear 8 = .ok (.aload_n 0, 1) := by decide +kernel
theorem dX6_clear_9 : decode cX6_clear 9 = .ok (.getfield 10, 3) := by decide +kernel
theorem dX6_clear_12 : decode cX6_clear 12 = .ok (.invokevirtual 67, 3) := by decide +kernel
theorem dX6_clear_15 : decode cX6_clear 15 = .ok (.aload_n 0, 1) := by decide +kernel
theorem dX6_clear_16 : decode cX6_clear 16 = .ok (.getfield 22, 3) := by decide +kernel
theorem dX6_clear_19 : decode cX6_clear 19 = .ok (.invokevirtual 70, 3) := by decide +kernel
theorem dX6_clear_22 : decode cX6_clear 22 = .ok (.iload_n 1, 1) := by decide +kernel
theorem dX6_clear_23 : decode cX6_clear 23 = .ok (.ireturn, 1) := by decide +kernel
set_option maxRecDepth 20000 in
theorem ggX6_door_X6_faultOfDoor : GoodIn wsX6_door wsX6_faultOfDoor := goodIn_r _ [7, 2, 8, 9, 10, 6, 11, 12, 13, 14, 15, 16, 17, 98, 99, 100, 101, 102, 103, 104, 105, 106, 107, 108, 109, 110, 111, 112, 113, 114, 115, 116, 117, 118, 119, 120] (by decide +kernel) (by decide +kernel)
set_option maxRecDepth 20000 in
theorem gX6_door_X6_faultOfDoor : GoodIn wsX6_door (wsV RX6 73 RX6 yX6_faultOfDoor wsX6_faultOfDoor) := goodIn_app (goodIn_of _ (by decide +kernel)) ggX6_door_X6_faultOfDoor
set_option maxRecDepth 20000 in
theorem ggX6_door_X6_throwFault : GoodIn wsX6_door wsX6_throwFault := goodIn_ca (goodIn_ca (goodIn_ca (goodIn_r _ [20, 21, 22, 23, 24, 25, 26] (by decide +kernel) (by decide +kernel)) (goodIn_sub (fun _ h => List.mem_cons_of_mem _ (List.mem_append_left _ (List.mem_append_left _ (List.mem_append_right _ h)))) (by decide +kernel))) (goodIn_sub (fun _ h => List.mem_cons_of_mem _ (List.mem_append_left _ (List.mem_append_right _ h))) (by decide +kernel))) (goodIn_sub (fun _ h => List.mem_cons_of_mem _ (List.mem_append_right _ h)) (by decide +kernel))
set_option maxRecDepth 20000 in
theorem gX6_door_X6_throwFault : GoodIn wsX6_door (va_wsS RX6 77 yX6_throwFault wsX6_throwFault) := goodIn_app (goodIn_of _ (by decide +kernel)) ggX6_door_X6_throwFault
set_option maxRecDepth 20000 in
theorem ggX6_door_X3_add : GoodIn wsX6_door wsX3_add := goodIn_r _ [31, 32, 33, 34, 30, 35, 36, 37, 38, 39, 40, 41, 42, 43, 44, 45, 46, 47, 48, 49, 50, 51, 52, 53, 54, 55, 56, 57, 58, 59, 60, 61, 62, 63, 64, 65, 66, 67, 68, 69, 70, 71, 72, 73, 74, 75, 76, 77, 78, 79, 80, 81, 82, 83, 84, 85, 86, 121, 122, 123, 109, 110, 111, 112, 113, 114, 115, 116, 117, 118, 119, 120, 124, 125, 126, 127, 128, 129, 130, 131, 132, 133] (by decide +kernel) (by decide +kernel)
set_option maxRecDepth 20000 in
theorem gX6_door_X3_add : GoodIn wsX6_door (wsV RX6 81 RX3 yX3_add wsX3_add) := goodIn_app (goodIn_of _ (by decide +kernel)) ggX6_door_X3_add
set_option maxRecDepth 20000 in
theorem ggX6_door_X6_numberOf : GoodIn wsX6_door wsX6_numberOf := goodIn_r _ [89] (by decide +kernel) (by decide +kernel)
set_option maxRecDepth 20000 in
theorem gX6_door_X6_numberOf : GoodIn wsX6_door (va_wsS RX6 85 yX6_numberOf wsX6_numberOf) := goodIn_app (goodIn_of _ (by decide +kernel)) ggX6_door_X6_numberOf
set_option maxRecDepth 20000 in
theorem ggX6_door_X1_addDoor : GoodIn wsX6_door wsX1_addDoor := goodIn_r _ [93, 52, 61, 94, 95, 96, 71, 97, 73, 74, 75, 76, 77, 78, 79, 80, 81, 82, 109, 110, 111, 112, 113, 114, 115, 116, 117, 118, 119, 120, 124, 125, 126, 127, 128, 129, 130, 131, 132, 133] (by decide +kernel) (by decide +kernel)
set_option maxRecDepth 20000 in
theorem gX6_door_X1_addDoor : GoodIn wsX6_door (wsV RX6 89 RX1 yX1_addDoor wsX1_addDoor) := goodIn_app (goodIn_of _ (by decide +kernel)) ggX6_door_X1_addDoor
theorem dX6_door_0 : decode cX6_door 0 = .ok (.aload_n 0, 1) := by decide +kernel
theorem dX6_door_1 : decode cX6_door 1 = .ok (.iload_n 1, 1) := by decide +kernel
theorem dX6_door_2 : decode cX6_door 2 = .ok (.iload_n 2, 1) := by decide +kernel
theorem dX6_door_3 : decode cX6_door 3 = .ok (.iload 4, 2) := by decide +kernel
theorem dX6_door_5 : decode cX6_door 5 = .ok (.iload 5, 2) := by decide +kernel
theorem dX6_door_7 : decode cX6_door 7 = .ok (.invokevirtual 73, 3) := by decide +kernel
theorem dX6_door_10 : decode cX6_door 10 = .ok (.invokestatic 77, 3) := by decide +kernel
theorem dX6_door_13 : decode cX6_door 13 = .ok (.aload_n 0, 1) := by decide +kernel
theorem dX6_door_14 : decode cX6_door 14 = .ok (.getfield 22, 3) := by decide +kernel
theorem dX6_door_17 : decode cX6_door 17 = .ok (.aload_n 0, 1) := by decide +kernel
theorem dX6_door_18 : decode cX6_door 18 = .ok (.getfield 10, 3) := by decide +kernel
theorem dX6_door_21 : decode cX6_door 21 = .ok (.invokevirtual 81, 3) := by decide +kernel
theorem dX6_door_24 : decode cX6_door 24 = .ok (.aload_n 0, 1) := by decide +kernel
theorem dX6_door_25 : decode cX6_door 25 = .ok (.getfield 10, 3) := by decide +kernel
theorem dX6_door_28 : decode cX6_door 28 = .ok (.iload_n 1, 1) := by decide +kernel
theorem dX6_door_29 : decode cX6_door 29 = .ok (.iload_n 2, 1) := by decide +kernel
theorem dX6_door_30 : decode cX6_door 30 = .ok (.iload_n 3, 1) := by decide +kernel
theorem dX6_door_31 : decode cX6_door 31 = .ok (.invokestatic 85, 3) := by decide +kernel
theorem dX6_door_34 : decode cX6_door 34 = .ok (.iload 4, 2) := by decide +kernel
theorem dX6_door_36 : decode cX6_door 36 = .ok (.iload 5, 2) := by decide +kernel
theorem dX6_door_38 : decode cX6_door 38 = .ok (.invokevirtual 89, 3) := by decide +kernel
theorem dX6_door_41 : decode cX6_door 41 = .ok (.ireturn, 1) := by decide +kernel
set_option maxRecDepth 20000 in
theorem ggX6_threshold_X6_faultOfThreshold : GoodIn wsX6_threshold wsX6_faultOfThreshold := goodIn_r _ [7, 2, 8, 9, 10, 6, 11, 12, 13, 14, 15, 16, 17, 91, 92, 93, 94, 95, 96, 97, 98, 99, 100, 101, 102, 103, 104, 105, 106, 107, 108, 109, 110, 111, 112, 113] (by decide +kernel) (by decide +kernel)
set_option maxRecDepth 20000 in
theorem gX6_threshold_X6_faultOfThreshold : GoodIn wsX6_threshold (wsV RX6 93 RX6 yX6_faultOfThreshold wsX6_faultOfThreshold) := goodIn_app (goodIn_of _ (by decide +kernel)) ggX6_threshold_X6_faultOfThreshold
set_option maxRecDepth 20000 in
theorem ggX6_threshold_X6_throwFault : GoodIn wsX6_threshold wsX6_throwFault := goodIn_ca (goodIn_ca (goodIn_ca (goodIn_r _ [20, 21, 22, 23, 24, 25, 26] (by decide +kernel) (by decide +kernel)) (goodIn_sub (fun _ h => List.mem_cons_of_mem _ (List.mem_append_left _ (List.mem_append_left _ (List.mem_append_left _ (List.mem_append_right _ h))))) (by decide +kernel))) (goodIn_sub (fun _ h => List.mem_cons_of_mem _ (List.mem_append_left _ (List.mem_append_left _ (List.mem_append_right _ h)))) (by decide +kernel))) (goodIn_sub (fun _ h => List.mem_cons_of_mem _ (List.mem_append_left _ (List.mem_append_right _ h))) (by decide +kernel))
set_option maxRecDepth 20000 in
theorem gX6_threshold_X6_throwFault : GoodIn wsX6_threshold (va_wsS RX6 77 yX6_throwFault wsX6_throwFault) := goodIn_app (goodIn_of _ (by decide +kernel)) ggX6_threshold_X6_throwFault
set_option maxRecDepth 20000 in
theorem ggX6_threshold_X3_add : GoodIn wsX6_threshold wsX3_add := goodIn_r _ [31, 32, 33, 34, 30, 35, 36, 37, 38, 39, 40, 41, 42, 43, 44, 45, 46, 47, 48, 49, 50, 51, 52, 53, 54, 55, 56, 57, 58, 59, 60, 61, 62, 63, 64, 65, 66, 67, 68, 69, 70, 71, 72, 73, 74, 75, 76, 77, 78, 79, 80, 81, 82, 83, 84, 85, 86, 114, 115, 116, 102, 103, 104, 105, 106, 107, 108, 109, 110, 111, 112, 113, 117, 118, 119, 120, 121, 122, 123, 124, 125, 126] (by decide +kernel) (by decide +kernel)
set_option maxRecDepth 20000 in
theorem gX6_threshold_X3_add : GoodIn wsX6_threshold (wsV RX6 81 RX3 yX3_add wsX3_add) := goodIn_app (goodIn_of _ (by decide +kernel)) ggX6_threshold_X3_add
set_option maxRecDepth 20000 in
theorem ggX6_threshold_X1_addThreshold : GoodIn wsX6_threshold wsX1_addThreshold := goodIn_ca (goodIn_r _ [90, 53, 62, 102, 103, 104, 105, 106, 107, 108, 109, 110, 111, 112, 113] (by decide +kernel) (by decide +kernel)) (goodIn_sub (fun _ h => List.mem_cons_of_mem _ (List.mem_append_right _ h)) (by decide +kernel))
set_option maxRecDepth 20000 in
theorem gX6_threshold_X1_addThreshold : GoodIn wsX6_threshold (wsV RX6 97 RX1 yX1_addThreshold wsX1_addThreshold) := goodIn_app (goodIn_of _ (by decide +kernel)) ggX6_threshold_X1_addThreshold
theorem dX6_threshold_0 : decode cX6_threshold 0 = .ok (.aload_n 0, 1) := by decide +kernel
theorem dX6_threshold_1 : decode cX6_threshold 1 = .ok (.iload_n 1, 1) := by decide +kernel
theorem dX6_threshold_2 : decode cX6_threshold 2 = .ok (.invokevirtual 93, 3) := by decide +kernel
theorem dX6_threshold_5 : decode cX6_threshold 5 = .ok (.invokestatic 77, 3) := by decide +kernel
theorem dX6_threshold_8 : decode cX6_threshold 8 = .ok (.aload_n 0, 1) := by decide +kernel
theorem dX6_threshold_9 : decode cX6_threshold 9 = .ok (.getfield 22, 3) := by decide +kernel
theorem dX6_threshold_12 : decode cX6_threshold 12 = .ok (.aload_n 0, 1) := by decide +kernel
theorem dX6_threshold_13 : decode cX6_threshold 13 = .ok (.getfield 10, 3) := by decide +kernel
theorem dX6_threshold_16 : decode cX6_threshold 16 = .ok (.invokevirtual 81, 3) := by decide +kernel
theorem dX6_threshold_19 : decode cX6_threshold 19 = .ok (.aload_n 0, 1) := by decide +kernel
theorem dX6_threshold_20 : decode cX6_threshold 20 = .ok (.getfield 10, 3) := by decide +kernel
theorem dX6_threshold_23 : decode cX6_threshold 23 = .ok (.iload_n 1, 1) := by decide +kernel
theorem dX6_threshold_24 : decode cX6_threshold 24 = .ok (.invokevirtual 97, 3) := by decide +kernel
theorem dX6_threshold_27 : decode cX6_threshold 27 = .ok (.ireturn, 1) := by decide +kernel
set_option maxRecDepth 20000 in
theorem ggX6_govern_X6_faultOfGovern : GoodIn wsX6_govern wsX6_faultOfGovern := goodIn_ca (goodIn_r _ [7, 2, 8, 9, 10, 11, 6, 12, 13, 14, 15, 16, 17, 18, 92, 93, 94, 95, 96, 97, 98, 99, 100, 101, 102, 103, 104, 105, 106, 107, 108, 109, 110, 111, 112, 113, 114] (by decide +kernel) (by decide +kernel)) (goodIn_sub (fun _ h => List.mem_cons_of_mem _ (List.mem_append_left _ (List.mem_append_left _ (List.mem_append_left _ (List.mem_append_right _ h))))) (by decide +kernel))
set_option maxRecDepth 20000 in
theorem gX6_govern_X6_faultOfGovern : GoodIn wsX6_govern (wsV RX6 100 RX6 yX6_faultOfGovern wsX6_faultOfGovern) := goodIn_app (goodIn_of _ (by decide +kernel)) ggX6_govern_X6_faultOfGovern
set_option maxRecDepth 20000 in
theorem ggX6_govern_X6_throwFault : GoodIn wsX6_govern wsX6_throwFault := goodIn_ca (goodIn_ca (goodIn_ca (goodIn_r _ [21, 22, 23, 24, 25, 26, 27] (by decide +kernel) (by decide +kernel)) (goodIn_sub (fun _ h => List.mem_cons_of_mem _ (List.mem_append_left _ (List.mem_append_left _ (List.mem_append_right _ h)))) (by decide +kernel))) (goodIn_sub (fun _ h => List.mem_cons_of_mem _ (List.mem_append_left _ (List.mem_append_right _ h))) (by decide +kernel))) (goodIn_sub (fun _ h => List.mem_cons_of_mem _ (List.mem_append_right _ h)) (by decide +kernel))
set_option maxRecDepth 20000 in
theorem gX6_govern_X6_throwFault : GoodIn wsX6_govern (va_wsS RX6 77 yX6_throwFault wsX6_throwFault) := goodIn_app (goodIn_of _ (by decide +kernel)) ggX6_govern_X6_throwFault
set_option maxRecDepth 20000 in
theorem ggX6_govern_X3_add : GoodIn wsX6_govern wsX3_add := goodIn_r _ [32, 33, 34, 35, 31, 36, 37, 38, 39, 40, 41, 42, 43, 44, 45, 46, 47, 48, 49, 50, 51, 52, 53, 54, 55, 56, 57, 58, 59, 60, 61, 62, 63, 64, 65, 66, 67, 68, 69, 70, 71, 72, 73, 74, 75, 76, 77, 78, 79, 80, 81, 82, 83, 84, 85, 86, 87, 115, 116, 117, 103, 104, 105, 106, 107, 108, 109, 110, 111, 112, 113, 114, 118, 119, 120, 121, 122, 123, 124, 125, 126, 127] (by decide +kernel) (by decide +kernel)
set_option maxRecDepth 20000 in
theorem gX6_govern_X3_add : GoodIn wsX6_govern (wsV RX6 81 RX3 yX3_add wsX3_add) := goodIn_app (goodIn_of _ (by decide +kernel)) ggX6_govern_X3_add
set_option maxRecDepth 20000 in
theorem ggX6_govern_X1_changeGoverned : GoodIn wsX6_govern wsX1_changeGoverned := goodIn_ca (goodIn_r _ [91, 54, 103, 104, 105, 106, 107, 108, 109, 110, 111, 112, 113, 114] (by decide +kernel) (by decide +kernel)) (goodIn_sub (fun _ h => List.mem_cons_of_mem _ (List.mem_append_left _ (List.mem_append_left _ (List.mem_append_left _ (List.mem_append_right _ h))))) (by decide +kernel))
set_option maxRecDepth 20000 in
theorem gX6_govern_X1_changeGoverned : GoodIn wsX6_govern (wsV RX6 104 RX1 yX1_changeGoverned wsX1_changeGoverned) := goodIn_app (goodIn_of _ (by decide +kernel)) ggX6_govern_X1_changeGoverned
theorem dX6_govern_0 : decode cX6_govern 0 = .ok (.aload_n 0, 1) := by decide +kernel
theorem dX6_govern_1 : decode cX6_govern 1 = .ok (.iload_n 1, 1) := by decide +kernel
theorem dX6_govern_2 : decode cX6_govern 2 = .ok (.iload_n 2, 1) := by decide +kernel
theorem dX6_govern_3 : decode cX6_govern 3 = .ok (.invokevirtual 100, 3) := by decide +kernel
theorem dX6_govern_6 : decode cX6_govern 6 = .ok (.invokestatic 77, 3) := by decide +kernel
theorem dX6_govern_9 : decode cX6_govern 9 = .ok (.aload_n 0, 1) := by decide +kernel
theorem dX6_govern_10 : decode cX6_govern 10 = .ok (.getfield 22, 3) := by decide +kernel
theorem dX6_govern_13 : decode cX6_govern 13 = .ok (.aload_n 0, 1) := by decide +kernel
theorem dX6_govern_14 : decode cX6_govern 14 = .ok (.getfield 10, 3) := by decide +kernel
theorem dX6_govern_17 : decode cX6_govern 17 = .ok (.invokevirtual 81, 3) := by decide +kernel
theorem dX6_govern_20 : decode cX6_govern 20 = .ok (.aload_n 0, 1) := by decide +kernel
theorem dX6_govern_21 : decode cX6_govern 21 = .ok (.getfield 10, 3) := by decide +kernel
theorem dX6_govern_24 : decode cX6_govern 24 = .ok (.iload_n 1, 1) := by decide +kernel
theorem dX6_govern_25 : decode cX6_govern 25 = .ok (.iload_n 2, 1) := by decide +kernel
theorem dX6_govern_26 : decode cX6_govern 26 = .ok (.invokevirtual 104, 3) := by decide +kernel
theorem dX6_govern_29 : decode cX6_govern 29 = .ok (.ireturn, 1) := by decide +kernel
set_option maxRecDepth 20000 in
theorem ggX6_set_X6_faultOfSet : GoodIn wsX6_set wsX6_faultOfSet := goodIn_r _ [7, 2, 8, 9, 10, 11, 12, 13, 14, 15, 16, 17, 6, 18, 19, 20, 21, 22, 23, 24, 25, 102, 103, 104, 105, 106, 107, 108, 109, 110, 111, 112, 113, 114, 115, 116, 117, 118, 119, 120, 121, 122, 123, 124, 125, 126, 127, 128, 129, 130, 131, 132, 133, 134] (by decide +kernel) (by decide +kernel)
set_option maxRecDepth 20000 in
theorem gX6_set_X6_faultOfSet : GoodIn wsX6_set (wsV RX6 107 RX6 yX6_faultOfSet wsX6_faultOfSet) := goodIn_app (goodIn_of _ (by decide +kernel)) ggX6_set_X6_faultOfSet
set_option maxRecDepth 20000 in
theorem ggX6_set_X6_throwFault : GoodIn wsX6_set wsX6_throwFault := goodIn_ca (goodIn_ca (goodIn_ca (goodIn_r _ [28, 29, 30, 31, 32, 33, 34] (by decide +kernel) (by decide +kernel)) (goodIn_sub (fun _ h => List.mem_cons_of_mem _ (List.mem_append_left _ (List.mem_append_left _ (List.mem_append_left _ (List.mem_append_right _ h))))) (by decide +kernel))) (goodIn_sub (fun _ h => List.mem_cons_of_mem _ (List.mem_append_left _ (List.mem_append_left _ (List.mem_append_right _ h)))) (by decide +kernel))) (goodIn_sub (fun _ h => List.mem_cons_of_mem _ (List.mem_append_left _ (List.mem_append_right _ h))) (by decide +kernel))
set_option maxRecDepth 20000 in
theorem gX6_set_X6_throwFault : GoodIn wsX6_set (va_wsS RX6 77 yX6_throwFault wsX6_throwFault) := goodIn_app (goodIn_of _ (by decide +kernel)) ggX6_set_X6_throwFault
set_option maxRecDepth 20000 in
theorem ggX6_set_X3_add : GoodIn wsX6_set wsX3_add := goodIn_r _ [39, 40, 41, 42, 38, 43, 44, 45, 46, 47, 48, 49, 50, 51, 52, 53, 54, 55, 56, 57, 14, 58, 59, 60, 61, 62, 63, 64, 65, 66, 67, 16, 68, 69, 70, 71, 72, 73, 74, 75, 76, 77, 78, 79, 80, 81, 82, 83, 84, 85, 86, 87, 88, 89, 90, 91, 92, 135, 136, 137, 113, 114, 115, 116, 117, 118, 119, 120, 121, 122, 123, 124, 125, 126, 127, 128, 129, 130, 131, 132, 133, 134] (by decide +kernel) (by decide +kernel)
set_option maxRecDepth 20000 in
theorem gX6_set_X3_add : GoodIn wsX6_set (wsV RX6 81 RX3 yX3_add wsX3_add) := goodIn_app (goodIn_of _ (by decide +kernel)) ggX6_set_X3_add
set_option maxRecDepth 20000 in
theorem ggX6_set_X1_putOn : GoodIn wsX6_set wsX1_putOn := goodIn_ca (goodIn_r _ [96, 59, 97, 98, 99, 100, 14, 101, 68, 60, 17, 6, 18, 113, 114, 115, 116, 117, 118, 119, 120, 121, 122, 123, 124, 125, 126, 127, 128, 129, 130, 131, 132, 133, 134] (by decide +kernel) (by decide +kernel)) (goodIn_sub (fun _ h => List.mem_cons_of_mem _ (List.mem_append_right _ h)) (by decide +kernel))
set_option maxRecDepth 20000 in
theorem gX6_set_X1_putOn : GoodIn wsX6_set (wsV RX6 110 RX1 yX1_putOn wsX1_putOn) := goodIn_app (goodIn_of _ (by decide +kernel)) ggX6_set_X1_putOn
theorem dX6_set_0 : decode cX6_set 0 = .ok (.aload_n 0, 1) := by decide +kernel
theorem dX6_set_1 : decode cX6_set 1 = .ok (.iload_n 1, 1) := by decide +kernel
theorem dX6_set_2 : decode cX6_set 2 = .ok (.iload_n 2, 1) := by decide +kernel
theorem dX6_set_3 : decode cX6_set 3 = .ok (.invokevirtual 107, 3) := by decide +kernel
theorem dX6_set_6 : decode cX6_set 6 = .ok (.invokestatic 77, 3) := by decide +kernel
theorem dX6_set_9 : decode cX6_set 9 = .ok (.aload_n 0, 1) := by decide +kernel
theorem dX6_set_10 : decode cX6_set 10 = .ok (.getfield 22, 3) := by decide +kernel
theorem dX6_set_13 : decode cX6_set 13 = .ok (.aload_n 0, 1) := by decide +kernel
theorem dX6_set_14 : decode cX6_set 14 = .ok (.getfield 10, 3) := by decide +kernel
theorem dX6_set_17 : decode cX6_set 17 = .ok (.invokevirtual 81, 3) := by decide +kernel
theorem dX6_set_20 : decode cX6_set 20 = .ok (.aload_n 0, 1) := by decide +kernel
theorem dX6_set_21 : decode cX6_set 21 = .ok (.getfield 10, 3) := by decide +kernel
theorem dX6_set_24 : decode cX6_set 24 = .ok (.iload_n 1, 1) := by decide +kernel
theorem dX6_set_25 : decode cX6_set 25 = .ok (.iload_n 2, 1) := by decide +kernel
theorem dX6_set_26 : decode cX6_set 26 = .ok (.invokevirtual 110, 3) := by decide +kernel
theorem dX6_set_29 : decode cX6_set 29 = .ok (.ireturn, 1) := by decide +kernel
set_option maxRecDepth 20000 in
theorem ggX6_tellEnding_X6_numberOf : GoodIn wsX6_tellEnding wsX6_numberOf := goodIn_r _ [6] (by decide +kernel) (by decide +kernel)
set_option maxRecDepth 20000 in
theorem gX6_tellEnding_X6_numberOf : GoodIn wsX6_tellEnding (va_wsS RX6 85 yX6_numberOf wsX6_numberOf) := goodIn_app (goodIn_of _ (by decide +kernel)) ggX6_tellEnding_X6_numberOf
set_option maxRecDepth 20000 in
theorem ggX6_tellEnding_X6_faultOfEnding : GoodIn wsX6_tellEnding wsX6_faultOfEnding := goodIn_ca (goodIn_r _ [10, 2, 11, 12, 5, 13, 14, 15, 16, 17, 18, 19, 20, 21, 22, 23, 24, 25, 26, 27, 28, 101, 102, 103, 104, 105, 106, 107, 108, 109, 110, 111, 112, 113, 114, 115, 116, 117, 118, 119, 120, 121, 122, 123] (by decide +kernel) (by decide +kernel)) (goodIn_sub (fun _ h => List.mem_cons_of_mem _ (List.mem_append_left _ (List.mem_append_left _ (List.mem_append_left _ (List.mem_append_right _ h))))) (by decide +kernel))
set_option maxRecDepth 20000 in
theorem gX6_tellEnding_X6_faultOfEnding : GoodIn wsX6_tellEnding (wsV RX6 113 RX6 yX6_faultOfEnding wsX6_faultOfEnding) := goodIn_app (goodIn_of _ (by decide +kernel)) ggX6_tellEnding_X6_faultOfEnding
set_option maxRecDepth 20000 in
theorem ggX6_tellEnding_X6_throwFault : GoodIn wsX6_tellEnding wsX6_throwFault := goodIn_ca (goodIn_ca (goodIn_ca (goodIn_r _ [31, 32, 33, 34, 35, 36, 37] (by decide +kernel) (by decide +kernel)) (goodIn_sub (fun _ h => List.mem_cons_of_mem _ (List.mem_append_left _ (List.mem_append_left _ (List.mem_append_right _ h)))) (by decide +kernel))) (goodIn_sub (fun _ h => List.mem_cons_of_mem _ (List.mem_append_left _ (List.mem_append_right _ h))) (by decide +kernel))) (goodIn_sub (fun _ h => List.mem_cons_of_mem _ (List.mem_append_right _ h)) (by decide +kernel))
set_option maxRecDepth 20000 in
theorem gX6_tellEnding_X6_throwFault : GoodIn wsX6_tellEnding (va_wsS RX6 77 yX6_throwFault wsX6_throwFault) := goodIn_app (goodIn_of _ (by decide +kernel)) ggX6_tellEnding_X6_throwFault
set_option maxRecDepth 20000 in
theorem ggX6_tellEnding_X3_add : GoodIn wsX6_tellEnding wsX3_add := goodIn_r _ [42, 43, 44, 45, 41, 46, 47, 48, 49, 50, 51, 52, 53, 54, 55, 56, 57, 58, 59, 60, 17, 61, 62, 63, 64, 65, 66, 67, 68, 69, 19, 70, 71, 72, 73, 74, 75, 76, 77, 78, 79, 80, 81, 82, 83, 84, 85, 86, 87, 88, 89, 90, 91, 92, 93, 94, 95, 124, 125, 126, 112, 113, 114, 115, 116, 117, 118, 119, 120, 121, 122, 123, 127, 128, 129, 130, 131, 132, 133, 134, 135, 136] (by decide +kernel) (by decide +kernel)
set_option maxRecDepth 20000 in
theorem gX6_tellEnding_X3_add : GoodIn wsX6_tellEnding (wsV RX6 81 RX3 yX3_add wsX3_add) := goodIn_app (goodIn_of _ (by decide +kernel)) ggX6_tellEnding_X3_add
set_option maxRecDepth 20000 in
theorem ggX6_tellEnding_X1_changeLetter : GoodIn wsX6_tellEnding wsX1_changeLetter := goodIn_ca (goodIn_r _ [99, 19, 100, 15, 16, 17, 18, 20, 21, 22, 112, 113, 114, 115, 116, 117, 118, 119, 120, 121, 122, 123] (by decide +kernel) (by decide +kernel)) (goodIn_sub (fun _ h => List.mem_cons_of_mem _ (List.mem_append_left _ (List.mem_append_left _ (List.mem_append_left _ (List.mem_append_right _ h))))) (by decide +kernel))
set_option maxRecDepth 20000 in
theorem gX6_tellEnding_X1_changeLetter : GoodIn wsX6_tellEnding (wsV RX6 116 RX1 yX1_changeLetter wsX1_changeLetter) := goodIn_app (goodIn_of _ (by decide +kernel)) ggX6_tellEnding_X1_changeLetter
theorem dX6_tellEnding_0 : decode cX6_tellEnding 0 = .ok (.aload_n 0, 1) := by decide +kernel
theorem dX6_tellEnding_1 : decode cX6_tellEnding 1 = .ok (.iload_n 1, 1) := by decide +kernel
theorem dX6_tellEnding_2 : decode cX6_tellEnding 2 = .ok (.iload_n 2, 1) := by decide +kernel
theorem dX6_tellEnding_3 : decode cX6_tellEnding 3 = .ok (.iload_n 3, 1) := by decide +kernel
theorem dX6_tellEnding_4 : decode cX6_tellEnding 4 = .ok (.invokestatic 85, 3) := by decide +kernel
theorem dX6_tellEnding_7 : decode cX6_tellEnding 7 = .ok (.iload 4, 2) := by decide +kernel
theorem dX6_tellEnding_9 : decode cX6_tellEnding 9 = .ok (.invokevirtual 113, 3) := by decide +kernel
theorem dX6_tellEnding_12 : decode cX6_tellEnding 12 = .ok (.invokestatic 77, 3) := by decide +kernel
theorem dX6_tellEnding_15 : decode cX6_tellEnding 15 = .ok (.aload_n 0, 1) := by decide +kernel
theorem dX6_tellEnding_16 : decode cX6_tellEnding 16 = .ok (.getfield 22, 3) := by decide +kernel
theorem dX6_tellEnding_19 : decode cX6_tellEnding 19 = .ok (.aload_n 0, 1) := by decide +kernel
theorem dX6_tellEnding_20 : decode cX6_tellEnding 20 = .ok (.getfield 10, 3) := by decide +kernel
theorem dX6_tellEnding_23 : decode cX6_tellEnding 23 = .ok (.invokevirtual 81, 3) := by decide +kernel
theorem dX6_tellEnding_26 : decode cX6_tellEnding 26 = .ok (.aload_n 0, 1) := by decide +kernel
theorem dX6_tellEnding_27 : decode cX6_tellEnding 27 = .ok (.getfield 10, 3) := by decide +kernel
theorem dX6_tellEnding_30 : decode cX6_tellEnding 30 = .ok (.iload_n 1, 1) := by decide +kernel
theorem dX6_tellEnding_31 : decode cX6_tellEnding 31 = .ok (.iload_n 2, 1) := by decide +kernel
theorem dX6_tellEnding_32 : decode cX6_tellEnding 32 = .ok (.iload_n 3, 1) := by decide +kernel
theorem dX6_tellEnding_33 : decode cX6_tellEnding 33 = .ok (.invokestatic 85, 3) := by decide +kernel
theorem dX6_tellEnding_36 : decode cX6_tellEnding 36 = .ok (.iload 4, 2) := by decide +kernel
theorem dX6_tellEnding_38 : decode cX6_tellEnding 38 = .ok (.invokevirtual 116, 3) := by decide +kernel
theorem dX6_tellEnding_41 : decode cX6_tellEnding 41 = .ok (.ireturn, 1) := by decide +kernel
set_option maxRecDepth 20000 in
theorem ggX6_key_X6_faultOfKey : GoodIn wsX6_key wsX6_faultOfKey := goodIn_ca (goodIn_r _ [7, 2, 8, 9, 10, 6, 11, 12, 13, 14, 15, 16, 17, 18, 19, 20, 21, 22, 23, 24, 25, 95, 96, 97, 98, 99, 100, 101, 102, 103, 104, 105, 106, 107, 108, 109, 110, 111, 112, 113, 114, 115, 116, 117] (by decide +kernel) (by decide +kernel)) (goodIn_sub (fun _ h => List.mem_cons_of_mem _ (List.mem_append_left _ (List.mem_append_left _ (List.mem_append_left _ (List.mem_append_right _ h))))) (by decide +kernel))
set_option maxRecDepth 20000 in
theorem gX6_key_X6_faultOfKey : GoodIn wsX6_key (wsV RX6 119 RX6 yX6_faultOfKey wsX6_faultOfKey) := goodIn_app (goodIn_of _ (by decide +kernel)) ggX6_key_X6_faultOfKey
set_option maxRecDepth 20000 in
theorem ggX6_key_X6_throwFault : GoodIn wsX6_key wsX6_throwFault := goodIn_ca (goodIn_ca (goodIn_ca (goodIn_r _ [28, 29, 30, 31, 32, 33, 34] (by decide +kernel) (by decide +kernel)) (goodIn_sub (fun _ h => List.mem_cons_of_mem _ (List.mem_append_left _ (List.mem_append_left _ (List.mem_append_right _ h)))) (by decide +kernel))) (goodIn_sub (fun _ h => List.mem_cons_of_mem _ (List.mem_append_left _ (List.mem_append_right _ h))) (by decide +kernel))) (goodIn_sub (fun _ h => List.mem_cons_of_mem _ (List.mem_append_right _ h)) (by decide +kernel))
set_option maxRecDepth 20000 in
theorem gX6_key_X6_throwFault : GoodIn wsX6_key (va_wsS RX6 77 yX6_throwFault wsX6_throwFault) := goodIn_app (goodIn_of _ (by decide +kernel)) ggX6_key_X6_throwFault
set_option maxRecDepth 20000 in
theorem ggX6_key_X3_add : GoodIn wsX6_key wsX3_add := goodIn_r _ [39, 40, 41, 42, 38, 43, 44, 45, 46, 47, 48, 49, 50, 51, 52, 53, 54, 55, 56, 57, 15, 58, 59, 60, 61, 62, 63, 64, 18, 19, 65, 66, 67, 17, 68, 69, 70, 71, 72, 73, 74, 75, 76, 77, 78, 79, 80, 81, 82, 83, 84, 85, 86, 87, 88, 89, 90, 118, 119, 120, 106, 107, 108, 109, 110, 111, 112, 113, 114, 115, 116, 117, 121, 122, 123, 124, 125, 126, 127, 128, 129, 130] (by decide +kernel) (by decide +kernel)
set_option maxRecDepth 20000 in
theorem gX6_key_X3_add : GoodIn wsX6_key (wsV RX6 81 RX3 yX3_add wsX3_add) := goodIn_app (goodIn_of _ (by decide +kernel)) ggX6_key_X3_add
set_option maxRecDepth 20000 in
theorem ggX6_key_X1_addKey : GoodIn wsX6_key wsX1_addKey := goodIn_ca (goodIn_r _ [94, 18, 17, 19, 106, 107, 108, 109, 110, 111, 112, 113, 114, 115, 116, 117] (by decide +kernel) (by decide +kernel)) (goodIn_sub (fun _ h => List.mem_cons_of_mem _ (List.mem_append_left _ (List.mem_append_left _ (List.mem_append_left _ (List.mem_append_right _ h))))) (by decide +kernel))
set_option maxRecDepth 20000 in
theorem gX6_key_X1_addKey : GoodIn wsX6_key (wsV RX6 122 RX1 yX1_addKey wsX1_addKey) := goodIn_app (goodIn_of _ (by decide +kernel)) ggX6_key_X1_addKey
theorem dX6_key_0 : decode cX6_key 0 = .ok (.aload_n 0, 1) := by decide +kernel
theorem dX6_key_1 : decode cX6_key 1 = .ok (.iload_n 1, 1) := by decide +kernel
theorem dX6_key_2 : decode cX6_key 2 = .ok (.iload_n 2, 1) := by decide +kernel
theorem dX6_key_3 : decode cX6_key 3 = .ok (.invokevirtual 119, 3) := by decide +kernel
theorem dX6_key_6 : decode cX6_key 6 = .ok (.invokestatic 77, 3) := by decide +kernel
theorem dX6_key_9 : decode cX6_key 9 = .ok (.aload_n 0, 1) := by decide +kernel
theorem dX6_key_10 : decode cX6_key 10 = .ok (.getfield 22, 3) := by decide +kernel
theorem dX6_key_13 : decode cX6_key 13 = .ok (.aload_n 0, 1) := by decide +kernel
theorem dX6_key_14 : decode cX6_key 14 = .ok (.getfield 10, 3) := by decide +kernel
theorem dX6_key_17 : decode cX6_key 17 = .ok (.invokevirtual 81, 3) := by decide +kernel
theorem dX6_key_20 : decode cX6_key 20 = .ok (.aload_n 0, 1) := by decide +kernel
theorem dX6_key_21 : decode cX6_key 21 = .ok (.getfield 10, 3) := by decide +kernel
theorem dX6_key_24 : decode cX6_key 24 = .ok (.iload_n 1, 1) := by decide +kernel
theorem dX6_key_25 : decode cX6_key 25 = .ok (.iload_n 2, 1) := by decide +kernel
theorem dX6_key_26 : decode cX6_key 26 = .ok (.invokevirtual 122, 3) := by decide +kernel
theorem dX6_key_29 : decode cX6_key 29 = .ok (.ireturn, 1) := by decide +kernel
set_option maxRecDepth 20000 in
theorem ggX6_doorOf_X6_requireDoor : GoodIn wsX6_doorOf wsX6_requireDoor := goodIn_ca (goodIn_r _ [19, 20, 21, 3, 22, 23, 24, 25, 26, 27, 28, 18, 29, 37, 38, 39, 40, 41, 42, 43, 44, 45, 46, 47, 48, 49, 50, 51, 52, 53, 54, 55, 56, 57, 58, 59] (by decide +kernel) (by decide +kernel)) (goodIn_sub (fun _ h => List.mem_cons_of_mem _ (List.mem_append_left _ (List.mem_append_right _ h))) (by decide +kernel))
set_option maxRecDepth 20000 in
theorem gX6_doorOf_X6_requireDoor : GoodIn wsX6_doorOf (wsV RX6 125 RX6 yX6_requireDoor wsX6_requireDoor) := goodIn_app (goodIn_of _ (by decide +kernel)) ggX6_doorOf_X6_requireDoor
set_option maxRecDepth 20000 in
theorem ggX6_doorOf_X1_caseOf : GoodIn wsX6_doorOf wsX1_caseOf := goodIn_ca (goodIn_r _ [33, 34, 35, 36, 28, 18, 29, 60, 61, 62, 63, 64, 65, 66, 67, 68, 69, 48, 49, 50, 51, 52, 53, 54, 55, 56, 57, 58, 59] (by decide +kernel) (by decide +kernel)) (goodIn_sub (fun _ h => List.mem_cons_of_mem _ (List.mem_append_right _ h)) (by decide +kernel))
set_option maxRecDepth 20000 in
theorem gX6_doorOf_X1_caseOf : GoodIn wsX6_doorOf (wsV RX6 146 RX1 yX1_caseOf wsX1_caseOf) := goodIn_app (goodIn_of _ (by decide +kernel)) ggX6_doorOf_X1_caseOf
theorem dX6_doorOf_0 : decode cX6_doorOf 0 = .ok (.aload_n 0, 1) := by decide +kernel
theorem dX6_doorOf_1 : decode cX6_doorOf 1 = .ok (.iload_n 1, 1) := by decide +kernel
theorem dX6_doorOf_2 : decode cX6_doorOf 2 = .ok (.invokevirtual 125, 3) := by decide +kernel
theorem dX6_doorOf_5 : decode cX6_doorOf 5 = .ok (.aload_n 0, 1) := by decide +kernel
theorem dX6_doorOf_6 : decode cX6_doorOf 6 = .ok (.getfield 10, 3) := by decide +kernel
theorem dX6_doorOf_9 : decode cX6_doorOf 9 = .ok (.getfield 128, 3) := by decide +kernel
theorem dX6_doorOf_12 : decode cX6_doorOf 12 = .ok (.iload_n 1, 1) := by decide +kernel
theorem dX6_doorOf_13 : decode cX6_doorOf 13 = .ok (.aaload, 1) := by decide +kernel
theorem dX6_doorOf_14 : decode cX6_doorOf 14 = .ok (.astore_n 3, 1) := by decide +kernel
theorem dX6_doorOf_15 : decode cX6_doorOf 15 = .ok (.iload_n 2, 1) := by decide +kernel
theorem dX6_doorOf_16 : decode cX6_doorOf 16 = .ok (.tableswitch 135 0 10 #[60, 65, 70, 75, 80, 89, 94, 107, 120, 125, 130], 60) := by decide +kernel
theorem dX6_doorOf_76 : decode cX6_doorOf 76 = .ok (.aload_n 3, 1) := by decide +kernel
theorem dX6_doorOf_77 : decode cX6_doorOf 77 = .ok (.getfield 132, 3) := by decide +kernel
theorem dX6_doorOf_80 : decode cX6_doorOf 80 = .ok (.ireturn, 1) := by decide +kernel
theorem dX6_doorOf_81 : decode cX6_doorOf 81 = .ok (.aload_n 3, 1) := by decide +kernel
theorem dX6_doorOf_82 : decode cX6_doorOf 82 = .ok (.getfield 137, 3) := by decide +kernel
theorem dX6_doorOf_85 : decode cX6_doorOf 85 = .ok (.ireturn, 1) := by decide +kernel
theorem dX6_doorOf_86 : decode cX6_doorOf 86 = .ok (.aload_n 3, 1) := by decide +kernel
theorem dX6_doorOf_87 : decode cX6_doorOf 87 = .ok (.getfield 140, 3) := by decide +kernel
theorem dX6_doorOf_90 : decode cX6_doorOf 90 = .ok (.ireturn, 1) := by decide +kernel
theorem dX6_doorOf_91 : decode cX6_doorOf 91 = .ok (.aload_n 3, 1) := by decide +kernel
theorem dX6_doorOf_92 : decode cX6_doorOf 92 = .ok (.getfield 143, 3) := by decide +kernel
theorem dX6_doorOf_95 : decode cX6_doorOf 95 = .ok (.ireturn, 1) := by decide +kernel
theorem dX6_doorOf_96 : decode cX6_doorOf 96 = .ok (.aload_n 0, 1) := by decide +kernel
theorem dX6_doorOf_97 : decode cX6_doorOf 97 = .ok (.getfield 10, 3) := by decide +kernel
theorem dX6_doorOf_100 : decode cX6_doorOf 100 = .ok (.aload_n 3, 1) := by decide +kernel
theorem dX6_doorOf_101 : decode cX6_doorOf 101 = .ok (.invokevirtual 146, 3) := by decide +kernel
theorem dX6_doorOf_104 : decode cX6_doorOf 104 = .ok (.ireturn, 1) := by decide +kernel
theorem dX6_doorOf_105 : decode cX6_doorOf 105 = .ok (.aload_n 3, 1) := by decide +kernel
theorem dX6_doorOf_106 : decode cX6_doorOf 106 = .ok (.getfield 150, 3) := by decide +kernel
theorem dX6_doorOf_109 : decode cX6_doorOf 109 = .ok (.ireturn, 1) := by decide +kernel
theorem dX6_doorOf_110 : decode cX6_doorOf 110 = .ok (.aload_n 3, 1) := by decide +kernel
theorem dX6_doorOf_111 : decode cX6_doorOf 111 = .ok (.getfield 153, 3) := by decide +kernel
theorem dX6_doorOf_114 : decode cX6_doorOf 114 = .ok (.ifCond .eq 7, 3) := by decide +kernel
theorem dX6_doorOf_117 : decode cX6_doorOf 117 = .ok (.iconst 1, 1) := by decide +kernel
theorem dX6_doorOf_118 : decode cX6_doorOf 118 = .ok (.goto 4, 3) := by decide +kernel
theorem dX6_doorOf_121 : decode cX6_doorOf 121 = .ok (.iconst 0, 1) := by decide +kernel
theorem dX6_doorOf_122 : decode cX6_doorOf 122 = .ok (.ireturn, 1) := by decide +kernel
theorem dX6_doorOf_123 : decode cX6_doorOf 123 = .ok (.aload_n 3, 1) := by decide +kernel
theorem dX6_doorOf_124 : decode cX6_doorOf 124 = .ok (.getfield 156, 3) := by decide +kernel
theorem dX6_doorOf_127 : decode cX6_doorOf 127 = .ok (.ifCond .eq 7, 3) := by decide +kernel
theorem dX6_doorOf_130 : decode cX6_doorOf 130 = .ok (.iconst 1, 1) := by decide +kernel
theorem dX6_doorOf_131 : decode cX6_doorOf 131 = .ok (.goto 4, 3) := by decide +kernel
theorem dX6_doorOf_134 : decode cX6_doorOf 134 = .ok (.iconst 0, 1) := by decide +kernel
theorem dX6_doorOf_135 : decode cX6_doorOf 135 = .ok (.ireturn, 1) := by decide +kernel
theorem dX6_doorOf_136 : decode cX6_doorOf 136 = .ok (.aload_n 3, 1) := by decide +kernel
theorem dX6_doorOf_137 : decode cX6_doorOf 137 = .ok (.getfield 159, 3) := by decide +kernel
theorem dX6_doorOf_140 : decode cX6_doorOf 140 = .ok (.ireturn, 1) := by decide +kernel
theorem dX6_doorOf_141 : decode cX6_doorOf 141 = .ok (.aload_n 3, 1) := by decide +kernel
theorem dX6_doorOf_142 : decode cX6_doorOf 142 = .ok (.getfield 162, 3) := by decide +kernel
theorem dX6_doorOf_145 : decode cX6_doorOf 145 = .ok (.ireturn, 1) := by decide +kernel
theorem dX6_doorOf_146 : decode cX6_doorOf 146 = .ok (.aload_n 3, 1) := by decide +kernel
theorem dX6_doorOf_147 : decode cX6_doorOf 147 = .ok (.getfield 165, 3) := by decide +kernel
theorem dX6_doorOf_150 : decode cX6_doorOf 150 = .ok (.ireturn, 1) := by decide +kernel
theorem dX6_doorOf_151 : decode cX6_doorOf 151 = .ok (.new 168, 3) := by decide +kernel
theorem dX6_doorOf_154 : decode cX6_doorOf 154 = .ok (.dup, 1) := by decide +kernel
theorem dX6_doorOf_155 : decode cX6_doorOf 155 = .ok (.ldc 170, 2) := by decide +kernel
theorem dX6_doorOf_157 : decode cX6_doorOf 157 = .ok (.invokespecial 172, 3) := by decide +kernel
theorem dX6_doorOf_160 : decode cX6_doorOf 160 = .ok (.athrow, 1) := by decide +kernel
set_option maxRecDepth 20000 in
theorem ggX6_thresholdOf_X6_isBelow : GoodIn wsX6_thresholdOf wsX6_isBelow := goodIn_r _ [11] (by decide +kernel) (by decide +kernel)
set_option maxRecDepth 20000 in
theorem gX6_thresholdOf_X6_isBelow : GoodIn wsX6_thresholdOf (va_wsS RX6 178 yX6_isBelow wsX6_isBelow) := goodIn_app (goodIn_of _ (by decide +kernel)) ggX6_thresholdOf_X6_isBelow
set_option maxRecDepth 20000 in
theorem ggX6_thresholdOf_X1_doorsOn : GoodIn wsX6_thresholdOf wsX1_doorsOn := goodIn_r _ [16, 17, 18, 19, 31, 32, 33, 34, 35, 36, 37, 38, 39, 40, 41, 42, 43, 44, 45, 46, 47, 48, 49, 50, 51, 52] (by decide +kernel) (by decide +kernel)
set_option maxRecDepth 20000 in
theorem gX6_thresholdOf_X1_doorsOn : GoodIn wsX6_thresholdOf (wsV RX6 191 RX1 yX1_doorsOn wsX1_doorsOn) := goodIn_app (goodIn_of _ (by decide +kernel)) ggX6_thresholdOf_X1_doorsOn
theorem dX6_thresholdOf_0 : decode cX6_thresholdOf 0 = .ok (.iload_n 1, 1) := by decide +kernel
theorem dX6_thresholdOf_1 : decode cX6_thresholdOf 1 = .ok (.aload_n 0, 1) := by decide +kernel
theorem dX6_thresholdOf_2 : decode cX6_thresholdOf 2 = .ok (.getfield 10, 3) := by decide +kernel
theorem dX6_thresholdOf_5 : decode cX6_thresholdOf 5 = .ok (.getfield 175, 3) := by decide +kernel
theorem dX6_thresholdOf_8 : decode cX6_thresholdOf 8 = .ok (.invokestatic 178, 3) := by decide +kernel
theorem dX6_thresholdOf_11 : decode cX6_thresholdOf 11 = .ok (.ifCond .ne 13, 3) := by decide +kernel
theorem dX6_thresholdOf_14 : decode cX6_thresholdOf 14 = .ok (.new 182, 3) := by decide +kernel
theorem dX6_thresholdOf_17 : decode cX6_thresholdOf 17 = .ok (.dup, 1) := by decide +kernel
theorem dX6_thresholdOf_18 : decode cX6_thresholdOf 18 = .ok (.ldc 184, 2) := by decide +kernel
theorem dX6_thresholdOf_20 : decode cX6_thresholdOf 20 = .ok (.invokespecial 186, 3) := by decide +kernel
theorem dX6_thresholdOf_23 : decode cX6_thresholdOf 23 = .ok (.athrow, 1) := by decide +kernel
theorem dX6_thresholdOf_24 : decode cX6_thresholdOf 24 = .ok (.iload_n 2, 1) := by decide +kernel
theorem dX6_thresholdOf_25 : decode cX6_thresholdOf 25 = .ok (.lookupswitch 46 #[(0, 27), (1, 37)], 27) := by decide +kernel
theorem dX6_thresholdOf_52 : decode cX6_thresholdOf 52 = .ok (.aload_n 0, 1) := by decide +kernel
theorem dX6_thresholdOf_53 : decode cX6_thresholdOf 53 = .ok (.getfield 10, 3) := by decide +kernel
theorem dX6_thresholdOf_56 : decode cX6_thresholdOf 56 = .ok (.getfield 187, 3) := by decide +kernel
theorem dX6_thresholdOf_59 : decode cX6_thresholdOf 59 = .ok (.iload_n 1, 1) := by decide +kernel
theorem dX6_thresholdOf_60 : decode cX6_thresholdOf 60 = .ok (.iaload, 1) := by decide +kernel
theorem dX6_thresholdOf_61 : decode cX6_thresholdOf 61 = .ok (.ireturn, 1) := by decide +kernel
theorem dX6_thresholdOf_62 : decode cX6_thresholdOf 62 = .ok (.aload_n 0, 1) := by decide +kernel
theorem dX6_thresholdOf_63 : decode cX6_thresholdOf 63 = .ok (.getfield 10, 3) := by decide +kernel
theorem dX6_thresholdOf_66 : decode cX6_thresholdOf 66 = .ok (.iload_n 1, 1) := by decide +kernel
theorem dX6_thresholdOf_67 : decode cX6_thresholdOf 67 = .ok (.invokevirtual 191, 3) := by decide +kernel
theorem dX6_thresholdOf_70 : decode cX6_thresholdOf 70 = .ok (.ireturn, 1) := by decide +kernel
theorem dX6_thresholdOf_71 : decode cX6_thresholdOf 71 = .ok (.new 168, 3) := by decide +kernel
theorem dX6_thresholdOf_74 : decode cX6_thresholdOf 74 = .ok (.dup, 1) := by decide +kernel
theorem dX6_thresholdOf_75 : decode cX6_thresholdOf 75 = .ok (.ldc 194, 2) := by decide +kernel
theorem dX6_thresholdOf_77 : decode cX6_thresholdOf 77 = .ok (.invokespecial 172, 3) := by decide +kernel
theorem dX6_thresholdOf_80 : decode cX6_thresholdOf 80 = .ok (.athrow, 1) := by decide +kernel
set_option maxRecDepth 20000 in
theorem ggX6_ending_X6_isBelow : GoodIn wsX6_ending wsX6_isBelow := goodIn_r _ [7] (by decide +kernel) (by decide +kernel)
set_option maxRecDepth 20000 in
theorem gX6_ending_X6_isBelow : GoodIn wsX6_ending (va_wsS RX6 178 yX6_isBelow wsX6_isBelow) := goodIn_app (goodIn_of _ (by decide +kernel)) ggX6_ending_X6_isBelow
set_option maxRecDepth 20000 in
theorem ggX6_ending_X6_numberOf : GoodIn wsX6_ending wsX6_numberOf := goodIn_r _ [10] (by decide +kernel) (by decide +kernel)
set_option maxRecDepth 20000 in
theorem gX6_ending_X6_numberOf : GoodIn wsX6_ending (va_wsS RX6 85 yX6_numberOf wsX6_numberOf) := goodIn_app (goodIn_of _ (by decide +kernel)) ggX6_ending_X6_numberOf
set_option maxRecDepth 20000 in
theorem ggX6_ending_X1_signAt : GoodIn wsX6_ending wsX1_signAt := goodIn_ca (goodIn_r _ [15, 16, 17, 18, 14, 19, 20, 21, 22, 23, 35, 36, 37, 38, 39, 40, 41, 42, 43, 44, 45, 46] (by decide +kernel) (by decide +kernel)) (goodIn_sub (fun _ h => List.mem_cons_of_mem _ (List.mem_append_right _ h)) (by decide +kernel))
set_option maxRecDepth 20000 in
theorem gX6_ending_X1_signAt : GoodIn wsX6_ending (wsV RX6 198 RX1 yX1_signAt wsX1_signAt) := goodIn_app (goodIn_of _ (by decide +kernel)) ggX6_ending_X1_signAt
theorem dX6_ending_0 : decode cX6_ending 0 = .ok (.iload_n 1, 1) := by decide +kernel
theorem dX6_ending_1 : decode cX6_ending 1 = .ok (.iconst 3, 1) := by decide +kernel
theorem dX6_ending_2 : decode cX6_ending 2 = .ok (.invokestatic 178, 3) := by decide +kernel
theorem dX6_ending_5 : decode cX6_ending 5 = .ok (.ifCond .eq 11, 3) := by decide +kernel
theorem dX6_ending_8 : decode cX6_ending 8 = .ok (.iload_n 2, 1) := by decide +kernel
theorem dX6_ending_9 : decode cX6_ending 9 = .ok (.iconst 4, 1) := by decide +kernel
theorem dX6_ending_10 : decode cX6_ending 10 = .ok (.invokestatic 178, 3) := by decide +kernel
theorem dX6_ending_13 : decode cX6_ending 13 = .ok (.ifCond .ne 13, 3) := by decide +kernel
theorem dX6_ending_16 : decode cX6_ending 16 = .ok (.new 168, 3) := by decide +kernel
theorem dX6_ending_19 : decode cX6_ending 19 = .ok (.dup, 1) := by decide +kernel
theorem dX6_ending_20 : decode cX6_ending 20 = .ok (.ldc 196, 2) := by decide +kernel
theorem dX6_ending_22 : decode cX6_ending 22 = .ok (.invokespecial 172, 3) := by decide +kernel
theorem dX6_ending_25 : decode cX6_ending 25 = .ok (.athrow, 1) := by decide +kernel
theorem dX6_ending_26 : decode cX6_ending 26 = .ok (.aload_n 0, 1) := by decide +kernel
theorem dX6_ending_27 : decode cX6_ending 27 = .ok (.getfield 10, 3) := by decide +kernel
theorem dX6_ending_30 : decode cX6_ending 30 = .ok (.iload_n 1, 1) := by decide +kernel
theorem dX6_ending_31 : decode cX6_ending 31 = .ok (.iload_n 2, 1) := by decide +kernel
theorem dX6_ending_32 : decode cX6_ending 32 = .ok (.iload_n 3, 1) := by decide +kernel
theorem dX6_ending_33 : decode cX6_ending 33 = .ok (.invokestatic 85, 3) := by decide +kernel
theorem dX6_ending_36 : decode cX6_ending 36 = .ok (.invokevirtual 198, 3) := by decide +kernel
theorem dX6_ending_39 : decode cX6_ending 39 = .ok (.ireturn, 1) := by decide +kernel
set_option maxRecDepth 20000 in
theorem ggX6_areAlike_X6_requireDoor : GoodIn wsX6_areAlike wsX6_requireDoor := goodIn_ca (goodIn_r _ [6, 7, 8, 1, 9, 10, 11, 12, 13, 14, 15, 5, 16, 97, 98, 99, 100, 101, 102, 103, 104, 105, 106, 107, 108, 109, 110, 111, 112, 113, 114, 115, 116, 117, 118, 119] (by decide +kernel) (by decide +kernel)) (goodIn_sub (fun _ h => List.mem_cons_of_mem _ (List.mem_append_left _ (List.mem_append_right _ h))) (by decide +kernel))
set_option maxRecDepth 20000 in
theorem gX6_areAlike_X6_requireDoor : GoodIn wsX6_areAlike (wsV RX6 125 RX6 yX6_requireDoor wsX6_requireDoor) := goodIn_app (goodIn_of _ (by decide +kernel)) ggX6_areAlike_X6_requireDoor
set_option maxRecDepth 20000 in
theorem ggX6_areAlike_X1_areAlikeByNumbers : GoodIn wsX6_areAlike wsX1_areAlikeByNumbers := goodIn_ca (goodIn_r _ [20, 21, 22, 23, 24, 25, 26, 12, 27, 28, 29, 30, 31, 32, 33, 34, 35, 15, 5, 16, 36, 37, 38, 39, 40, 41, 42, 43, 108, 109, 110, 111, 112, 113, 114, 115, 116, 117, 118, 119, 120, 121, 122, 123, 124, 125, 126, 127, 128, 129] (by decide +kernel) (by decide +kernel)) (goodIn_sub (fun _ h => List.mem_cons_of_mem _ (List.mem_append_right _ h)) (by decide +kernel))
set_option maxRecDepth 20000 in
theorem gX6_areAlike_X1_areAlikeByNumbers : GoodIn wsX6_areAlike (wsV RX6 202 RX1 yX1_areAlikeByNumbers wsX1_areAlikeByNumbers) := goodIn_app (goodIn_of _ (by decide +kernel)) ggX6_areAlike_X1_areAlikeByNumbers
set_option maxRecDepth 20000 in
theorem ggX6_areAlike_X1_areAlikeByLetters : GoodIn wsX6_areAlike wsX1_areAlikeByLetters := goodIn_ca (goodIn_r _ [47, 21, 48, 49, 50, 12, 51, 22, 23, 28, 52, 53, 54, 55, 56, 57, 58, 59, 60, 61, 62, 63, 64, 65, 66, 67, 68, 69, 70, 71, 72, 73, 74, 75, 76, 77, 78, 79, 80, 81, 82, 83, 84, 85, 86, 87, 88, 89, 90, 91, 92, 29, 30, 31, 32, 33, 34, 35, 15, 5, 16, 93, 94, 95, 96, 36, 37, 38, 39, 40, 41, 42, 43, 108, 109, 110, 111, 112, 113, 114, 115, 116, 117, 118, 119, 120, 121, 122, 123, 124, 125, 126, 127, 128, 129, 130, 131, 132, 133] (by decide +kernel) (by decide +kernel)) (goodIn_sub (fun _ h => List.mem_cons_of_mem _ (List.mem_append_right _ h)) (by decide +kernel))
set_option maxRecDepth 20000 in
theorem gX6_areAlike_X1_areAlikeByLetters : GoodIn wsX6_areAlike (wsV RX6 205 RX1 yX1_areAlikeByLetters wsX1_areAlikeByLetters) := goodIn_app (goodIn_of _ (by decide +kernel)) ggX6_areAlike_X1_areAlikeByLetters
theorem dX6_areAlike_0 : decode cX6_areAlike 0 = .ok (.aload_n 0, 1) := by decide +kernel
theorem dX6_areAlike_1 : decode cX6_areAlike 1 = .ok (.iload_n 1, 1) := by decide +kernel
theorem dX6_areAlike_2 : decode cX6_areAlike 2 = .ok (.invokevirtual 125, 3) := by decide +kernel
theorem dX6_areAlike_5 : decode cX6_areAlike 5 = .ok (.aload_n 0, 1) := by decide +kernel
theorem dX6_areAlike_6 : decode cX6_areAlike 6 = .ok (.iload_n 2, 1) := by decide +kernel
theorem dX6_areAlike_7 : decode cX6_areAlike 7 = .ok (.invokevirtual 125, 3) := by decide +kernel
theorem dX6_areAlike_10 : decode cX6_areAlike 10 = .ok (.iload_n 3, 1) := by decide +kernel
theorem dX6_areAlike_11 : decode cX6_areAlike 11 = .ok (.ifCond .eq 15, 3) := by decide +kernel
theorem dX6_areAlike_14 : decode cX6_areAlike 14 = .ok (.aload_n 0, 1) := by decide +kernel
theorem dX6_areAlike_15 : decode cX6_areAlike 15 = .ok (.getfield 10, 3) := by decide +kernel
theorem dX6_areAlike_18 : decode cX6_areAlike 18 = .ok (.iload_n 1, 1) := by decide +kernel
theorem dX6_areAlike_19 : decode cX6_areAlike 19 = .ok (.iload_n 2, 1) := by decide +kernel
theorem dX6_areAlike_20 : decode cX6_areAlike 20 = .ok (.invokevirtual 202, 3) := by decide +kernel
theorem dX6_areAlike_23 : decode cX6_areAlike 23 = .ok (.goto 12, 3) := by decide +kernel
theorem dX6_areAlike_26 : decode cX6_areAlike 26 = .ok (.aload_n 0, 1) := by decide +kernel
theorem dX6_areAlike_27 : decode cX6_areAlike 27 = .ok (.getfield 10, 3) := by decide +kernel
theorem dX6_areAlike_30 : decode cX6_areAlike 30 = .ok (.iload_n 1, 1) := by decide +kernel
theorem dX6_areAlike_31 : decode cX6_areAlike 31 = .ok (.iload_n 2, 1) := by decide +kernel
theorem dX6_areAlike_32 : decode cX6_areAlike 32 = .ok (.invokevirtual 205, 3) := by decide +kernel
theorem dX6_areAlike_35 : decode cX6_areAlike 35 = .ok (.ireturn, 1) := by decide +kernel
set_option maxRecDepth 20000 in
theorem ggX6_couldBe_X6_requireDoor : GoodIn wsX6_couldBe wsX6_requireDoor := goodIn_ca (goodIn_r _ [7, 8, 9, 1, 10, 11, 12, 13, 14, 15, 16, 6, 17, 43, 44, 45, 46, 47, 48, 49, 50, 51, 52, 53, 54, 55, 56, 57, 58, 59, 60, 61, 62, 63, 64, 65] (by decide +kernel) (by decide +kernel)) (goodIn_sub (fun _ h => List.mem_cons_of_mem _ (List.mem_append_left _ (List.mem_append_right _ h))) (by decide +kernel))
set_option maxRecDepth 20000 in
theorem gX6_couldBe_X6_requireDoor : GoodIn wsX6_couldBe (wsV RX6 125 RX6 yX6_requireDoor wsX6_requireDoor) := goodIn_app (goodIn_of _ (by decide +kernel)) ggX6_couldBe_X6_requireDoor
set_option maxRecDepth 20000 in
theorem ggX6_couldBe_X1_casesLikeOwn : GoodIn wsX6_couldBe wsX1_casesLikeOwn := goodIn_ca (goodIn_r _ [21, 22, 23, 24, 25, 26, 13, 27, 28, 29, 30, 31, 32, 33, 34, 35, 36, 37, 38, 39, 40, 41, 42, 16, 6, 17, 66, 67, 68, 69, 70, 71, 72, 73, 74, 75, 54, 55, 56, 57, 58, 59, 60, 61, 62, 63, 64, 65] (by decide +kernel) (by decide +kernel)) (goodIn_sub (fun _ h => List.mem_cons_of_mem _ (List.mem_append_right _ h)) (by decide +kernel))
set_option maxRecDepth 20000 in
theorem gX6_couldBe_X1_casesLikeOwn : GoodIn wsX6_couldBe (wsV RX6 208 RX1 yX1_casesLikeOwn wsX1_casesLikeOwn) := goodIn_app (goodIn_of _ (by decide +kernel)) ggX6_couldBe_X1_casesLikeOwn
theorem dX6_couldBe_0 : decode cX6_couldBe 0 = .ok (.aload_n 0, 1) := by decide +kernel
theorem dX6_couldBe_1 : decode cX6_couldBe 1 = .ok (.iload_n 1, 1) := by decide +kernel
theorem dX6_couldBe_2 : decode cX6_couldBe 2 = .ok (.invokevirtual 125, 3) := by decide +kernel
theorem dX6_couldBe_5 : decode cX6_couldBe 5 = .ok (.aload_n 0, 1) := by decide +kernel
theorem dX6_couldBe_6 : decode cX6_couldBe 6 = .ok (.getfield 10, 3) := by decide +kernel
theorem dX6_couldBe_9 : decode cX6_couldBe 9 = .ok (.aload_n 0, 1) := by decide +kernel
theorem dX6_couldBe_10 : decode cX6_couldBe 10 = .ok (.getfield 10, 3) := by decide +kernel
theorem dX6_couldBe_13 : decode cX6_couldBe 13 = .ok (.getfield 128, 3) := by decide +kernel
theorem dX6_couldBe_16 : decode cX6_couldBe 16 = .ok (.iload_n 1, 1) := by decide +kernel
theorem dX6_couldBe_17 : decode cX6_couldBe 17 = .ok (.aaload, 1) := by decide +kernel
theorem dX6_couldBe_18 : decode cX6_couldBe 18 = .ok (.invokevirtual 208, 3) := by decide +kernel
theorem dX6_couldBe_21 : decode cX6_couldBe 21 = .ok (.ireturn, 1) := by decide +kernel
set_option maxRecDepth 20000 in
theorem ggX6_twins_X6_requireDoor : GoodIn wsX6_twins wsX6_requireDoor := goodIn_ca (goodIn_r _ [7, 8, 9, 1, 10, 11, 12, 13, 14, 15, 16, 6, 17, 90, 91, 92, 93, 94, 95, 96, 97, 98, 99, 100, 101, 102, 103, 104, 105, 106, 107, 108, 109, 110, 111, 112] (by decide +kernel) (by decide +kernel)) (goodIn_sub (fun _ h => List.mem_cons_of_mem _ (List.mem_append_left _ (List.mem_append_right _ h))) (by decide +kernel))
set_option maxRecDepth 20000 in
theorem gX6_twins_X6_requireDoor : GoodIn wsX6_twins (wsV RX6 125 RX6 yX6_requireDoor wsX6_requireDoor) := goodIn_app (goodIn_of _ (by decide +kernel)) ggX6_twins_X6_requireDoor
set_option maxRecDepth 20000 in
theorem ggX6_twins_X1_areAlikeByLetters : GoodIn wsX6_twins wsX1_areAlikeByLetters := goodIn_ca (goodIn_r _ [21, 22, 23, 24, 25, 13, 26, 27, 28, 29, 30, 31, 32, 33, 34, 35, 36, 37, 38, 39, 40, 41, 42, 43, 44, 45, 46, 47, 48, 49, 50, 51, 52, 53, 54, 55, 56, 57, 58, 59, 60, 61, 62, 63, 64, 65, 66, 67, 68, 69, 70, 71, 72, 73, 74, 75, 76, 77, 16, 6, 17, 78, 79, 80, 81, 82, 83, 84, 85, 86, 87, 88, 89, 101, 102, 103, 104, 105, 106, 107, 108, 109, 110, 111, 112, 113, 114, 115, 116, 117, 118, 119, 120, 121, 122, 123, 124, 125, 126] (by decide +kernel) (by decide +kernel)) (goodIn_sub (fun _ h => List.mem_cons_of_mem _ (List.mem_append_right _ h)) (by decide +kernel))
set_option maxRecDepth 20000 in
theorem gX6_twins_X1_areAlikeByLetters : GoodIn wsX6_twins (wsV RX6 205 RX1 yX1_areAlikeByLetters wsX1_areAlikeByLetters) := goodIn_app (goodIn_of _ (by decide +kernel)) ggX6_twins_X1_areAlikeByLetters
theorem dX6_twins_0 : decode cX6_twins 0 = .ok (.aload_n 0, 1) := by decide +kernel
theorem dX6_twins_1 : decode cX6_twins 1 = .ok (.iload_n 1, 1) := by decide +kernel
theorem dX6_twins_2 : decode cX6_twins 2 = .ok (.invokevirtual 125, 3) := by decide +kernel
theorem dX6_twins_5 : decode cX6_twins 5 = .ok (.iconst 0, 1) := by decide +kernel
theorem dX6_twins_6 : decode cX6_twins 6 = .ok (.istore_n 2, 1) := by decide +kernel
theorem dX6_twins_7 : decode cX6_twins 7 = .ok (.iconst 0, 1) := by decide +kernel
theorem dX6_twins_8 : decode cX6_twins 8 = .ok (.istore_n 3, 1) := by decide +kernel
theorem dX6_twins_9 : decode cX6_twins 9 = .ok (.iload_n 3, 1) := by decide +kernel
theorem dX6_twins_10 : decode cX6_twins 10 = .ok (.aload_n 0, 1) := by decide +kernel
theorem dX6_twins_11 : decode cX6_twins 11 = .ok (.getfield 10, 3) := by decide +kernel
theorem dX6_twins_14 : decode cX6_twins 14 = .ok (.getfield 64, 3) := by decide +kernel
theorem dX6_twins_17 : decode cX6_twins 17 = .ok (.if_icmp .ge 27, 3) := by decide +kernel
theorem dX6_twins_20 : decode cX6_twins 20 = .ok (.aload_n 0, 1) := by decide +kernel
theorem dX6_twins_21 : decode cX6_twins 21 = .ok (.getfield 10, 3) := by decide +kernel
theorem dX6_twins_24 : decode cX6_twins 24 = .ok (.iload_n 1, 1) := by decide +kernel
theorem dX6_twins_25 : decode cX6_twins 25 = .ok (.iload_n 3, 1) := by decide +kernel
theorem dX6_twins_26 : decode cX6_twins 26 = .ok (.invokevirtual 205, 3) := by decide +kernel
theorem dX6_twins_29 : decode cX6_twins 29 = .ok (.ifCond .eq 9, 3) := by decide +kernel
theorem dX6_twins_32 : decode cX6_twins 32 = .ok (.iload_n 2, 1) := by decide +kernel
theorem dX6_twins_33 : decode cX6_twins 33 = .ok (.iconst 1, 1) := by decide +kernel
theorem dX6_twins_34 : decode cX6_twins 34 = .ok (.iload_n 3, 1) := by decide +kernel
theorem dX6_twins_35 : decode cX6_twins 35 = .ok (.ishl, 1) := by decide +kernel
theorem dX6_twins_36 : decode cX6_twins 36 = .ok (.ior, 1) := by decide +kernel
theorem dX6_twins_37 : decode cX6_twins 37 = .ok (.istore_n 2, 1) := by decide +kernel
theorem dX6_twins_38 : decode cX6_twins 38 = .ok (.iinc 3 1, 3) := by decide +kernel
theorem dX6_twins_41 : decode cX6_twins 41 = .ok (.goto (-32), 3) := by decide +kernel
theorem dX6_twins_44 : decode cX6_twins 44 = .ok (.iload_n 2, 1) := by decide +kernel
theorem dX6_twins_45 : decode cX6_twins 45 = .ok (.ireturn, 1) := by decide +kernel
set_option maxRecDepth 20000 in
theorem ggX6_knock_X6_faultOfKnock : GoodIn wsX6_knock wsX6_faultOfKnock := goodIn_r _ [7, 2, 8, 9, 10, 11, 12, 13, 14, 15, 16, 17, 6, 18, 19, 20, 21, 22, 23, 24, 25, 26, 27, 28, 29, 30, 31, 32, 33, 34, 35, 36, 123, 124, 125, 126, 127, 128, 129, 130, 131, 132, 133, 134, 135, 136, 137, 138, 139, 140, 141, 142, 143, 144, 145, 146, 147, 148, 149, 150, 151, 152, 153, 154, 155] (by decide +kernel) (by decide +kernel)
set_option maxRecDepth 20000 in
theorem gX6_knock_X6_faultOfKnock : GoodIn wsX6_knock (wsV RX6 222 RX6 yX6_faultOfKnock wsX6_faultOfKnock) := goodIn_app (goodIn_of _ (by decide +kernel)) ggX6_knock_X6_faultOfKnock
set_option maxRecDepth 20000 in
theorem ggX6_knock_X6_throwFault : GoodIn wsX6_knock wsX6_throwFault := goodIn_ca (goodIn_ca (goodIn_ca (goodIn_r _ [39, 40, 41, 42, 43, 44, 45] (by decide +kernel) (by decide +kernel)) (goodIn_sub (fun _ h => List.mem_cons_of_mem _ (List.mem_append_left _ (List.mem_append_left _ (List.mem_append_left _ (List.mem_append_right _ h))))) (by decide +kernel))) (goodIn_sub (fun _ h => List.mem_cons_of_mem _ (List.mem_append_left _ (List.mem_append_left _ (List.mem_append_right _ h)))) (by decide +kernel))) (goodIn_sub (fun _ h => List.mem_cons_of_mem _ (List.mem_append_left _ (List.mem_append_right _ h))) (by decide +kernel))
set_option maxRecDepth 20000 in
theorem gX6_knock_X6_throwFault : GoodIn wsX6_knock (va_wsS RX6 77 yX6_throwFault wsX6_throwFault) := goodIn_app (goodIn_of _ (by decide +kernel)) ggX6_knock_X6_throwFault
set_option maxRecDepth 20000 in
theorem ggX6_knock_X3_add : GoodIn wsX6_knock wsX3_add := goodIn_r _ [50, 51, 52, 53, 49, 54, 55, 56, 57, 58, 59, 60, 61, 62, 63, 64, 65, 66, 67, 68, 14, 69, 24, 70, 71, 72, 73, 74, 75, 76, 77, 16, 78, 79, 80, 81, 82, 83, 84, 85, 86, 87, 88, 89, 90, 91, 92, 93, 94, 95, 96, 97, 98, 99, 100, 101, 102, 156, 157, 158, 134, 135, 136, 137, 138, 139, 140, 141, 142, 143, 144, 145, 146, 147, 148, 149, 150, 151, 152, 153, 154, 155] (by decide +kernel) (by decide +kernel)
set_option maxRecDepth 20000 in
theorem gX6_knock_X3_add : GoodIn wsX6_knock (wsV RX6 81 RX3 yX3_add wsX3_add) := goodIn_app (goodIn_of _ (by decide +kernel)) ggX6_knock_X3_add
set_option maxRecDepth 20000 in
theorem ggX6_knock_X6_numberOf : GoodIn wsX6_knock wsX6_numberOf := goodIn_r _ [105] (by decide +kernel) (by decide +kernel)
set_option maxRecDepth 20000 in
theorem gX6_knock_X6_numberOf : GoodIn wsX6_knock (va_wsS RX6 85 yX6_numberOf wsX6_numberOf) := goodIn_app (goodIn_of _ (by decide +kernel)) ggX6_knock_X6_numberOf
set_option maxRecDepth 20000 in
theorem ggX6_knock_X1_hearKnock : GoodIn wsX6_knock wsX1_hearKnock := goodIn_ca (goodIn_r _ [109, 24, 110, 80, 25, 111, 81, 36, 82, 112, 113, 114, 14, 115, 116, 117, 118, 119, 120, 121, 122, 78, 70, 17, 6, 18, 134, 135, 136, 137, 138, 139, 140, 141, 142, 143, 144, 145, 146, 147, 148, 149, 150, 151, 152, 153, 154, 155] (by decide +kernel) (by decide +kernel)) (goodIn_sub (fun _ h => List.mem_cons_of_mem _ (List.mem_append_right _ h)) (by decide +kernel))
set_option maxRecDepth 20000 in
theorem gX6_knock_X1_hearKnock : GoodIn wsX6_knock (wsV RX6 226 RX1 yX1_hearKnock wsX1_hearKnock) := goodIn_app (goodIn_of _ (by decide +kernel)) ggX6_knock_X1_hearKnock
theorem dX6_knock_0 : decode cX6_knock 0 = .ok (.aload_n 0, 1) := by decide +kernel
theorem dX6_knock_1 : decode cX6_knock 1 = .ok (.iload_n 1, 1) := by decide +kernel
theorem dX6_knock_2 : decode cX6_knock 2 = .ok (.iload_n 2, 1) := by decide +kernel
theorem dX6_knock_3 : decode cX6_knock 3 = .ok (.iload 4, 2) := by decide +kernel
theorem dX6_knock_5 : decode cX6_knock 5 = .ok (.invokevirtual 222, 3) := by decide +kernel
theorem dX6_knock_8 : decode cX6_knock 8 = .ok (.invokestatic 77, 3) := by decide +kernel
theorem dX6_knock_11 : decode cX6_knock 11 = .ok (.aload_n 0, 1) := by decide +kernel
theorem dX6_knock_12 : decode cX6_knock 12 = .ok (.getfield 22, 3) := by decide +kernel
theorem dX6_knock_15 : decode cX6_knock 15 = .ok (.aload_n 0, 1) := by decide +kernel
theorem dX6_knock_16 : decode cX6_knock 16 = .ok (.getfield 10, 3) := by decide +kernel
theorem dX6_knock_19 : decode cX6_knock 19 = .ok (.invokevirtual 81, 3) := by decide +kernel
theorem dX6_knock_22 : decode cX6_knock 22 = .ok (.aload_n 0, 1) := by decide +kernel
theorem dX6_knock_23 : decode cX6_knock 23 = .ok (.getfield 10, 3) := by decide +kernel
theorem dX6_knock_26 : decode cX6_knock 26 = .ok (.iload_n 1, 1) := by decide +kernel
theorem dX6_knock_27 : decode cX6_knock 27 = .ok (.iload_n 2, 1) := by decide +kernel
theorem dX6_knock_28 : decode cX6_knock 28 = .ok (.iload_n 3, 1) := by decide +kernel
theorem dX6_knock_29 : decode cX6_knock 29 = .ok (.invokestatic 85, 3) := by decide +kernel
theorem dX6_knock_32 : decode cX6_knock 32 = .ok (.iload 4, 2) := by decide +kernel
theorem dX6_knock_34 : decode cX6_knock 34 = .ok (.invokevirtual 226, 3) := by decide +kernel
theorem dX6_knock_37 : decode cX6_knock 37 = .ok (.ireturn, 1) := by decide +kernel
set_option maxRecDepth 20000 in
theorem ggX6_shut_X6_faultOfShut : GoodIn wsX6_shut wsX6_faultOfShut := goodIn_r _ [7, 2, 8, 9, 10, 11, 12, 13, 14, 15, 16, 6, 17, 18, 19, 20, 21, 22, 23, 24, 25, 26, 27, 28, 29, 101, 102, 103, 104, 105, 106, 107, 108, 109, 110, 111, 112, 113, 114, 115, 116, 117, 118, 119, 120, 121, 122, 123, 124, 125, 126, 127, 128, 129, 130, 131, 132, 133] (by decide +kernel) (by decide +kernel)
set_option maxRecDepth 20000 in
theorem gX6_shut_X6_faultOfShut : GoodIn wsX6_shut (wsV RX6 229 RX6 yX6_faultOfShut wsX6_faultOfShut) := goodIn_app (goodIn_of _ (by decide +kernel)) ggX6_shut_X6_faultOfShut
set_option maxRecDepth 20000 in
theorem ggX6_shut_X6_throwFault : GoodIn wsX6_shut wsX6_throwFault := goodIn_ca (goodIn_ca (goodIn_ca (goodIn_r _ [32, 33, 34, 35, 36, 37, 38] (by decide +kernel) (by decide +kernel)) (goodIn_sub (fun _ h => List.mem_cons_of_mem _ (List.mem_append_left _ (List.mem_append_left _ (List.mem_append_right _ h)))) (by decide +kernel))) (goodIn_sub (fun _ h => List.mem_cons_of_mem _ (List.mem_append_left _ (List.mem_append_right _ h))) (by decide +kernel))) (goodIn_sub (fun _ h => List.mem_cons_of_mem _ (List.mem_append_right _ h)) (by decide +kernel))
set_option maxRecDepth 20000 in
theorem gX6_shut_X6_throwFault : GoodIn wsX6_shut (va_wsS RX6 77 yX6_throwFault wsX6_throwFault) := goodIn_app (goodIn_of _ (by decide +kernel)) ggX6_shut_X6_throwFault
set_option maxRecDepth 20000 in
theorem ggX6_shut_X3_add : GoodIn wsX6_shut wsX3_add := goodIn_r _ [43, 44, 45, 46, 42, 47, 48, 49, 50, 51, 52, 53, 54, 55, 56, 57, 58, 59, 60, 61, 13, 62, 22, 63, 64, 65, 66, 67, 68, 69, 70, 15, 71, 72, 73, 74, 75, 76, 77, 78, 79, 80, 81, 82, 83, 84, 85, 86, 87, 88, 89, 90, 91, 92, 93, 94, 95, 134, 135, 136, 112, 113, 114, 115, 116, 117, 118, 119, 120, 121, 122, 123, 124, 125, 126, 127, 128, 129, 130, 131, 132, 133] (by decide +kernel) (by decide +kernel)
set_option maxRecDepth 20000 in
theorem gX6_shut_X3_add : GoodIn wsX6_shut (wsV RX6 81 RX3 yX3_add wsX3_add) := goodIn_app (goodIn_of _ (by decide +kernel)) ggX6_shut_X3_add
set_option maxRecDepth 20000 in
theorem ggX6_shut_X1_shutDoor : GoodIn wsX6_shut wsX1_shutDoor := goodIn_r _ [99, 22, 23, 100, 19, 20, 13, 21, 15, 112, 113, 114, 115, 116, 117, 118, 119, 120, 121, 122, 123, 124, 125, 126, 127, 128, 129, 130, 131, 132, 133] (by decide +kernel) (by decide +kernel)
set_option maxRecDepth 20000 in
theorem gX6_shut_X1_shutDoor : GoodIn wsX6_shut (wsV RX6 232 RX1 yX1_shutDoor wsX1_shutDoor) := goodIn_app (goodIn_of _ (by decide +kernel)) ggX6_shut_X1_shutDoor
theorem dX6_shut_0 : decode cX6_shut 0 = .ok (.aload_n 0, 1) := by decide +kernel
theorem dX6_shut_1 : decode cX6_shut 1 = .ok (.iload_n 1, 1) := by decide +kernel
theorem dX6_shut_2 : decode cX6_shut 2 = .ok (.invokevirtual 229, 3) := by decide +kernel
theorem dX6_shut_5 : decode cX6_shut 5 = .ok (.invokestatic 77, 3) := by decide +kernel
theorem dX6_shut_8 : decode cX6_shut 8 = .ok (.aload_n 0, 1) := by decide +kernel
theorem dX6_shut_9 : decode cX6_shut 9 = .ok (.getfield 22, 3) := by decide +kernel
theorem dX6_shut_12 : decode cX6_shut 12 = .ok (.aload_n 0, 1) := by decide +kernel
theorem dX6_shut_13 : decode cX6_shut 13 = .ok (.getfield 10, 3) := by decide +kernel
theorem dX6_shut_16 : decode cX6_shut 16 = .ok (.invokevirtual 81, 3) := by decide +kernel
theorem dX6_shut_19 : decode cX6_shut 19 = .ok (.aload_n 0, 1) := by decide +kernel
theorem dX6_shut_20 : decode cX6_shut 20 = .ok (.getfield 10, 3) := by decide +kernel
theorem dX6_shut_23 : decode cX6_shut 23 = .ok (.iload_n 1, 1) := by decide +kernel
theorem dX6_shut_24 : decode cX6_shut 24 = .ok (.invokevirtual 232, 3) := by decide +kernel
theorem dX6_shut_27 : decode cX6_shut 27 = .ok (.ireturn, 1) := by decide +kernel
set_option maxRecDepth 20000 in
theorem ggX6_free_X6_faultOfFree : GoodIn wsX6_free wsX6_faultOfFree := goodIn_ca (goodIn_r _ [7, 2, 8, 9, 10, 11, 12, 13, 6, 14, 15, 16, 17, 18, 19, 20, 21, 22, 23, 24, 25, 26, 27, 28, 29, 30, 31, 32, 33, 34, 35, 110, 111, 112, 113, 114, 115, 116, 117, 118, 119, 120, 121, 122, 123, 124, 125, 126, 127, 128, 129, 130, 131, 132, 133, 134, 135, 136, 137, 138, 139, 140, 141, 142] (by decide +kernel) (by decide +kernel)) (goodIn_sub (fun _ h => List.mem_cons_of_mem _ (List.mem_append_left _ (List.mem_append_left _ (List.mem_append_left _ (List.mem_append_right _ h))))) (by decide +kernel))
set_option maxRecDepth 20000 in
theorem gX6_free_X6_faultOfFree : GoodIn wsX6_free (wsV RX6 235 RX6 yX6_faultOfFree wsX6_faultOfFree) := goodIn_app (goodIn_of _ (by decide +kernel)) ggX6_free_X6_faultOfFree
set_option maxRecDepth 20000 in
theorem ggX6_free_X6_throwFault : GoodIn wsX6_free wsX6_throwFault := goodIn_ca (goodIn_ca (goodIn_ca (goodIn_r _ [38, 39, 40, 41, 42, 43, 44] (by decide +kernel) (by decide +kernel)) (goodIn_sub (fun _ h => List.mem_cons_of_mem _ (List.mem_append_left _ (List.mem_append_left _ (List.mem_append_right _ h)))) (by decide +kernel))) (goodIn_sub (fun _ h => List.mem_cons_of_mem _ (List.mem_append_left _ (List.mem_append_right _ h))) (by decide +kernel))) (goodIn_sub (fun _ h => List.mem_cons_of_mem _ (List.mem_append_right _ h)) (by decide +kernel))
set_option maxRecDepth 20000 in
theorem gX6_free_X6_throwFault : GoodIn wsX6_free (va_wsS RX6 77 yX6_throwFault wsX6_throwFault) := goodIn_app (goodIn_of _ (by decide +kernel)) ggX6_free_X6_throwFault
set_option maxRecDepth 20000 in
theorem ggX6_free_X3_add : GoodIn wsX6_free wsX3_add := goodIn_r _ [49, 50, 51, 52, 48, 53, 54, 55, 56, 57, 58, 59, 60, 61, 62, 63, 64, 65, 66, 67, 18, 68, 32, 69, 70, 71, 72, 73, 31, 34, 74, 20, 75, 76, 77, 78, 79, 80, 81, 82, 83, 84, 85, 86, 87, 88, 89, 90, 91, 92, 93, 94, 95, 96, 97, 98, 99, 143, 144, 145, 121, 122, 123, 124, 125, 126, 127, 128, 129, 130, 131, 132, 133, 134, 135, 136, 137, 138, 139, 140, 141, 142] (by decide +kernel) (by decide +kernel)
set_option maxRecDepth 20000 in
theorem gX6_free_X3_add : GoodIn wsX6_free (wsV RX6 81 RX3 yX3_add wsX3_add) := goodIn_app (goodIn_of _ (by decide +kernel)) ggX6_free_X3_add
set_option maxRecDepth 20000 in
theorem ggX6_free_X1_freeDoor : GoodIn wsX6_free wsX1_freeDoor := goodIn_r _ [103, 32, 104, 105, 80, 106, 107, 108, 18, 109, 20, 121, 122, 123, 124, 125, 126, 127, 128, 129, 130, 131, 132, 133, 134, 135, 136, 137, 138, 139, 140, 141, 142] (by decide +kernel) (by decide +kernel)
set_option maxRecDepth 20000 in
theorem gX6_free_X1_freeDoor : GoodIn wsX6_free (wsV RX6 238 RX1 yX1_freeDoor wsX1_freeDoor) := goodIn_app (goodIn_of _ (by decide +kernel)) ggX6_free_X1_freeDoor
theorem dX6_free_0 : decode cX6_free 0 = .ok (.aload_n 0, 1) := by decide +kernel
theorem dX6_free_1 : decode cX6_free 1 = .ok (.iload_n 1, 1) := by decide +kernel
theorem dX6_free_2 : decode cX6_free 2 = .ok (.iload_n 2, 1) := by decide +kernel
theorem dX6_free_3 : decode cX6_free 3 = .ok (.invokevirtual 235, 3) := by decide +kernel
theorem dX6_free_6 : decode cX6_free 6 = .ok (.invokestatic 77, 3) := by decide +kernel
theorem dX6_free_9 : decode cX6_free 9 = .ok (.aload_n 0, 1) := by decide +kernel
theorem dX6_free_10 : decode cX6_free 10 = .ok (.getfield 22, 3) := by decide +kernel
theorem dX6_free_13 : decode cX6_free 13 = .ok (.aload_n 0, 1) := by decide +kernel
theorem dX6_free_14 : decode cX6_free 14 = .ok (.getfield 10, 3) := by decide +kernel
theorem dX6_free_17 : decode cX6_free 17 = .ok (.invokevirtual 81, 3) := by decide +kernel
theorem dX6_free_20 : decode cX6_free 20 = .ok (.aload_n 0, 1) := by decide +kernel
theorem dX6_free_21 : decode cX6_free 21 = .ok (.getfield 10, 3) := by decide +kernel
theorem dX6_free_24 : decode cX6_free 24 = .ok (.iload_n 2, 1) := by decide +kernel
theorem dX6_free_25 : decode cX6_free 25 = .ok (.invokevirtual 238, 3) := by decide +kernel
theorem dX6_free_28 : decode cX6_free 28 = .ok (.ireturn, 1) := by decide +kernel
set_option maxRecDepth 20000 in
theorem ggX6_agrees_X6_requireDoor : GoodIn wsX6_agrees wsX6_requireDoor := goodIn_ca (goodIn_r _ [9, 10, 11, 3, 12, 13, 14, 15, 16, 17, 18, 8, 19, 37, 38, 39, 40, 41, 42, 43, 44, 45, 46, 47, 48, 49, 50, 51, 52, 53, 54, 55, 56, 57, 58, 59] (by decide +kernel) (by decide +kernel)) (goodIn_sub (fun _ h => List.mem_cons_of_mem _ (List.mem_append_left _ (List.mem_append_right _ h))) (by decide +kernel))
set_option maxRecDepth 20000 in
theorem gX6_agrees_X6_requireDoor : GoodIn wsX6_agrees (wsV RX6 125 RX6 yX6_requireDoor wsX6_requireDoor) := goodIn_app (goodIn_of _ (by decide +kernel)) ggX6_agrees_X6_requireDoor
set_option maxRecDepth 20000 in
theorem ggX6_agrees_X6_isBelow : GoodIn wsX6_agrees wsX6_isBelow := goodIn_r _ [19] (by decide +kernel) (by decide +kernel)
set_option maxRecDepth 20000 in
theorem gX6_agrees_X6_isBelow : GoodIn wsX6_agrees (va_wsS RX6 178 yX6_isBelow wsX6_isBelow) := goodIn_app (goodIn_of _ (by decide +kernel)) ggX6_agrees_X6_isBelow
set_option maxRecDepth 20000 in
theorem ggX6_agrees_X6_numberOf : GoodIn wsX6_agrees wsX6_numberOf := goodIn_r _ [23] (by decide +kernel) (by decide +kernel)
set_option maxRecDepth 20000 in
theorem gX6_agrees_X6_numberOf : GoodIn wsX6_agrees (va_wsS RX6 85 yX6_numberOf wsX6_numberOf) := goodIn_app (goodIn_of _ (by decide +kernel)) ggX6_agrees_X6_numberOf
set_option maxRecDepth 20000 in
theorem ggX6_agrees_X1_agreement : GoodIn wsX6_agrees wsX1_agreement := goodIn_ca (goodIn_r _ [27, 28, 29, 30, 31, 32, 15, 33, 34, 35, 36, 18, 8, 19, 60, 61, 62, 63, 64, 65, 66, 67, 68, 69, 48, 49, 50, 51, 52, 53, 54, 55, 56, 57, 58, 59] (by decide +kernel) (by decide +kernel)) (goodIn_sub (fun _ h => List.mem_cons_of_mem _ (List.mem_append_right _ h)) (by decide +kernel))
set_option maxRecDepth 20000 in
theorem gX6_agrees_X1_agreement : GoodIn wsX6_agrees (wsV RX6 243 RX1 yX1_agreement wsX1_agreement) := goodIn_app (goodIn_of _ (by decide +kernel)) ggX6_agrees_X1_agreement
theorem dX6_agrees_0 : decode cX6_agrees 0 = .ok (.aload_n 0, 1) := by decide +kernel
theorem dX6_agrees_1 : decode cX6_agrees 1 = .ok (.iload_n 1, 1) := by decide +kernel
theorem dX6_agrees_2 : decode cX6_agrees 2 = .ok (.invokevirtual 125, 3) := by decide +kernel
theorem dX6_agrees_5 : decode cX6_agrees 5 = .ok (.iload_n 2, 1) := by decide +kernel
theorem dX6_agrees_6 : decode cX6_agrees 6 = .ok (.iconst 3, 1) := by decide +kernel
theorem dX6_agrees_7 : decode cX6_agrees 7 = .ok (.invokestatic 178, 3) := by decide +kernel
theorem dX6_agrees_10 : decode cX6_agrees 10 = .ok (.ifCond .eq 12, 3) := by decide +kernel
theorem dX6_agrees_13 : decode cX6_agrees 13 = .ok (.iload 4, 2) := by decide +kernel
theorem dX6_agrees_15 : decode cX6_agrees 15 = .ok (.iconst 4, 1) := by decide +kernel
theorem dX6_agrees_16 : decode cX6_agrees 16 = .ok (.invokestatic 178, 3) := by decide +kernel
theorem dX6_agrees_19 : decode cX6_agrees 19 = .ok (.ifCond .ne 13, 3) := by decide +kernel
theorem dX6_agrees_22 : decode cX6_agrees 22 = .ok (.new 168, 3) := by decide +kernel
theorem dX6_agrees_25 : decode cX6_agrees 25 = .ok (.dup, 1) := by decide +kernel
theorem dX6_agrees_26 : decode cX6_agrees 26 = .ok (.ldc 241, 2) := by decide +kernel
theorem dX6_agrees_28 : decode cX6_agrees 28 = .ok (.invokespecial 172, 3) := by decide +kernel
theorem dX6_agrees_31 : decode cX6_agrees 31 = .ok (.athrow, 1) := by decide +kernel
theorem dX6_agrees_32 : decode cX6_agrees 32 = .ok (.aload_n 0, 1) := by decide +kernel
theorem dX6_agrees_33 : decode cX6_agrees 33 = .ok (.getfield 10, 3) := by decide +kernel
theorem dX6_agrees_36 : decode cX6_agrees 36 = .ok (.aload_n 0, 1) := by decide +kernel
theorem dX6_agrees_37 : decode cX6_agrees 37 = .ok (.getfield 10, 3) := by decide +kernel
theorem dX6_agrees_40 : decode cX6_agrees 40 = .ok (.getfield 128, 3) := by decide +kernel
theorem dX6_agrees_43 : decode cX6_agrees 43 = .ok (.iload_n 1, 1) := by decide +kernel
theorem dX6_agrees_44 : decode cX6_agrees 44 = .ok (.aaload, 1) := by decide +kernel
theorem dX6_agrees_45 : decode cX6_agrees 45 = .ok (.iload_n 2, 1) := by decide +kernel
theorem dX6_agrees_46 : decode cX6_agrees 46 = .ok (.iload_n 3, 1) := by decide +kernel
theorem dX6_agrees_47 : decode cX6_agrees 47 = .ok (.invokestatic 85, 3) := by decide +kernel
theorem dX6_agrees_50 : decode cX6_agrees 50 = .ok (.iload 4, 2) := by decide +kernel
theorem dX6_agrees_52 : decode cX6_agrees 52 = .ok (.invokevirtual 243, 3) := by decide +kernel
theorem dX6_agrees_55 : decode cX6_agrees 55 = .ok (.ireturn, 1) := by decide +kernel
set_option maxRecDepth 20000 in
theorem ggX6_keysFor_X6_requireDoor : GoodIn wsX6_keysFor wsX6_requireDoor := goodIn_ca (goodIn_r _ [7, 8, 9, 1, 10, 11, 12, 13, 14, 15, 16, 6, 17, 27, 28, 29, 30, 31, 32, 33, 34, 35, 36, 37, 38, 39, 40, 41, 42, 43, 44, 45, 46, 47, 48, 49] (by decide +kernel) (by decide +kernel)) (goodIn_sub (fun _ h => List.mem_cons_of_mem _ (List.mem_append_left _ (List.mem_append_right _ h))) (by decide +kernel))
set_option maxRecDepth 20000 in
theorem gX6_keysFor_X6_requireDoor : GoodIn wsX6_keysFor (wsV RX6 125 RX6 yX6_requireDoor wsX6_requireDoor) := goodIn_app (goodIn_of _ (by decide +kernel)) ggX6_keysFor_X6_requireDoor
set_option maxRecDepth 20000 in
theorem ggX6_keysFor_X1_fit : GoodIn wsX6_keysFor wsX1_fit := goodIn_ca (goodIn_r _ [21, 22, 23, 24, 25, 26, 38, 39, 40, 41, 42, 43, 44, 45, 46, 47, 48, 49, 50, 51, 52, 53, 54, 55, 56, 57, 58, 59] (by decide +kernel) (by decide +kernel)) (goodIn_sub (fun _ h => List.mem_cons_of_mem _ (List.mem_append_right _ h)) (by decide +kernel))
set_option maxRecDepth 20000 in
theorem gX6_keysFor_X1_fit : GoodIn wsX6_keysFor (wsV RX6 250 RX1 yX1_fit wsX1_fit) := goodIn_app (goodIn_of _ (by decide +kernel)) ggX6_keysFor_X1_fit
theorem dX6_keysFor_0 : decode cX6_keysFor 0 = .ok (.aload_n 0, 1) := by decide +kernel
theorem dX6_keysFor_1 : decode cX6_keysFor 1 = .ok (.iload_n 1, 1) := by decide +kernel
theorem dX6_keysFor_2 : decode cX6_keysFor 2 = .ok (.invokevirtual 125, 3) := by decide +kernel
theorem dX6_keysFor_5 : decode cX6_keysFor 5 = .ok (.iconst 0, 1) := by decide +kernel
theorem dX6_keysFor_6 : decode cX6_keysFor 6 = .ok (.istore_n 2, 1) := by decide +kernel
theorem dX6_keysFor_7 : decode cX6_keysFor 7 = .ok (.iconst 0, 1) := by decide +kernel
theorem dX6_keysFor_8 : decode cX6_keysFor 8 = .ok (.istore_n 3, 1) := by decide +kernel
theorem dX6_keysFor_9 : decode cX6_keysFor 9 = .ok (.iload_n 3, 1) := by decide +kernel
theorem dX6_keysFor_10 : decode cX6_keysFor 10 = .ok (.aload_n 0, 1) := by decide +kernel
theorem dX6_keysFor_11 : decode cX6_keysFor 11 = .ok (.getfield 10, 3) := by decide +kernel
theorem dX6_keysFor_14 : decode cX6_keysFor 14 = .ok (.getfield 247, 3) := by decide +kernel
theorem dX6_keysFor_17 : decode cX6_keysFor 17 = .ok (.if_icmp .ge 28, 3) := by decide +kernel
theorem dX6_keysFor_20 : decode cX6_keysFor 20 = .ok (.aload_n 0, 1) := by decide +kernel
theorem dX6_keysFor_21 : decode cX6_keysFor 21 = .ok (.getfield 10, 3) := by decide +kernel
theorem dX6_keysFor_24 : decode cX6_keysFor 24 = .ok (.iload_n 3, 1) := by decide +kernel
theorem dX6_keysFor_25 : decode cX6_keysFor 25 = .ok (.iload_n 1, 1) := by decide +kernel
theorem dX6_keysFor_26 : decode cX6_keysFor 26 = .ok (.invokevirtual 250, 3) := by decide +kernel
theorem dX6_keysFor_29 : decode cX6_keysFor 29 = .ok (.iconst 2, 1) := by decide +kernel
theorem dX6_keysFor_30 : decode cX6_keysFor 30 = .ok (.if_icmp .ne 9, 3) := by decide +kernel
theorem dX6_keysFor_33 : decode cX6_keysFor 33 = .ok (.iload_n 2, 1) := by decide +kernel
theorem dX6_keysFor_34 : decode cX6_keysFor 34 = .ok (.iconst 1, 1) := by decide +kernel
theorem dX6_keysFor_35 : decode cX6_keysFor 35 = .ok (.iload_n 3, 1) := by decide +kernel
theorem dX6_keysFor_36 : decode cX6_keysFor 36 = .ok (.ishl, 1) := by decide +kernel
theorem dX6_keysFor_37 : decode cX6_keysFor 37 = .ok (.ior, 1) := by decide +kernel
theorem dX6_keysFor_38 : decode cX6_keysFor 38 = .ok (.istore_n 2, 1) := by decide +kernel
theorem dX6_keysFor_39 : decode cX6_keysFor 39 = .ok (.iinc 3 1, 3) := by decide +kernel
theorem dX6_keysFor_42 : decode cX6_keysFor 42 = .ok (.goto (-33), 3) := by decide +kernel
theorem dX6_keysFor_45 : decode cX6_keysFor 45 = .ok (.iload_n 2, 1) := by decide +kernel
theorem dX6_keysFor_46 : decode cX6_keysFor 46 = .ok (.ireturn, 1) := by decide +kernel
set_option maxRecDepth 20000 in
theorem ggX6_way_X6_requireRoom : GoodIn wsX6_way wsX6_requireRoom := goodIn_ca (goodIn_r _ [8, 9, 10, 11, 12, 7, 13] (by decide +kernel) (by decide +kernel)) (goodIn_sub (fun _ h => List.mem_cons_of_mem _ (List.mem_append_left _ (List.mem_append_right _ h))) (by decide +kernel))
set_option maxRecDepth 20000 in
theorem gX6_way_X6_requireRoom : GoodIn wsX6_way (va_wsS RX6 253 yX6_requireRoom wsX6_requireRoom) := goodIn_app (goodIn_of _ (by decide +kernel)) ggX6_way_X6_requireRoom
set_option maxRecDepth 20000 in
theorem ggX6_way_X5_passedBySets : GoodIn wsX6_way wsX5_passedBySets := goodIn_r _ [18, 19, 20, 21, 22, 23, 24, 25, 26, 27, 28, 55, 56, 57, 58, 59, 60, 61, 62, 63, 64, 65, 66, 67, 68, 69, 70, 71, 72, 73, 74, 75, 76] (by decide +kernel) (by decide +kernel)
set_option maxRecDepth 20000 in
theorem gX6_way_X5_passedBySets : GoodIn wsX6_way (wsV RX6 256 RX5 yX5_passedBySets wsX5_passedBySets) := goodIn_app (goodIn_of _ (by decide +kernel)) ggX6_way_X5_passedBySets
set_option maxRecDepth 20000 in
theorem ggX6_way_X5_passedByRooms : GoodIn wsX6_way wsX5_passedByRooms := goodIn_ca (goodIn_r _ [32, 33, 34, 35, 36, 37, 17, 38, 39, 40, 41, 42, 22, 43, 25, 26, 27, 28, 12, 7, 13, 77, 78, 55, 56, 57, 58, 59, 60, 61, 62, 63, 64, 65, 66, 67, 68, 69, 70, 71, 72, 73, 74, 75, 76] (by decide +kernel) (by decide +kernel)) (goodIn_sub (fun _ h => List.mem_cons_of_mem _ (List.mem_append_right _ h)) (by decide +kernel))
set_option maxRecDepth 20000 in
theorem gX6_way_X5_passedByRooms : GoodIn wsX6_way (wsV RX6 260 RX5 yX5_passedByRooms wsX5_passedByRooms) := goodIn_app (goodIn_of _ (by decide +kernel)) ggX6_way_X5_passedByRooms
theorem dX6_way_0 : decode cX6_way 0 = .ok (.iload_n 1, 1) := by decide +kernel
theorem dX6_way_1 : decode cX6_way 1 = .ok (.invokestatic 253, 3) := by decide +kernel
theorem dX6_way_4 : decode cX6_way 4 = .ok (.iload_n 2, 1) := by decide +kernel
theorem dX6_way_5 : decode cX6_way 5 = .ok (.invokestatic 253, 3) := by decide +kernel
theorem dX6_way_8 : decode cX6_way 8 = .ok (.iload_n 3, 1) := by decide +kernel
theorem dX6_way_9 : decode cX6_way 9 = .ok (.ifCond .eq 19, 3) := by decide +kernel
theorem dX6_way_12 : decode cX6_way 12 = .ok (.aload_n 0, 1) := by decide +kernel
theorem dX6_way_13 : decode cX6_way 13 = .ok (.getfield 29, 3) := by decide +kernel
theorem dX6_way_16 : decode cX6_way 16 = .ok (.aload_n 0, 1) := by decide +kernel
theorem dX6_way_17 : decode cX6_way 17 = .ok (.getfield 10, 3) := by decide +kernel
theorem dX6_way_20 : decode cX6_way 20 = .ok (.iload_n 1, 1) := by decide +kernel
theorem dX6_way_21 : decode cX6_way 21 = .ok (.iload_n 2, 1) := by decide +kernel
theorem dX6_way_22 : decode cX6_way 22 = .ok (.invokevirtual 256, 3) := by decide +kernel
theorem dX6_way_25 : decode cX6_way 25 = .ok (.goto 16, 3) := by decide +kernel
theorem dX6_way_28 : decode cX6_way 28 = .ok (.aload_n 0, 1) := by decide +kernel
theorem dX6_way_29 : decode cX6_way 29 = .ok (.getfield 29, 3) := by decide +kernel
theorem dX6_way_32 : decode cX6_way 32 = .ok (.aload_n 0, 1) := by decide +kernel
theorem dX6_way_33 : decode cX6_way 33 = .ok (.getfield 10, 3) := by decide +kernel
theorem dX6_way_36 : decode cX6_way 36 = .ok (.iload_n 1, 1) := by decide +kernel
theorem dX6_way_37 : decode cX6_way 37 = .ok (.iload_n 2, 1) := by decide +kernel
theorem dX6_way_38 : decode cX6_way 38 = .ok (.invokevirtual 260, 3) := by decide +kernel
theorem dX6_way_41 : decode cX6_way 41 = .ok (.istore 4, 2) := by decide +kernel
theorem dX6_way_43 : decode cX6_way 43 = .ok (.iload 4, 2) := by decide +kernel
theorem dX6_way_45 : decode cX6_way 45 = .ok (.iconst (-1), 1) := by decide +kernel
theorem dX6_way_46 : decode cX6_way 46 = .ok (.if_icmp .ne 14, 3) := by decide +kernel
theorem dX6_way_49 : decode cX6_way 49 = .ok (.new 263, 3) := by decide +kernel
theorem dX6_way_52 : decode cX6_way 52 = .ok (.dup, 1) := by decide +kernel
theorem dX6_way_53 : decode cX6_way 53 = .ok (.ldc_w 265, 3) := by decide +kernel
theorem dX6_way_56 : decode cX6_way 56 = .ok (.invokespecial 267, 3) := by decide +kernel
theorem dX6_way_59 : decode cX6_way 59 = .ok (.athrow, 1) := by decide +kernel
theorem dX6_way_60 : decode cX6_way 60 = .ok (.iload 4, 2) := by decide +kernel
theorem dX6_way_62 : decode cX6_way 62 = .ok (.ireturn, 1) := by decide +kernel
set_option maxRecDepth 20000 in
theorem ggX6_reached_X6_requireRoom : GoodIn wsX6_reached wsX6_requireRoom := goodIn_ca (goodIn_r _ [6, 7, 8, 9, 10, 5, 11] (by decide +kernel) (by decide +kernel)) (goodIn_sub (fun _ h => List.mem_cons_of_mem _ (List.mem_append_right _ h)) (by decide +kernel))
set_option maxRecDepth 20000 in
theorem gX6_reached_X6_requireRoom : GoodIn wsX6_reached (va_wsS RX6 253 yX6_requireRoom wsX6_requireRoom) := goodIn_app (goodIn_of _ (by decide +kernel)) ggX6_reached_X6_requireRoom
set_option maxRecDepth 20000 in
theorem ggX6_reached_X5_roomsFrom : GoodIn wsX6_reached wsX5_roomsFrom := goodIn_r _ [16, 17, 18, 19, 20, 21, 22, 23, 24, 25, 26, 38, 39, 40, 41, 42, 43, 44, 45, 46, 47, 48, 49, 50, 51, 52, 53, 54, 55, 56, 57, 58, 59] (by decide +kernel) (by decide +kernel)
set_option maxRecDepth 20000 in
theorem gX6_reached_X5_roomsFrom : GoodIn wsX6_reached (wsV RX6 268 RX5 yX5_roomsFrom wsX5_roomsFrom) := goodIn_app (goodIn_of _ (by decide +kernel)) ggX6_reached_X5_roomsFrom
theorem dX6_reached_0 : decode cX6_reached 0 = .ok (.iload_n 1, 1) := by decide +kernel
theorem dX6_reached_1 : decode cX6_reached 1 = .ok (.invokestatic 253, 3) := by decide +kernel
theorem dX6_reached_4 : decode cX6_reached 4 = .ok (.aload_n 0, 1) := by decide +kernel
theorem dX6_reached_5 : decode cX6_reached 5 = .ok (.getfield 29, 3) := by decide +kernel
theorem dX6_reached_8 : decode cX6_reached 8 = .ok (.aload_n 0, 1) := by decide +kernel
theorem dX6_reached_9 : decode cX6_reached 9 = .ok (.getfield 10, 3) := by decide +kernel
theorem dX6_reached_12 : decode cX6_reached 12 = .ok (.iload_n 1, 1) := by decide +kernel
theorem dX6_reached_13 : decode cX6_reached 13 = .ok (.iconst (-1), 1) := by decide +kernel
theorem dX6_reached_14 : decode cX6_reached 14 = .ok (.invokevirtual 268, 3) := by decide +kernel
theorem dX6_reached_17 : decode cX6_reached 17 = .ok (.ireturn, 1) := by decide +kernel
set_option maxRecDepth 20000 in
theorem ggX6_best_X6_requireRoom : GoodIn wsX6_best wsX6_requireRoom := goodIn_ca (goodIn_r _ [9, 10, 11, 12, 13, 8, 14] (by decide +kernel) (by decide +kernel)) (goodIn_sub (fun _ h => List.mem_cons_of_mem _ (List.mem_append_right _ h)) (by decide +kernel))
set_option maxRecDepth 20000 in
theorem gX6_best_X6_requireRoom : GoodIn wsX6_best (va_wsS RX6 253 yX6_requireRoom wsX6_requireRoom) := goodIn_app (goodIn_of _ (by decide +kernel)) ggX6_best_X6_requireRoom
set_option maxRecDepth 20000 in
theorem ggX6_best_X5_roomsFrom : GoodIn wsX6_best wsX5_roomsFrom := goodIn_r _ [19, 20, 21, 22, 23, 24, 25, 26, 27, 28, 29, 48, 49, 50, 51, 52, 53, 54, 55, 56, 57, 58, 59, 60, 61, 62, 63, 64, 65, 66, 67, 68, 69] (by decide +kernel) (by decide +kernel)
set_option maxRecDepth 20000 in
theorem gX6_best_X5_roomsFrom : GoodIn wsX6_best (wsV RX6 268 RX5 yX5_roomsFrom wsX5_roomsFrom) := goodIn_app (goodIn_of _ (by decide +kernel)) ggX6_best_X5_roomsFrom
set_option maxRecDepth 20000 in
theorem ggX6_best_J6_bitCount_0f7a4 : GoodIn wsX6_best wsJ6_bitCount_0f7a4 := goodIn_r _ [33, 34, 35, 36] (by decide +kernel) (by decide +kernel)
set_option maxRecDepth 20000 in
theorem gX6_best_J6_bitCount_0f7a4 : GoodIn wsX6_best (va_wsS RX6 271 yJ6_bitCount_0f7a4 wsJ6_bitCount_0f7a4) := goodIn_app (goodIn_of _ (by decide +kernel)) ggX6_best_J6_bitCount_0f7a4
theorem dX6_best_0 : decode cX6_best 0 = .ok (.iload_n 1, 1) := by decide +kernel
theorem dX6_best_1 : decode cX6_best 1 = .ok (.invokestatic 253, 3) := by decide +kernel
theorem dX6_best_4 : decode cX6_best 4 = .ok (.aload_n 0, 1) := by decide +kernel
theorem dX6_best_5 : decode cX6_best 5 = .ok (.getfield 29, 3) := by decide +kernel
theorem dX6_best_8 : decode cX6_best 8 = .ok (.aload_n 0, 1) := by decide +kernel
theorem dX6_best_9 : decode cX6_best 9 = .ok (.getfield 10, 3) := by decide +kernel
theorem dX6_best_12 : decode cX6_best 12 = .ok (.iload_n 1, 1) := by decide +kernel
theorem dX6_best_13 : decode cX6_best 13 = .ok (.iconst (-1), 1) := by decide +kernel
theorem dX6_best_14 : decode cX6_best 14 = .ok (.invokevirtual 268, 3) := by decide +kernel
theorem dX6_best_17 : decode cX6_best 17 = .ok (.invokestatic 271, 3) := by decide +kernel
theorem dX6_best_20 : decode cX6_best 20 = .ok (.istore_n 2, 1) := by decide +kernel
theorem dX6_best_21 : decode cX6_best 21 = .ok (.iconst (-1), 1) := by decide +kernel
theorem dX6_best_22 : decode cX6_best 22 = .ok (.istore_n 3, 1) := by decide +kernel
theorem dX6_best_23 : decode cX6_best 23 = .ok (.iconst 0, 1) := by decide +kernel
theorem dX6_best_24 : decode cX6_best 24 = .ok (.istore 4, 2) := by decide +kernel
theorem dX6_best_26 : decode cX6_best 26 = .ok (.iload 4, 2) := by decide +kernel
theorem dX6_best_28 : decode cX6_best 28 = .ok (.aload_n 0, 1) := by decide +kernel
theorem dX6_best_29 : decode cX6_best 29 = .ok (.getfield 10, 3) := by decide +kernel
theorem dX6_best_32 : decode cX6_best 32 = .ok (.getfield 64, 3) := by decide +kernel
theorem dX6_best_35 : decode cX6_best 35 = .ok (.if_icmp .ge 40, 3) := by decide +kernel
theorem dX6_best_38 : decode cX6_best 38 = .ok (.aload_n 0, 1) := by decide +kernel
theorem dX6_best_39 : decode cX6_best 39 = .ok (.getfield 29, 3) := by decide +kernel
theorem dX6_best_42 : decode cX6_best 42 = .ok (.aload_n 0, 1) := by decide +kernel
theorem dX6_best_43 : decode cX6_best 43 = .ok (.getfield 10, 3) := by decide +kernel
theorem dX6_best_46 : decode cX6_best 46 = .ok (.iload_n 1, 1) := by decide +kernel
theorem dX6_best_47 : decode cX6_best 47 = .ok (.iload 4, 2) := by decide +kernel
theorem dX6_best_49 : decode cX6_best 49 = .ok (.invokevirtual 268, 3) := by decide +kernel
theorem dX6_best_52 : decode cX6_best 52 = .ok (.invokestatic 271, 3) := by decide +kernel
theorem dX6_best_55 : decode cX6_best 55 = .ok (.istore 5, 2) := by decide +kernel
theorem dX6_best_57 : decode cX6_best 57 = .ok (.iload 5, 2) := by decide +kernel
theorem dX6_best_59 : decode cX6_best 59 = .ok (.iload_n 2, 1) := by decide +kernel
theorem dX6_best_60 : decode cX6_best 60 = .ok (.if_icmp .le 9, 3) := by decide +kernel
theorem dX6_best_63 : decode cX6_best 63 = .ok (.iload 5, 2) := by decide +kernel
theorem dX6_best_65 : decode cX6_best 65 = .ok (.istore_n 2, 1) := by decide +kernel
theorem dX6_best_66 : decode cX6_best 66 = .ok (.iload 4, 2) := by decide +kernel
theorem dX6_best_68 : decode cX6_best 68 = .ok (.istore_n 3, 1) := by decide +kernel
theorem dX6_best_69 : decode cX6_best 69 = .ok (.iinc 4 1, 3) := by decide +kernel
theorem dX6_best_72 : decode cX6_best 72 = .ok (.goto (-46), 3) := by decide +kernel
theorem dX6_best_75 : decode cX6_best 75 = .ok (.iload_n 3, 1) := by decide +kernel
theorem dX6_best_76 : decode cX6_best 76 = .ok (.iconst (-1), 1) := by decide +kernel
theorem dX6_best_77 : decode cX6_best 77 = .ok (.if_icmp .ne 14, 3) := by decide +kernel
theorem dX6_best_80 : decode cX6_best 80 = .ok (.new 263, 3) := by decide +kernel
theorem dX6_best_83 : decode cX6_best 83 = .ok (.dup, 1) := by decide +kernel
theorem dX6_best_84 : decode cX6_best 84 = .ok (.ldc_w 276, 3) := by decide +kernel
theorem dX6_best_87 : decode cX6_best 87 = .ok (.invokespecial 267, 3) := by decide +kernel
theorem dX6_best_90 : decode cX6_best 90 = .ok (.athrow, 1) := by decide +kernel
theorem dX6_best_91 : decode cX6_best 91 = .ok (.iload_n 3, 1) := by decide +kernel
theorem dX6_best_92 : decode cX6_best 92 = .ok (.ireturn, 1) := by decide +kernel
set_option maxRecDepth 20000 in
theorem ggX6_ranked_X6_isBelow : GoodIn wsX6_ranked wsX6_isBelow := goodIn_r _ [10] (by decide +kernel) (by decide +kernel)
set_option maxRecDepth 20000 in
theorem gX6_ranked_X6_isBelow : GoodIn wsX6_ranked (va_wsS RX6 178 yX6_isBelow wsX6_isBelow) := goodIn_app (goodIn_of _ (by decide +kernel)) ggX6_ranked_X6_isBelow
set_option maxRecDepth 20000 in
theorem ggX6_ranked_X1_doorsAhead : GoodIn wsX6_ranked wsX1_doorsAhead := goodIn_r _ [15, 16, 17, 18, 19, 14, 20, 21, 22, 23, 35, 36, 37, 38, 39, 40, 41, 42, 43, 44, 45, 46, 47, 48, 49, 50, 51, 52, 53, 54, 55, 56] (by decide +kernel) (by decide +kernel)
set_option maxRecDepth 20000 in
theorem gX6_ranked_X1_doorsAhead : GoodIn wsX6_ranked (wsV RX6 280 RX1 yX1_doorsAhead wsX1_doorsAhead) := goodIn_app (goodIn_of _ (by decide +kernel)) ggX6_ranked_X1_doorsAhead
theorem dX6_ranked_0 : decode cX6_ranked 0 = .ok (.iload_n 1, 1) := by decide +kernel
theorem dX6_ranked_1 : decode cX6_ranked 1 = .ok (.iconst 2, 1) := by decide +kernel
theorem dX6_ranked_2 : decode cX6_ranked 2 = .ok (.invokestatic 178, 3) := by decide +kernel
theorem dX6_ranked_5 : decode cX6_ranked 5 = .ok (.ifCond .ne 14, 3) := by decide +kernel
theorem dX6_ranked_8 : decode cX6_ranked 8 = .ok (.new 168, 3) := by decide +kernel
theorem dX6_ranked_11 : decode cX6_ranked 11 = .ok (.dup, 1) := by decide +kernel
theorem dX6_ranked_12 : decode cX6_ranked 12 = .ok (.ldc_w 278, 3) := by decide +kernel
theorem dX6_ranked_15 : decode cX6_ranked 15 = .ok (.invokespecial 172, 3) := by decide +kernel
theorem dX6_ranked_18 : decode cX6_ranked 18 = .ok (.athrow, 1) := by decide +kernel
theorem dX6_ranked_19 : decode cX6_ranked 19 = .ok (.iconst 0, 1) := by decide +kernel
theorem dX6_ranked_20 : decode cX6_ranked 20 = .ok (.istore_n 3, 1) := by decide +kernel
theorem dX6_ranked_21 : decode cX6_ranked 21 = .ok (.iload_n 3, 1) := by decide +kernel
theorem dX6_ranked_22 : decode cX6_ranked 22 = .ok (.aload_n 0, 1) := by decide +kernel
theorem dX6_ranked_23 : decode cX6_ranked 23 = .ok (.getfield 10, 3) := by decide +kernel
theorem dX6_ranked_26 : decode cX6_ranked 26 = .ok (.getfield 64, 3) := by decide +kernel
theorem dX6_ranked_29 : decode cX6_ranked 29 = .ok (.if_icmp .ge 24, 3) := by decide +kernel
theorem dX6_ranked_32 : decode cX6_ranked 32 = .ok (.aload_n 0, 1) := by decide +kernel
theorem dX6_ranked_33 : decode cX6_ranked 33 = .ok (.getfield 10, 3) := by decide +kernel
theorem dX6_ranked_36 : decode cX6_ranked 36 = .ok (.iload_n 3, 1) := by decide +kernel
theorem dX6_ranked_37 : decode cX6_ranked 37 = .ok (.iload_n 1, 1) := by decide +kernel
theorem dX6_ranked_38 : decode cX6_ranked 38 = .ok (.invokevirtual 280, 3) := by decide +kernel
theorem dX6_ranked_41 : decode cX6_ranked 41 = .ok (.iload_n 2, 1) := by decide +kernel
theorem dX6_ranked_42 : decode cX6_ranked 42 = .ok (.if_icmp .ne 5, 3) := by decide +kernel
theorem dX6_ranked_45 : decode cX6_ranked 45 = .ok (.iload_n 3, 1) := by decide +kernel
theorem dX6_ranked_46 : decode cX6_ranked 46 = .ok (.ireturn, 1) := by decide +kernel
theorem dX6_ranked_47 : decode cX6_ranked 47 = .ok (.iinc 3 1, 3) := by decide +kernel
theorem dX6_ranked_50 : decode cX6_ranked 50 = .ok (.goto (-29), 3) := by decide +kernel
theorem dX6_ranked_53 : decode cX6_ranked 53 = .ok (.new 263, 3) := by decide +kernel
theorem dX6_ranked_56 : decode cX6_ranked 56 = .ok (.dup, 1) := by decide +kernel
theorem dX6_ranked_57 : decode cX6_ranked 57 = .ok (.ldc_w 283, 3) := by decide +kernel
theorem dX6_ranked_60 : decode cX6_ranked 60 = .ok (.invokespecial 267, 3) := by decide +kernel
theorem dX6_ranked_63 : decode cX6_ranked 63 = .ok (.athrow, 1) := by decide +kernel
set_option maxRecDepth 20000 in
theorem ggX6_isRight_X6_areFormsRight : GoodIn wsX6_isRight wsX6_areFormsRight := goodIn_ca (goodIn_r _ [5, 6, 7, 8, 9, 10, 11, 12, 13, 14, 15, 16, 17, 18, 19, 20, 21, 22, 23, 24, 25, 26, 27, 28, 29, 30, 31, 32, 33, 34, 35, 36, 37, 38, 39, 40, 41, 42, 43, 44, 45, 46, 47, 48, 49, 50, 51, 52, 53, 54, 55, 56, 57, 58, 59, 60, 61, 62, 63, 64, 65, 66, 67, 68, 69, 4, 70, 71, 72, 73, 74, 75, 76, 77, 78, 79, 80, 81, 82, 83, 84, 85, 86, 87, 88, 89, 90, 136, 137, 138, 139, 140, 141, 142, 143, 144, 145, 146, 147, 148, 149, 150, 151, 152, 153, 154, 155, 156, 157, 158, 159, 160, 161, 162, 163, 164, 165, 166, 167, 168, 169, 170, 171, 172] (by decide +kernel) (by decide +kernel)) (goodIn_sub (fun _ h => List.mem_cons_of_mem _ (List.mem_append_right _ h)) (by decide +kernel))
set_option maxRecDepth 20000 in
theorem gX6_isRight_X6_areFormsRight : GoodIn wsX6_isRight (wsV RX6 285 RX6 yX6_areFormsRight wsX6_areFormsRight) := goodIn_app (goodIn_of _ (by decide +kernel)) ggX6_isRight_X6_areFormsRight
set_option maxRecDepth 20000 in
theorem ggX6_isRight_X6_areWaysRight : GoodIn wsX6_isRight wsX6_areWaysRight := goodIn_ca (goodIn_r _ [94, 95, 6, 96, 97, 98, 99, 100, 101, 102, 103, 104, 105, 106, 107, 108, 109, 110, 11, 111, 13, 112, 113, 114, 69, 4, 70, 115, 116, 117, 118, 119, 120, 121, 122, 123, 136, 137, 138, 139, 140, 141, 142, 143, 144, 145, 146, 173, 174, 147, 148, 149, 150, 151, 152, 153, 154, 155, 156, 157, 158, 159, 160, 161, 162, 163, 164, 165, 166, 167, 168] (by decide +kernel) (by decide +kernel)) (goodIn_sub (fun _ h => List.mem_cons_of_mem _ (List.mem_append_right _ h)) (by decide +kernel))
set_option maxRecDepth 20000 in
theorem gX6_isRight_X6_areWaysRight : GoodIn wsX6_isRight (wsV RX6 289 RX6 yX6_areWaysRight wsX6_areWaysRight) := goodIn_app (goodIn_of _ (by decide +kernel)) ggX6_isRight_X6_areWaysRight
set_option maxRecDepth 20000 in
theorem ggX6_isRight_X6_areDoorsRight : GoodIn wsX6_isRight wsX6_areDoorsRight := goodIn_ca (goodIn_r _ [127, 6, 7, 128, 129, 130, 131, 63, 64, 11, 65, 66, 67, 68, 69, 4, 70, 132, 133, 134, 135, 20, 19, 75, 76, 77, 78, 79, 80, 81, 82, 87, 88, 89, 90, 62, 136, 137, 138, 139, 140, 141, 142, 143, 144, 145, 146, 147, 148, 149, 150, 151, 152, 153, 154, 155, 156, 157, 158, 159, 160, 161, 162, 163, 164, 165, 166, 167, 168] (by decide +kernel) (by decide +kernel)) (goodIn_sub (fun _ h => List.mem_cons_of_mem _ (List.mem_append_right _ h)) (by decide +kernel))
set_option maxRecDepth 20000 in
theorem gX6_isRight_X6_areDoorsRight : GoodIn wsX6_isRight (wsV RX6 292 RX6 yX6_areDoorsRight wsX6_areDoorsRight) := goodIn_app (goodIn_of _ (by decide +kernel)) ggX6_isRight_X6_areDoorsRight
theorem dX6_isRight_0 : decode cX6_isRight 0 = .ok (.aload_n 0, 1) := by decide +kernel
theorem dX6_isRight_1 : decode cX6_isRight 1 = .ok (.invokevirtual 285, 3) := by decide +kernel
theorem dX6_isRight_4 : decode cX6_isRight 4 = .ok (.ifCond .eq 21, 3) := by decide +kernel
theorem dX6_isRight_7 : decode cX6_isRight 7 = .ok (.aload_n 0, 1) := by decide +kernel
theorem dX6_isRight_8 : decode cX6_isRight 8 = .ok (.invokevirtual 289, 3) := by decide +kernel
theorem dX6_isRight_11 : decode cX6_isRight 11 = .ok (.ifCond .eq 14, 3) := by decide +kernel
theorem dX6_isRight_14 : decode cX6_isRight 14 = .ok (.aload_n 0, 1) := by decide +kernel
theorem dX6_isRight_15 : decode cX6_isRight 15 = .ok (.invokevirtual 292, 3) := by decide +kernel
theorem dX6_isRight_18 : decode cX6_isRight 18 = .ok (.ifCond .eq 7, 3) := by decide +kernel
theorem dX6_isRight_21 : decode cX6_isRight 21 = .ok (.iconst 1, 1) := by decide +kernel
theorem dX6_isRight_22 : decode cX6_isRight 22 = .ok (.goto 4, 3) := by decide +kernel
theorem dX6_isRight_25 : decode cX6_isRight 25 = .ok (.iconst 0, 1) := by decide +kernel
theorem dX6_isRight_26 : decode cX6_isRight 26 = .ok (.ireturn, 1) := by decide +kernel
set_option maxRecDepth 20000 in
theorem ggX6_line_X6_requireDoor : GoodIn wsX6_line wsX6_requireDoor := goodIn_ca (goodIn_r _ [14, 15, 16, 1, 17, 18, 19, 20, 21, 22, 23, 13, 24, 108, 109, 110, 111, 112, 113, 114, 115, 116, 117, 118, 119, 120, 121, 122, 123, 124, 125, 126, 127, 128, 129, 130] (by decide +kernel) (by decide +kernel)) (goodIn_sub (fun _ h => List.mem_cons_of_mem _ (List.mem_append_left _ (List.mem_append_right _ h))) (by decide +kernel))
set_option maxRecDepth 20000 in
theorem gX6_line_X6_requireDoor : GoodIn wsX6_line (wsV RX6 125 RX6 yX6_requireDoor wsX6_requireDoor) := goodIn_app (goodIn_of _ (by decide +kernel)) ggX6_line_X6_requireDoor
set_option maxRecDepth 20000 in
theorem ggX6_line_X4_begin : GoodIn wsX6_line wsX4_begin := goodIn_r _ [29, 30, 141, 142] (by decide +kernel) (by decide +kernel)
set_option maxRecDepth 20000 in
theorem gX6_line_X4_begin : GoodIn wsX6_line (wsV RX6 295 RX4 yX4_begin wsX4_begin) := goodIn_app (goodIn_of _ (by decide +kernel)) ggX6_line_X4_begin
set_option maxRecDepth 20000 in
theorem ggX6_line_X1_formSign : GoodIn wsX6_line wsX1_formSign := goodIn_ca (goodIn_r _ [34, 35, 36, 37, 38, 39, 40, 41, 42, 43, 44, 45, 46, 47, 48, 49, 50, 51, 52, 53, 54, 55, 56, 57, 58, 59, 60, 61, 62, 63, 64, 65, 66, 67, 68, 69, 70, 71, 72, 73, 74, 75, 76, 77, 78, 79, 80, 81, 20, 82, 83, 84, 85, 23, 13, 24, 86, 87, 88, 89, 90, 91, 92, 93, 94, 95, 96, 97, 131, 132, 133, 134, 135, 136, 137, 138, 139, 140, 143, 144, 145, 146, 119, 120, 121, 122, 123, 124, 125, 126, 127, 128, 129, 130] (by decide +kernel) (by decide +kernel)) (goodIn_sub (fun _ h => List.mem_cons_of_mem _ (List.mem_append_right _ h)) (by decide +kernel))
set_option maxRecDepth 20000 in
theorem gX6_line_X1_formSign : GoodIn wsX6_line (wsV RX6 298 RX1 yX1_formSign wsX1_formSign) := goodIn_app (goodIn_of _ (by decide +kernel)) ggX6_line_X1_formSign
set_option maxRecDepth 20000 in
theorem ggX6_line_X4_put : GoodIn wsX6_line wsX4_put := goodIn_ca (goodIn_r _ [101, 30, 102, 141, 142] (by decide +kernel) (by decide +kernel)) (goodIn_sub (fun _ h => List.mem_cons_of_mem _ (List.mem_append_right _ h)) (by decide +kernel))
set_option maxRecDepth 20000 in
theorem gX6_line_X4_put : GoodIn wsX6_line (wsV RX6 302 RX4 yX4_put wsX4_put) := goodIn_app (goodIn_of _ (by decide +kernel)) ggX6_line_X4_put
set_option maxRecDepth 20000 in
theorem ggX6_line_X4_putDigit : GoodIn wsX6_line wsX4_putDigit := goodIn_ca (goodIn_r _ [106, 107, 99, 100, 28, 101, 30, 102, 141, 142] (by decide +kernel) (by decide +kernel)) (goodIn_sub (fun _ h => List.mem_cons_of_mem _ (List.mem_append_right _ h)) (by decide +kernel))
set_option maxRecDepth 20000 in
theorem gX6_line_X4_putDigit : GoodIn wsX6_line (wsV RX6 306 RX4 yX4_putDigit wsX4_putDigit) := goodIn_app (goodIn_of _ (by decide +kernel)) ggX6_line_X4_putDigit
theorem dX6_line_0 : decode cX6_line 0 = .ok (.aload_n 0, 1) := by decide +kernel
theorem dX6_line_1 : decode cX6_line 1 = .ok (.iload_n 1, 1) := by decide +kernel
theorem dX6_line_2 : decode cX6_line 2 = .ok (.invokevirtual 125, 3) := by decide +kernel
theorem dX6_line_5 : decode cX6_line 5 = .ok (.aload_n 0, 1) := by decide +kernel
theorem dX6_line_6 : decode cX6_line 6 = .ok (.getfield 10, 3) := by decide +kernel
theorem dX6_line_9 : decode cX6_line 9 = .ok (.getfield 128, 3) := by decide +kernel
theorem dX6_line_12 : decode cX6_line 12 = .ok (.iload_n 1, 1) := by decide +kernel
theorem dX6_line_13 : decode cX6_line 13 = .ok (.aaload, 1) := by decide +kernel
theorem dX6_line_14 : decode cX6_line 14 = .ok (.astore_n 2, 1) := by decide +kernel
theorem dX6_line_15 : decode cX6_line 15 = .ok (.aload_n 0, 1) := by decide +kernel
theorem dX6_line_16 : decode cX6_line 16 = .ok (.getfield 36, 3) := by decide +kernel
theorem dX6_line_19 : decode cX6_line 19 = .ok (.invokevirtual 295, 3) := by decide +kernel
theorem dX6_line_22 : decode cX6_line 22 = .ok (.iconst 0, 1) := by decide +kernel
theorem dX6_line_23 : decode cX6_line 23 = .ok (.istore_n 3, 1) := by decide +kernel
theorem dX6_line_24 : decode cX6_line 24 = .ok (.iload_n 3, 1) := by decide +kernel
theorem dX6_line_25 : decode cX6_line 25 = .ok (.iconst 3, 1) := by decide +kernel
theorem dX6_line_26 : decode cX6_line 26 = .ok (.if_icmp .ge 25, 3) := by decide +kernel
theorem dX6_line_29 : decode cX6_line 29 = .ok (.aload_n 0, 1) := by decide +kernel
theorem dX6_line_30 : decode cX6_line 30 = .ok (.getfield 36, 3) := by decide +kernel
theorem dX6_line_33 : decode cX6_line 33 = .ok (.aload_n 0, 1) := by decide +kernel
theorem dX6_line_34 : decode cX6_line 34 = .ok (.getfield 10, 3) := by decide +kernel
theorem dX6_line_37 : decode cX6_line 37 = .ok (.aload_n 2, 1) := by decide +kernel
theorem dX6_line_38 : decode cX6_line 38 = .ok (.iload_n 3, 1) := by decide +kernel
theorem dX6_line_39 : decode cX6_line 39 = .ok (.invokevirtual 298, 3) := by decide +kernel
theorem dX6_line_42 : decode cX6_line 42 = .ok (.invokevirtual 302, 3) := by decide +kernel
theorem dX6_line_45 : decode cX6_line 45 = .ok (.iinc 3 1, 3) := by decide +kernel
theorem dX6_line_48 : decode cX6_line 48 = .ok (.goto (-24), 3) := by decide +kernel
theorem dX6_line_51 : decode cX6_line 51 = .ok (.aload_n 0, 1) := by decide +kernel
theorem dX6_line_52 : decode cX6_line 52 = .ok (.getfield 36, 3) := by decide +kernel
theorem dX6_line_55 : decode cX6_line 55 = .ok (.aload_n 2, 1) := by decide +kernel
theorem dX6_line_56 : decode cX6_line 56 = .ok (.getfield 159, 3) := by decide +kernel
theorem dX6_line_59 : decode cX6_line 59 = .ok (.invokevirtual 306, 3) := by decide +kernel
theorem dX6_line_62 : decode cX6_line 62 = .ok (.aload_n 0, 1) := by decide +kernel
theorem dX6_line_63 : decode cX6_line 63 = .ok (.getfield 36, 3) := by decide +kernel
theorem dX6_line_66 : decode cX6_line 66 = .ok (.bipush 45, 2) := by decide +kernel
theorem dX6_line_68 : decode cX6_line 68 = .ok (.invokevirtual 302, 3) := by decide +kernel
theorem dX6_line_71 : decode cX6_line 71 = .ok (.aload_n 0, 1) := by decide +kernel
theorem dX6_line_72 : decode cX6_line 72 = .ok (.getfield 36, 3) := by decide +kernel
theorem dX6_line_75 : decode cX6_line 75 = .ok (.aload_n 2, 1) := by decide +kernel
theorem dX6_line_76 : decode cX6_line 76 = .ok (.getfield 162, 3) := by decide +kernel
theorem dX6_line_79 : decode cX6_line 79 = .ok (.invokevirtual 306, 3) := by decide +kernel
theorem dX6_line_82 : decode cX6_line 82 = .ok (.aload_n 2, 1) := by decide +kernel
theorem dX6_line_83 : decode cX6_line 83 = .ok (.getfield 143, 3) := by decide +kernel
theorem dX6_line_86 : decode cX6_line 86 = .ok (.iconst (-1), 1) := by decide +kernel
theorem dX6_line_87 : decode cX6_line 87 = .ok (.if_icmp .eq 23, 3) := by decide +kernel
theorem dX6_line_90 : decode cX6_line 90 = .ok (.aload_n 0, 1) := by decide +kernel
theorem dX6_line_91 : decode cX6_line 91 = .ok (.getfield 36, 3) := by decide +kernel
theorem dX6_line_94 : decode cX6_line 94 = .ok (.bipush 64, 2) := by decide +kernel
theorem dX6_line_96 : decode cX6_line 96 = .ok (.invokevirtual 302, 3) := by decide +kernel
theorem dX6_line_99 : decode cX6_line 99 = .ok (.aload_n 0, 1) := by decide +kernel
theorem dX6_line_100 : decode cX6_line 100 = .ok (.getfield 36, 3) := by decide +kernel
theorem dX6_line_103 : decode cX6_line 103 = .ok (.aload_n 2, 1) := by decide +kernel
theorem dX6_line_104 : decode cX6_line 104 = .ok (.getfield 143, 3) := by decide +kernel
theorem dX6_line_107 : decode cX6_line 107 = .ok (.invokevirtual 306, 3) := by decide +kernel
theorem dX6_line_110 : decode cX6_line 110 = .ok (.aload_n 2, 1) := by decide +kernel
theorem dX6_line_111 : decode cX6_line 111 = .ok (.getfield 156, 3) := by decide +kernel
theorem dX6_line_114 : decode cX6_line 114 = .ok (.ifCond .eq 15, 3) := by decide +kernel
theorem dX6_line_117 : decode cX6_line 117 = .ok (.aload_n 0, 1) := by decide +kernel
theorem dX6_line_118 : decode cX6_line 118 = .ok (.getfield 36, 3) := by decide +kernel
theorem dX6_line_121 : decode cX6_line 121 = .ok (.bipush 43, 2) := by decide +kernel
theorem dX6_line_123 : decode cX6_line 123 = .ok (.invokevirtual 302, 3) := by decide +kernel
theorem dX6_line_126 : decode cX6_line 126 = .ok (.goto 30, 3) := by decide +kernel
theorem dX6_line_129 : decode cX6_line 129 = .ok (.aload_n 2, 1) := by decide +kernel
theorem dX6_line_130 : decode cX6_line 130 = .ok (.getfield 150, 3) := by decide +kernel
theorem dX6_line_133 : decode cX6_line 133 = .ok (.ifCond .le 23, 3) := by decide +kernel
theorem dX6_line_136 : decode cX6_line 136 = .ok (.aload_n 0, 1) := by decide +kernel
theorem dX6_line_137 : decode cX6_line 137 = .ok (.getfield 36, 3) := by decide +kernel
theorem dX6_line_140 : decode cX6_line 140 = .ok (.bipush 33, 2) := by decide +kernel
theorem dX6_line_142 : decode cX6_line 142 = .ok (.invokevirtual 302, 3) := by decide +kernel
theorem dX6_line_145 : decode cX6_line 145 = .ok (.aload_n 0, 1) := by decide +kernel
theorem dX6_line_146 : decode cX6_line 146 = .ok (.getfield 36, 3) := by decide +kernel
theorem dX6_line_149 : decode cX6_line 149 = .ok (.aload_n 2, 1) := by decide +kernel
theorem dX6_line_150 : decode cX6_line 150 = .ok (.getfield 150, 3) := by decide +kernel
theorem dX6_line_153 : decode cX6_line 153 = .ok (.invokevirtual 306, 3) := by decide +kernel
theorem dX6_line_156 : decode cX6_line 156 = .ok (.aload_n 0, 1) := by decide +kernel
theorem dX6_line_157 : decode cX6_line 157 = .ok (.getfield 36, 3) := by decide +kernel
theorem dX6_line_160 : decode cX6_line 160 = .ok (.getfield 309, 3) := by decide +kernel
theorem dX6_line_163 : decode cX6_line 163 = .ok (.ireturn, 1) := by decide +kernel
set_option maxRecDepth 20000 in
theorem ggX6_endings_X6_requireDeclension : GoodIn wsX6_endings wsX6_requireDeclension := goodIn_ca (goodIn_r _ [7, 8, 9, 10, 11, 6, 12] (by decide +kernel) (by decide +kernel)) (goodIn_sub (fun _ h => List.mem_cons_of_mem _ (List.mem_append_left _ (List.mem_append_right _ h))) (by decide +kernel))
set_option maxRecDepth 20000 in
theorem gX6_endings_X6_requireDeclension : GoodIn wsX6_endings (va_wsS RX6 211 yX6_requireDeclension wsX6_requireDeclension) := goodIn_app (goodIn_of _ (by decide +kernel)) ggX6_endings_X6_requireDeclension
set_option maxRecDepth 20000 in
theorem ggX6_endings_X4_begin : GoodIn wsX6_endings wsX4_begin := goodIn_r _ [17, 18, 48, 49] (by decide +kernel) (by decide +kernel)
set_option maxRecDepth 20000 in
theorem gX6_endings_X4_begin : GoodIn wsX6_endings (wsV RX6 295 RX4 yX4_begin wsX4_begin) := goodIn_app (goodIn_of _ (by decide +kernel)) ggX6_endings_X4_begin
set_option maxRecDepth 20000 in
theorem ggX6_endings_X4_put : GoodIn wsX6_endings wsX4_put := goodIn_ca (goodIn_r _ [22, 18, 23, 48, 49] (by decide +kernel) (by decide +kernel)) (goodIn_sub (fun _ h => List.mem_cons_of_mem _ (List.mem_append_right _ h)) (by decide +kernel))
set_option maxRecDepth 20000 in
theorem gX6_endings_X4_put : GoodIn wsX6_endings (wsV RX6 302 RX4 yX4_put wsX4_put) := goodIn_app (goodIn_of _ (by decide +kernel)) ggX6_endings_X4_put
set_option maxRecDepth 20000 in
theorem ggX6_endings_X1_signAt : GoodIn wsX6_endings wsX1_signAt := goodIn_ca (goodIn_r _ [28, 29, 30, 31, 27, 32, 33, 34, 35, 36, 50, 51, 52, 53, 54, 55, 56, 57, 58, 59, 60, 61] (by decide +kernel) (by decide +kernel)) (goodIn_sub (fun _ h => List.mem_cons_of_mem _ (List.mem_append_right _ h)) (by decide +kernel))
set_option maxRecDepth 20000 in
theorem gX6_endings_X1_signAt : GoodIn wsX6_endings (wsV RX6 198 RX1 yX1_signAt wsX1_signAt) := goodIn_app (goodIn_of _ (by decide +kernel)) ggX6_endings_X1_signAt
theorem dX6_endings_0 : decode cX6_endings 0 = .ok (.iload_n 1, 1) := by decide +kernel
theorem dX6_endings_1 : decode cX6_endings 1 = .ok (.invokestatic 211, 3) := by decide +kernel
theorem dX6_endings_4 : decode cX6_endings 4 = .ok (.aload_n 0, 1) := by decide +kernel
theorem dX6_endings_5 : decode cX6_endings 5 = .ok (.getfield 36, 3) := by decide +kernel
theorem dX6_endings_8 : decode cX6_endings 8 = .ok (.invokevirtual 295, 3) := by decide +kernel
theorem dX6_endings_11 : decode cX6_endings 11 = .ok (.iconst 0, 1) := by decide +kernel
theorem dX6_endings_12 : decode cX6_endings 12 = .ok (.istore_n 2, 1) := by decide +kernel
theorem dX6_endings_13 : decode cX6_endings 13 = .ok (.iload_n 2, 1) := by decide +kernel
theorem dX6_endings_14 : decode cX6_endings 14 = .ok (.iconst 2, 1) := by decide +kernel
theorem dX6_endings_15 : decode cX6_endings 15 = .ok (.if_icmp .ge 52, 3) := by decide +kernel
theorem dX6_endings_18 : decode cX6_endings 18 = .ok (.iload_n 2, 1) := by decide +kernel
theorem dX6_endings_19 : decode cX6_endings 19 = .ok (.ifCond .le 12, 3) := by decide +kernel
theorem dX6_endings_22 : decode cX6_endings 22 = .ok (.aload_n 0, 1) := by decide +kernel
theorem dX6_endings_23 : decode cX6_endings 23 = .ok (.getfield 36, 3) := by decide +kernel
theorem dX6_endings_26 : decode cX6_endings 26 = .ok (.bipush 47, 2) := by decide +kernel
theorem dX6_endings_28 : decode cX6_endings 28 = .ok (.invokevirtual 302, 3) := by decide +kernel
theorem dX6_endings_31 : decode cX6_endings 31 = .ok (.iconst 0, 1) := by decide +kernel
theorem dX6_endings_32 : decode cX6_endings 32 = .ok (.istore_n 3, 1) := by decide +kernel
theorem dX6_endings_33 : decode cX6_endings 33 = .ok (.iload_n 3, 1) := by decide +kernel
theorem dX6_endings_34 : decode cX6_endings 34 = .ok (.iconst 4, 1) := by decide +kernel
theorem dX6_endings_35 : decode cX6_endings 35 = .ok (.if_icmp .ge 26, 3) := by decide +kernel
theorem dX6_endings_38 : decode cX6_endings 38 = .ok (.aload_n 0, 1) := by decide +kernel
theorem dX6_endings_39 : decode cX6_endings 39 = .ok (.getfield 36, 3) := by decide +kernel
theorem dX6_endings_42 : decode cX6_endings 42 = .ok (.aload_n 0, 1) := by decide +kernel
theorem dX6_endings_43 : decode cX6_endings 43 = .ok (.getfield 10, 3) := by decide +kernel
theorem dX6_endings_46 : decode cX6_endings 46 = .ok (.iload_n 1, 1) := by decide +kernel
theorem dX6_endings_47 : decode cX6_endings 47 = .ok (.iload_n 3, 1) := by decide +kernel
theorem dX6_endings_48 : decode cX6_endings 48 = .ok (.iload_n 2, 1) := by decide +kernel
theorem dX6_endings_49 : decode cX6_endings 49 = .ok (.invokevirtual 198, 3) := by decide +kernel
theorem dX6_endings_52 : decode cX6_endings 52 = .ok (.invokevirtual 302, 3) := by decide +kernel
theorem dX6_endings_55 : decode cX6_endings 55 = .ok (.iinc 3 1, 3) := by decide +kernel
theorem dX6_endings_58 : decode cX6_endings 58 = .ok (.goto (-25), 3) := by decide +kernel
theorem dX6_endings_61 : decode cX6_endings 61 = .ok (.iinc 2 1, 3) := by decide +kernel
theorem dX6_endings_64 : decode cX6_endings 64 = .ok (.goto (-51), 3) := by decide +kernel
theorem dX6_endings_67 : decode cX6_endings 67 = .ok (.aload_n 0, 1) := by decide +kernel
theorem dX6_endings_68 : decode cX6_endings 68 = .ok (.getfield 36, 3) := by decide +kernel
theorem dX6_endings_71 : decode cX6_endings 71 = .ok (.getfield 309, 3) := by decide +kernel
theorem dX6_endings_74 : decode cX6_endings 74 = .ok (.ireturn, 1) := by decide +kernel
set_option maxRecDepth 20000 in
theorem ggX6_character_X6_isBelow : GoodIn wsX6_character wsX6_isBelow := goodIn_r _ [9] (by decide +kernel) (by decide +kernel)
set_option maxRecDepth 20000 in
theorem gX6_character_X6_isBelow : GoodIn wsX6_character (va_wsS RX6 178 yX6_isBelow wsX6_isBelow) := goodIn_app (goodIn_of _ (by decide +kernel)) ggX6_character_X6_isBelow
theorem dX6_character_0 : decode cX6_character 0 = .ok (.iload_n 1, 1) := by decide +kernel
theorem dX6_character_1 : decode cX6_character 1 = .ok (.aload_n 0, 1) := by decide +kernel
theorem dX6_character_2 : decode cX6_character 2 = .ok (.getfield 36, 3) := by decide +kernel
theorem dX6_character_5 : decode cX6_character 5 = .ok (.getfield 309, 3) := by decide +kernel
theorem dX6_character_8 : decode cX6_character 8 = .ok (.invokestatic 178, 3) := by decide +kernel
theorem dX6_character_11 : decode cX6_character 11 = .ok (.ifCond .ne 14, 3) := by decide +kernel
theorem dX6_character_14 : decode cX6_character 14 = .ok (.new 182, 3) := by decide +kernel
theorem dX6_character_17 : decode cX6_character 17 = .ok (.dup, 1) := by decide +kernel
theorem dX6_character_18 : decode cX6_character 18 = .ok (.ldc_w 312, 3) := by decide +kernel
theorem dX6_character_21 : decode cX6_character 21 = .ok (.invokespecial 186, 3) := by decide +kernel
theorem dX6_character_24 : decode cX6_character 24 = .ok (.athrow, 1) := by decide +kernel
theorem dX6_character_25 : decode cX6_character 25 = .ok (.aload_n 0, 1) := by decide +kernel
theorem dX6_character_26 : decode cX6_character 26 = .ok (.getfield 36, 3) := by decide +kernel
theorem dX6_character_29 : decode cX6_character 29 = .ok (.getfield 314, 3) := by decide +kernel
theorem dX6_character_32 : decode cX6_character 32 = .ok (.iload_n 1, 1) := by decide +kernel
theorem dX6_character_33 : decode cX6_character 33 = .ok (.caload, 1) := by decide +kernel
theorem dX6_character_34 : decode cX6_character 34 = .ok (.ireturn, 1) := by decide +kernel
theorem dX6_refusal_0 : decode cX6_refusal 0 = .ok (.aload_n 0, 1) := by decide +kernel
theorem dX6_refusal_1 : decode cX6_refusal 1 = .ok (.getfield 51, 3) := by decide +kernel
theorem dX6_refusal_4 : decode cX6_refusal 4 = .ok (.ifCond .ne 14, 3) := by decide +kernel
theorem dX6_refusal_7 : decode cX6_refusal 7 = .ok (.new 318, 3) := by decide +kernel
theorem dX6_refusal_10 : decode cX6_refusal 10 = .ok (.dup, 1) := by decide +kernel
theorem dX6_refusal_11 : decode cX6_refusal 11 = .ok (.ldc_w 320, 3) := by decide +kernel
theorem dX6_refusal_14 : decode cX6_refusal 14 = .ok (.invokespecial 322, 3) := by decide +kernel
theorem dX6_refusal_17 : decode cX6_refusal 17 = .ok (.athrow, 1) := by decide +kernel
theorem dX6_refusal_18 : decode cX6_refusal 18 = .ok (.iload_n 1, 1) := by decide +kernel
theorem dX6_refusal_19 : decode cX6_refusal 19 = .ok (.ifCond .eq 10, 3) := by decide +kernel
theorem dX6_refusal_22 : decode cX6_refusal 22 = .ok (.aload_n 0, 1) := by decide +kernel
theorem dX6_refusal_23 : decode cX6_refusal 23 = .ok (.getfield 55, 3) := by decide +kernel
theorem dX6_refusal_26 : decode cX6_refusal 26 = .ok (.goto 7, 3) := by decide +kernel
theorem dX6_refusal_29 : decode cX6_refusal 29 = .ok (.aload_n 0, 1) := by decide +kernel
theorem dX6_refusal_30 : decode cX6_refusal 30 = .ok (.getfield 51, 3) := by decide +kernel
theorem dX6_refusal_33 : decode cX6_refusal 33 = .ok (.ireturn, 1) := by decide +kernel
set_option maxRecDepth 20000 in
theorem ggX6_account_X1_openDoors : GoodIn wsX6_account wsX1_openDoors := goodIn_r _ [19, 20, 21, 22, 48, 49, 50, 51, 52, 53, 54, 55, 56, 57, 58, 59, 69, 70, 71, 72, 73, 74, 75, 76, 77, 78] (by decide +kernel) (by decide +kernel)
set_option maxRecDepth 20000 in
theorem gX6_account_X1_openDoors : GoodIn wsX6_account (wsV RX6 323 RX1 yX1_openDoors wsX1_openDoors) := goodIn_app (goodIn_of _ (by decide +kernel)) ggX6_account_X1_openDoors
set_option maxRecDepth 20000 in
theorem ggX6_account_X1_latchesDown : GoodIn wsX6_account wsX1_latchesDown := goodIn_r _ [26, 20, 21, 27, 48, 49, 50, 51, 52, 53, 54, 55, 56, 57, 58, 59, 69, 70, 71, 72, 73, 74, 75, 76, 77, 78] (by decide +kernel) (by decide +kernel)
set_option maxRecDepth 20000 in
theorem gX6_account_X1_latchesDown : GoodIn wsX6_account (wsV RX6 327 RX1 yX1_latchesDown wsX1_latchesDown) := goodIn_app (goodIn_of _ (by decide +kernel)) ggX6_account_X1_latchesDown
set_option maxRecDepth 20000 in
theorem ggX6_account_X1_unlikeEndings : GoodIn wsX6_account wsX1_unlikeEndings := goodIn_ca (goodIn_r _ [31, 32, 33, 34, 18, 35, 36, 48, 49, 50, 51, 52, 53, 54, 55, 56, 57, 58, 59] (by decide +kernel) (by decide +kernel)) (goodIn_sub (fun _ h => List.mem_cons_of_mem _ (List.mem_append_right _ h)) (by decide +kernel))
set_option maxRecDepth 20000 in
theorem gX6_account_X1_unlikeEndings : GoodIn wsX6_account (wsV RX6 340 RX1 yX1_unlikeEndings wsX1_unlikeEndings) := goodIn_app (goodIn_of _ (by decide +kernel)) ggX6_account_X1_unlikeEndings
theorem dX6_account_0 : decode cX6_account 0 = .ok (.iload_n 1, 1) := by decide +kernel
theorem dX6_account_1 : decode cX6_account 1 = .ok (.tableswitch 179 0 12 #[67, 75, 83, 91, 99, 107, 123, 131, 139, 147, 155, 163, 171], 67) := by decide +kernel
theorem dX6_account_68 : decode cX6_account 68 = .ok (.aload_n 0, 1) := by decide +kernel
theorem dX6_account_69 : decode cX6_account 69 = .ok (.getfield 10, 3) := by decide +kernel
theorem dX6_account_72 : decode cX6_account 72 = .ok (.getfield 64, 3) := by decide +kernel
theorem dX6_account_75 : decode cX6_account 75 = .ok (.ireturn, 1) := by decide +kernel
theorem dX6_account_76 : decode cX6_account 76 = .ok (.aload_n 0, 1) := by decide +kernel
theorem dX6_account_77 : decode cX6_account 77 = .ok (.getfield 10, 3) := by decide +kernel
theorem dX6_account_80 : decode cX6_account 80 = .ok (.getfield 175, 3) := by decide +kernel
theorem dX6_account_83 : decode cX6_account 83 = .ok (.ireturn, 1) := by decide +kernel
theorem dX6_account_84 : decode cX6_account 84 = .ok (.aload_n 0, 1) := by decide +kernel
theorem dX6_account_85 : decode cX6_account 85 = .ok (.getfield 10, 3) := by decide +kernel
theorem dX6_account_88 : decode cX6_account 88 = .ok (.getfield 247, 3) := by decide +kernel
theorem dX6_account_91 : decode cX6_account 91 = .ok (.ireturn, 1) := by decide +kernel
theorem dX6_account_92 : decode cX6_account 92 = .ok (.aload_n 0, 1) := by decide +kernel
theorem dX6_account_93 : decode cX6_account 93 = .ok (.getfield 10, 3) := by decide +kernel
theorem dX6_account_96 : decode cX6_account 96 = .ok (.invokevirtual 323, 3) := by decide +kernel
theorem dX6_account_99 : decode cX6_account 99 = .ok (.ireturn, 1) := by decide +kernel
theorem dX6_account_100 : decode cX6_account 100 = .ok (.aload_n 0, 1) := by decide +kernel
theorem dX6_account_101 : decode cX6_account 101 = .ok (.getfield 10, 3) := by decide +kernel
theorem dX6_account_104 : decode cX6_account 104 = .ok (.invokevirtual 327, 3) := by decide +kernel
theorem dX6_account_107 : decode cX6_account 107 = .ok (.ireturn, 1) := by decide +kernel
theorem dX6_account_108 : decode cX6_account 108 = .ok (.aload_n 0, 1) := by decide +kernel
theorem dX6_account_109 : decode cX6_account 109 = .ok (.getfield 10, 3) := by decide +kernel
theorem dX6_account_112 : decode cX6_account 112 = .ok (.getfield 330, 3) := by decide +kernel
theorem dX6_account_115 : decode cX6_account 115 = .ok (.aload_n 0, 1) := by decide +kernel
theorem dX6_account_116 : decode cX6_account 116 = .ok (.getfield 10, 3) := by decide +kernel
theorem dX6_account_119 : decode cX6_account 119 = .ok (.getfield 333, 3) := by decide +kernel
theorem dX6_account_122 : decode cX6_account 122 = .ok (.iadd, 1) := by decide +kernel
theorem dX6_account_123 : decode cX6_account 123 = .ok (.ireturn, 1) := by decide +kernel
theorem dX6_account_124 : decode cX6_account 124 = .ok (.aload_n 0, 1) := by decide +kernel
theorem dX6_account_125 : decode cX6_account 125 = .ok (.getfield 10, 3) := by decide +kernel
theorem dX6_account_128 : decode cX6_account 128 = .ok (.getfield 330, 3) := by decide +kernel
theorem dX6_account_131 : decode cX6_account 131 = .ok (.ireturn, 1) := by decide +kernel
theorem dX6_account_132 : decode cX6_account 132 = .ok (.aload_n 0, 1) := by decide +kernel
theorem dX6_account_133 : decode cX6_account 133 = .ok (.getfield 10, 3) := by decide +kernel
theorem dX6_account_136 : decode cX6_account 136 = .ok (.getfield 333, 3) := by decide +kernel
theorem dX6_account_139 : decode cX6_account 139 = .ok (.ireturn, 1) := by decide +kernel
theorem dX6_account_140 : decode cX6_account 140 = .ok (.aload_n 0, 1) := by decide +kernel
theorem dX6_account_141 : decode cX6_account 141 = .ok (.getfield 10, 3) := by decide +kernel
theorem dX6_account_144 : decode cX6_account 144 = .ok (.getfield 334, 3) := by decide +kernel
theorem dX6_account_147 : decode cX6_account 147 = .ok (.ireturn, 1) := by decide +kernel
theorem dX6_account_148 : decode cX6_account 148 = .ok (.aload_n 0, 1) := by decide +kernel
theorem dX6_account_149 : decode cX6_account 149 = .ok (.getfield 10, 3) := by decide +kernel
theorem dX6_account_152 : decode cX6_account 152 = .ok (.getfield 337, 3) := by decide +kernel
theorem dX6_account_155 : decode cX6_account 155 = .ok (.ireturn, 1) := by decide +kernel
theorem dX6_account_156 : decode cX6_account 156 = .ok (.aload_n 0, 1) := by decide +kernel
theorem dX6_account_157 : decode cX6_account 157 = .ok (.getfield 10, 3) := by decide +kernel
theorem dX6_account_160 : decode cX6_account 160 = .ok (.invokevirtual 340, 3) := by decide +kernel
theorem dX6_account_163 : decode cX6_account 163 = .ok (.ireturn, 1) := by decide +kernel
theorem dX6_account_164 : decode cX6_account 164 = .ok (.aload_n 0, 1) := by decide +kernel
theorem dX6_account_165 : decode cX6_account 165 = .ok (.getfield 43, 3) := by decide +kernel
theorem dX6_account_168 : decode cX6_account 168 = .ok (.getfield 343, 3) := by decide +kernel
theorem dX6_account_171 : decode cX6_account 171 = .ok (.ireturn, 1) := by decide +kernel
theorem dX6_account_172 : decode cX6_account 172 = .ok (.aload_n 0, 1) := by decide +kernel
theorem dX6_account_173 : decode cX6_account 173 = .ok (.getfield 22, 3) := by decide +kernel
theorem dX6_account_176 : decode cX6_account 176 = .ok (.getfield 344, 3) := by decide +kernel
theorem dX6_account_179 : decode cX6_account 179 = .ok (.ireturn, 1) := by decide +kernel
theorem dX6_account_180 : decode cX6_account 180 = .ok (.new 168, 3) := by decide +kernel
theorem dX6_account_183 : decode cX6_account 183 = .ok (.dup, 1) := by decide +kernel
theorem dX6_account_184 : decode cX6_account 184 = .ok (.ldc_w 347, 3) := by decide +kernel
theorem dX6_account_187 : decode cX6_account 187 = .ok (.invokespecial 172, 3) := by decide +kernel
theorem dX6_account_190 : decode cX6_account 190 = .ok (.athrow, 1) := by decide +kernel
set_option maxRecDepth 20000 in
theorem ggX6_meanKnocks_X1_knocksAtDoors : GoodIn wsX6_meanKnocks wsX1_knocksAtDoors := goodIn_r _ [9, 10, 11, 12, 24, 25, 26, 27, 28, 29, 30, 31, 32, 33, 34, 35, 36, 37, 38, 39, 40, 41, 42, 43, 44, 45] (by decide +kernel) (by decide +kernel)
set_option maxRecDepth 20000 in
theorem gX6_meanKnocks_X1_knocksAtDoors : GoodIn wsX6_meanKnocks (wsV RX6 354 RX1 yX1_knocksAtDoors wsX1_knocksAtDoors) := goodIn_app (goodIn_of _ (by decide +kernel)) ggX6_meanKnocks_X1_knocksAtDoors
theorem dX6_meanKnocks_0 : decode cX6_meanKnocks 0 = .ok (.aload_n 0, 1) := by decide +kernel
theorem dX6_meanKnocks_1 : decode cX6_meanKnocks 1 = .ok (.getfield 10, 3) := by decide +kernel
theorem dX6_meanKnocks_4 : decode cX6_meanKnocks 4 = .ok (.getfield 64, 3) := by decide +kernel
theorem dX6_meanKnocks_7 : decode cX6_meanKnocks 7 = .ok (.ifCond .ne 14, 3) := by decide +kernel
theorem dX6_meanKnocks_10 : decode cX6_meanKnocks 10 = .ok (.new 349, 3) := by decide +kernel
theorem dX6_meanKnocks_13 : decode cX6_meanKnocks 13 = .ok (.dup, 1) := by decide +kernel
theorem dX6_meanKnocks_14 : decode cX6_meanKnocks 14 = .ok (.ldc_w 351, 3) := by decide +kernel
theorem dX6_meanKnocks_17 : decode cX6_meanKnocks 17 = .ok (.invokespecial 353, 3) := by decide +kernel
theorem dX6_meanKnocks_20 : decode cX6_meanKnocks 20 = .ok (.athrow, 1) := by decide +kernel
theorem dX6_meanKnocks_21 : decode cX6_meanKnocks 21 = .ok (.aload_n 0, 1) := by decide +kernel
theorem dX6_meanKnocks_22 : decode cX6_meanKnocks 22 = .ok (.getfield 10, 3) := by decide +kernel
theorem dX6_meanKnocks_25 : decode cX6_meanKnocks 25 = .ok (.invokevirtual 354, 3) := by decide +kernel
theorem dX6_meanKnocks_28 : decode cX6_meanKnocks 28 = .ok (.i2d, 1) := by decide +kernel
theorem dX6_meanKnocks_29 : decode cX6_meanKnocks 29 = .ok (.aload_n 0, 1) := by decide +kernel
theorem dX6_meanKnocks_30 : decode cX6_meanKnocks 30 = .ok (.getfield 10, 3) := by decide +kernel
theorem dX6_meanKnocks_33 : decode cX6_meanKnocks 33 = .ok (.getfield 64, 3) := by decide +kernel
theorem dX6_meanKnocks_36 : decode cX6_meanKnocks 36 = .ok (.i2d, 1) := by decide +kernel
theorem dX6_meanKnocks_37 : decode cX6_meanKnocks 37 = .ok (.ddiv, 1) := by decide +kernel
theorem dX6_meanKnocks_38 : decode cX6_meanKnocks 38 = .ok (.dreturn, 1) := by decide +kernel
theorem dX6_agreedShare_0 : decode cX6_agreedShare 0 = .ok (.aload_n 0, 1) := by decide +kernel
theorem dX6_agreedShare_1 : decode cX6_agreedShare 1 = .ok (.getfield 10, 3) := by decide +kernel
theorem dX6_agreedShare_4 : decode cX6_agreedShare 4 = .ok (.getfield 330, 3) := by decide +kernel
theorem dX6_agreedShare_7 : decode cX6_agreedShare 7 = .ok (.aload_n 0, 1) := by decide +kernel
theorem dX6_agreedShare_8 : decode cX6_agreedShare 8 = .ok (.getfield 10, 3) := by decide +kernel
theorem dX6_agreedShare_11 : decode cX6_agreedShare 11 = .ok (.getfield 333, 3) := by decide +kernel
theorem dX6_agreedShare_14 : decode cX6_agreedShare 14 = .ok (.iadd, 1) := by decide +kernel
theorem dX6_agreedShare_15 : decode cX6_agreedShare 15 = .ok (.istore_n 1, 1) := by decide +kernel
theorem dX6_agreedShare_16 : decode cX6_agreedShare 16 = .ok (.iload_n 1, 1) := by decide +kernel
theorem dX6_agreedShare_17 : decode cX6_agreedShare 17 = .ok (.ifCond .ne 14, 3) := by decide +kernel
theorem dX6_agreedShare_20 : decode cX6_agreedShare 20 = .ok (.new 349, 3) := by decide +kernel
theorem dX6_agreedShare_23 : decode cX6_agreedShare 23 = .ok (.dup, 1) := by decide +kernel
theorem dX6_agreedShare_24 : decode cX6_agreedShare 24 = .ok (.ldc_w 357, 3) := by decide +kernel
theorem dX6_agreedShare_27 : decode cX6_agreedShare 27 = .ok (.invokespecial 353, 3) := by decide +kernel
theorem dX6_agreedShare_30 : decode cX6_agreedShare 30 = .ok (.athrow, 1) := by decide +kernel
theorem dX6_agreedShare_31 : decode cX6_agreedShare 31 = .ok (.aload_n 0, 1) := by decide +kernel
theorem dX6_agreedShare_32 : decode cX6_agreedShare 32 = .ok (.getfield 10, 3) := by decide +kernel
theorem dX6_agreedShare_35 : decode cX6_agreedShare 35 = .ok (.getfield 330, 3) := by decide +kernel
theorem dX6_agreedShare_38 : decode cX6_agreedShare 38 = .ok (.i2f, 1) := by decide +kernel
theorem dX6_agreedShare_39 : decode cX6_agreedShare 39 = .ok (.iload_n 1, 1) := by decide +kernel
theorem dX6_agreedShare_40 : decode cX6_agreedShare 40 = .ok (.i2f, 1) := by decide +kernel
theorem dX6_agreedShare_41 : decode cX6_agreedShare 41 = .ok (.fdiv, 1) := by decide +kernel
theorem dX6_agreedShare_42 : decode cX6_agreedShare 42 = .ok (.freturn, 1) := by decide +kernel
set_option maxRecDepth 20000 in
theorem ggX6_append_X2_addPacked : GoodIn wsX6_append wsX2_addPacked := goodIn_ca (goodIn_r _ [11, 12, 13, 25, 26, 27, 28, 29, 30] (by decide +kernel) (by decide +kernel)) (goodIn_sub (fun _ h => List.mem_cons_of_mem _ (List.mem_append_right _ h)) (by decide +kernel))
set_option maxRecDepth 20000 in
theorem gX6_append_X2_addPacked : GoodIn wsX6_append (wsV RX6 363 RX2 yX2_addPacked wsX2_addPacked) := goodIn_app (goodIn_of _ (by decide +kernel)) ggX6_append_X2_addPacked
theorem dX6_append_0 : decode cX6_append 0 = .ok (.iconst 0, 1) := by decide +kernel
theorem dX6_append_1 : decode cX6_append 1 = .ok (.istore_n 2, 1) := by decide +kernel
theorem dX6_append_2 : decode cX6_append 2 = .ok (.bipush 24, 2) := by decide +kernel
theorem dX6_append_4 : decode cX6_append 4 = .ok (.istore_n 3, 1) := by decide +kernel
theorem dX6_append_5 : decode cX6_append 5 = .ok (.iload_n 3, 1) := by decide +kernel
theorem dX6_append_6 : decode cX6_append 6 = .ok (.ifCond .lt 51, 3) := by decide +kernel
theorem dX6_append_9 : decode cX6_append 9 = .ok (.iload_n 1, 1) := by decide +kernel
theorem dX6_append_10 : decode cX6_append 10 = .ok (.iload_n 3, 1) := by decide +kernel
theorem dX6_append_11 : decode cX6_append 11 = .ok (.iushr, 1) := by decide +kernel
theorem dX6_append_12 : decode cX6_append 12 = .ok (.sipush 255, 3) := by decide +kernel
theorem dX6_append_15 : decode cX6_append 15 = .ok (.iand, 1) := by decide +kernel
theorem dX6_append_16 : decode cX6_append 16 = .ok (.istore 4, 2) := by decide +kernel
theorem dX6_append_18 : decode cX6_append 18 = .ok (.iload 4, 2) := by decide +kernel
theorem dX6_append_20 : decode cX6_append 20 = .ok (.ifCond .eq 31, 3) := by decide +kernel
theorem dX6_append_23 : decode cX6_append 23 = .ok (.iload 4, 2) := by decide +kernel
theorem dX6_append_25 : decode cX6_append 25 = .ok (.bipush 32, 2) := by decide +kernel
theorem dX6_append_27 : decode cX6_append 27 = .ok (.if_icmp .lt 10, 3) := by decide +kernel
theorem dX6_append_30 : decode cX6_append 30 = .ok (.iload 4, 2) := by decide +kernel
theorem dX6_append_32 : decode cX6_append 32 = .ok (.bipush 126, 2) := by decide +kernel
theorem dX6_append_34 : decode cX6_append 34 = .ok (.if_icmp .le 14, 3) := by decide +kernel
theorem dX6_append_37 : decode cX6_append 37 = .ok (.new 168, 3) := by decide +kernel
theorem dX6_append_40 : decode cX6_append 40 = .ok (.dup, 1) := by decide +kernel
theorem dX6_append_41 : decode cX6_append 41 = .ok (.ldc_w 359, 3) := by decide +kernel
theorem dX6_append_44 : decode cX6_append 44 = .ok (.invokespecial 172, 3) := by decide +kernel
theorem dX6_append_47 : decode cX6_append 47 = .ok (.athrow, 1) := by decide +kernel
theorem dX6_append_48 : decode cX6_append 48 = .ok (.iinc 2 1, 3) := by decide +kernel
theorem dX6_append_51 : decode cX6_append 51 = .ok (.iinc 3 (-8), 3) := by decide +kernel
theorem dX6_append_54 : decode cX6_append 54 = .ok (.goto (-49), 3) := by decide +kernel
theorem dX6_append_57 : decode cX6_append 57 = .ok (.aload_n 0, 1) := by decide +kernel
theorem dX6_append_58 : decode cX6_append 58 = .ok (.getfield 43, 3) := by decide +kernel
theorem dX6_append_61 : decode cX6_append 61 = .ok (.getfield 343, 3) := by decide +kernel
theorem dX6_append_64 : decode cX6_append 64 = .ok (.iload_n 2, 1) := by decide +kernel
theorem dX6_append_65 : decode cX6_append 65 = .ok (.iadd, 1) := by decide +kernel
theorem dX6_append_66 : decode cX6_append 66 = .ok (.bipush 60, 2) := by decide +kernel
theorem dX6_append_68 : decode cX6_append 68 = .ok (.if_icmp .le 14, 3) := by decide +kernel
theorem dX6_append_71 : decode cX6_append 71 = .ok (.new 318, 3) := by decide +kernel
theorem dX6_append_74 : decode cX6_append 74 = .ok (.dup, 1) := by decide +kernel
theorem dX6_append_75 : decode cX6_append 75 = .ok (.ldc_w 361, 3) := by decide +kernel
theorem dX6_append_78 : decode cX6_append 78 = .ok (.invokespecial 322, 3) := by decide +kernel
theorem dX6_append_81 : decode cX6_append 81 = .ok (.athrow, 1) := by decide +kernel
theorem dX6_append_82 : decode cX6_append 82 = .ok (.aload_n 0, 1) := by decide +kernel
theorem dX6_append_83 : decode cX6_append 83 = .ok (.getfield 43, 3) := by decide +kernel
theorem dX6_append_86 : decode cX6_append 86 = .ok (.iload_n 1, 1) := by decide +kernel
theorem dX6_append_87 : decode cX6_append 87 = .ok (.invokevirtual 363, 3) := by decide +kernel
theorem dX6_append_90 : decode cX6_append 90 = .ok (.aload_n 0, 1) := by decide +kernel
theorem dX6_append_91 : decode cX6_append 91 = .ok (.getfield 43, 3) := by decide +kernel
theorem dX6_append_94 : decode cX6_append 94 = .ok (.getfield 343, 3) := by decide +kernel
theorem dX6_append_97 : decode cX6_append 97 = .ok (.ireturn, 1) := by decide +kernel
set_option maxRecDepth 20000 in
theorem ggX6_read_X2_countOrders : GoodIn wsX6_read wsX2_countOrders := goodIn_ca (goodIn_r _ [15, 16, 17, 18, 19, 20, 14, 21, 22, 23, 24, 25, 26, 27, 28, 29, 30, 31, 32, 33, 34, 35, 36, 37, 38, 39, 40, 41, 42, 43, 44, 45, 46, 47, 48, 49, 50, 51, 52, 53, 54, 55, 56, 57, 58, 59, 60, 61, 62, 63, 64, 65, 66, 67, 68, 69, 70, 71, 72, 73, 74, 75, 76, 77, 78, 79, 80, 81, 82, 83, 84, 85, 86, 87, 88, 89, 90, 91, 92, 93, 94, 95, 96, 97, 98, 99, 100, 101, 102, 103, 104, 105, 106, 107, 108, 109, 110, 111, 112, 113, 114, 115, 116, 117, 118, 119, 120, 121, 122, 123, 124, 125, 126, 127, 128, 129, 130, 131, 132, 133, 134, 135, 136, 137, 138, 139, 140, 141, 142, 143, 144, 145, 146, 147, 148, 149, 150, 151, 152, 153, 154, 155, 156, 157, 158, 159, 160, 161, 162, 163, 164, 165, 429, 430, 431, 432, 433, 434, 435, 436, 437, 438] (by decide +kernel) (by decide +kernel)) (goodIn_sub (fun _ h => List.mem_cons_of_mem _ (List.mem_append_right _ h)) (by decide +kernel))
set_option maxRecDepth 20000 in
theorem gX6_read_X2_countOrders : GoodIn wsX6_read (wsV RX6 366 RX2 yX2_countOrders wsX2_countOrders) := goodIn_app (goodIn_of _ (by decide +kernel)) ggX6_read_X2_countOrders
set_option maxRecDepth 20000 in
theorem ggX6_read_X2_empty : GoodIn wsX6_read wsX2_empty := goodIn_r _ [169, 17, 429, 430, 431, 432, 433, 434] (by decide +kernel) (by decide +kernel)
set_option maxRecDepth 20000 in
theorem gX6_read_X2_empty : GoodIn wsX6_read (wsV RX6 372 RX2 yX2_empty wsX2_empty) := goodIn_app (goodIn_of _ (by decide +kernel)) ggX6_read_X2_empty
set_option maxRecDepth 20000 in
theorem ggX6_read_X3_stage : GoodIn wsX6_read wsX3_stage := goodIn_r _ [174, 175, 176, 177, 173, 178, 179, 180, 181, 182, 183, 184, 185, 186, 187, 188, 189, 190, 191, 192, 193, 194, 195, 196, 197, 198, 199, 200, 201, 202, 203, 204, 205, 206, 207, 208, 209, 210, 211, 212, 213, 214, 215, 216, 217, 218, 219, 220, 221, 439, 440, 441, 442, 443, 444, 445, 446, 447, 448, 449, 450, 451, 452, 453, 454, 455, 456, 457, 458, 459, 460, 461, 462, 463] (by decide +kernel) (by decide +kernel)
set_option maxRecDepth 20000 in
theorem gX6_read_X3_stage : GoodIn wsX6_read (wsV RX6 377 RX3 yX3_stage wsX3_stage) := goodIn_app (goodIn_of _ (by decide +kernel)) ggX6_read_X3_stage
set_option maxRecDepth 20000 in
theorem ggX6_read_X6_firstRefused : GoodIn wsX6_read wsX6_firstRefused := goodIn_ca (goodIn_r _ [226, 5, 227, 19, 20, 14, 21, 16, 228, 163, 164, 165, 17, 39, 229, 23, 24, 25, 26, 27, 28, 29, 30, 31, 32, 33, 34, 35, 36, 37, 38, 40, 41, 42, 43, 44, 45, 46, 47, 48, 49, 50, 51, 52, 53, 54, 55, 56, 57, 58, 59, 60, 61, 62, 63, 64, 65, 66, 67, 68, 69, 70, 71, 72, 73, 74, 75, 76, 77, 78, 79, 80, 81, 82, 83, 84, 85, 86, 87, 88, 89, 90, 91, 92, 93, 94, 95, 96, 97, 98, 99, 100, 101, 102, 103, 104, 105, 106, 107, 108, 109, 110, 111, 112, 113, 114, 115, 116, 117, 118, 119, 120, 121, 122, 123, 124, 125, 126, 127, 128, 129, 130, 131, 132, 133, 134, 135, 136, 137, 138, 139, 140, 141, 142, 143, 144, 145, 146, 147, 148, 149, 150, 151, 152, 153, 154, 155, 156, 157, 158, 159, 160, 161, 230, 231, 232, 225, 233, 234, 235, 236, 237, 238, 239, 9, 240, 241, 242, 243, 244, 245, 246, 247, 248, 249, 250, 251, 252, 253, 254, 255, 256, 189, 257, 191, 200, 258, 259, 260, 210, 261, 212, 213, 214, 215, 216, 217, 218, 219, 220, 221, 262, 263, 264, 265, 266, 267, 268, 269, 270, 271, 272, 273, 274, 192, 201, 275, 276, 277, 278, 279, 280, 281, 282, 283, 284, 285, 286, 287, 288, 289, 290, 291, 292, 293, 294, 295, 296, 297, 298, 299, 300, 301, 302, 303, 304, 305, 306, 307, 308, 309, 310, 311, 312, 313, 314, 315, 316, 317, 318, 319, 320, 321, 322, 199, 323, 324, 325, 326, 327, 328, 329, 330, 331, 332, 333, 334, 335, 336, 337, 338, 339, 340, 341, 342, 343, 202, 197, 198, 344, 345, 346, 347, 348, 349, 350, 351, 352, 353, 354, 355, 356, 357, 358, 359, 360, 361, 362, 363, 364, 365, 366, 367, 368, 369, 370, 371, 372, 203, 373, 204, 205, 374, 375, 376, 377, 378, 379, 380, 381, 382, 383, 384, 385, 386, 387, 388, 389, 390, 391, 392, 393, 394, 395, 396, 397, 398, 399, 400, 401, 402, 403, 404, 405, 406, 407, 408, 409, 410, 206, 411, 418, 419, 420, 421, 422, 423, 424, 425, 426, 427, 428, 429, 430, 431, 432, 433, 434, 435, 436, 437, 438, 442, 443, 444, 445, 446, 447, 448, 449, 450, 451, 452, 453, 454, 455, 456, 457, 458, 459, 460, 461, 462, 463] (by decide +kernel) (by decide +kernel)) (goodIn_sub (fun _ h => List.mem_cons_of_mem _ (List.mem_append_right _ h)) (by decide +kernel))
set_option maxRecDepth 20000 in
theorem gX6_read_X6_firstRefused : GoodIn wsX6_read (wsV RX6 380 RX6 yX6_firstRefused wsX6_firstRefused) := goodIn_app (goodIn_of _ (by decide +kernel)) ggX6_read_X6_firstRefused
set_option maxRecDepth 20000 in
theorem ggX6_read_X3_staged : GoodIn wsX6_read wsX3_staged := goodIn_r _ [178, 179, 180, 181, 182, 183, 184, 185, 439, 440, 441] (by decide +kernel) (by decide +kernel)
set_option maxRecDepth 20000 in
theorem gX6_read_X3_staged : GoodIn wsX6_read (wsV RX6 383 RX3 yX3_staged wsX3_staged) := goodIn_app (goodIn_of _ (by decide +kernel)) ggX6_read_X3_staged
set_option maxRecDepth 20000 in
theorem ggX6_read_X1_copyFrom : GoodIn wsX6_read wsX1_copyFrom := goodIn_r _ [190, 191, 192, 193, 194, 195, 196, 197, 198, 199, 200, 201, 202, 203, 204, 205, 206, 207, 208, 209, 210, 211, 212, 213, 214, 215, 216, 217, 218, 219, 220, 221, 442, 443, 444, 445, 446, 447, 448, 449, 450, 451, 452, 453, 454, 455, 456, 457, 458, 459, 460, 461, 462, 463] (by decide +kernel) (by decide +kernel)
set_option maxRecDepth 20000 in
theorem gX6_read_X1_copyFrom : GoodIn wsX6_read (wsV RX6 387 RX1 yX1_copyFrom wsX1_copyFrom) := goodIn_app (goodIn_of _ (by decide +kernel)) ggX6_read_X1_copyFrom
set_option maxRecDepth 20000 in
theorem ggX6_read_X3_keepStaged : GoodIn wsX6_read wsX3_keepStaged := goodIn_r _ [417, 181, 180, 182, 183, 184, 185, 439, 440, 441] (by decide +kernel) (by decide +kernel)
set_option maxRecDepth 20000 in
theorem gX6_read_X3_keepStaged : GoodIn wsX6_read (wsV RX6 395 RX3 yX3_keepStaged wsX3_keepStaged) := goodIn_app (goodIn_of _ (by decide +kernel)) ggX6_read_X3_keepStaged
theorem dX6_read_0 : decode cX6_read 0 = .ok (.aload_n 0, 1) := by decide +kernel
theorem dX6_read_1 : decode cX6_read 1 = .ok (.getfield 43, 3) := by decide +kernel
theorem dX6_read_4 : decode cX6_read 4 = .ok (.invokevirtual 366, 3) := by decide +kernel
theorem dX6_read_7 : decode cX6_read 7 = .ok (.istore_n 1, 1) := by decide +kernel
theorem dX6_read_8 : decode cX6_read 8 = .ok (.iload_n 1, 1) := by decide +kernel
theorem dX6_read_9 : decode cX6_read 9 = .ok (.iconst (-1), 1) := by decide +kernel
theorem dX6_read_10 : decode cX6_read 10 = .ok (.if_icmp .ne 32, 3) := by decide +kernel
theorem dX6_read_13 : decode cX6_read 13 = .ok (.aload_n 0, 1) := by decide +kernel
theorem dX6_read_14 : decode cX6_read 14 = .ok (.aload_n 0, 1) := by decide +kernel
theorem dX6_read_15 : decode cX6_read 15 = .ok (.getfield 43, 3) := by decide +kernel
theorem dX6_read_18 : decode cX6_read 18 = .ok (.getfield 369, 3) := by decide +kernel
theorem dX6_read_21 : decode cX6_read 21 = .ok (.putfield 58, 3) := by decide +kernel
theorem dX6_read_24 : decode cX6_read 24 = .ok (.aload_n 0, 1) := by decide +kernel
theorem dX6_read_25 : decode cX6_read 25 = .ok (.getfield 43, 3) := by decide +kernel
theorem dX6_read_28 : decode cX6_read 28 = .ok (.invokevirtual 372, 3) := by decide +kernel
theorem dX6_read_31 : decode cX6_read 31 = .ok (.new 168, 3) := by decide +kernel
theorem dX6_read_34 : decode cX6_read 34 = .ok (.dup, 1) := by decide +kernel
theorem dX6_read_35 : decode cX6_read 35 = .ok (.ldc_w 375, 3) := by decide +kernel
theorem dX6_read_38 : decode cX6_read 38 = .ok (.invokespecial 172, 3) := by decide +kernel
theorem dX6_read_41 : decode cX6_read 41 = .ok (.athrow, 1) := by decide +kernel
theorem dX6_read_42 : decode cX6_read 42 = .ok (.aload_n 0, 1) := by decide +kernel
theorem dX6_read_43 : decode cX6_read 43 = .ok (.getfield 22, 3) := by decide +kernel
theorem dX6_read_46 : decode cX6_read 46 = .ok (.aload_n 0, 1) := by decide +kernel
theorem dX6_read_47 : decode cX6_read 47 = .ok (.getfield 10, 3) := by decide +kernel
theorem dX6_read_50 : decode cX6_read 50 = .ok (.invokevirtual 377, 3) := by decide +kernel
theorem dX6_read_53 : decode cX6_read 53 = .ok (.aload_n 0, 1) := by decide +kernel
theorem dX6_read_54 : decode cX6_read 54 = .ok (.iload_n 1, 1) := by decide +kernel
theorem dX6_read_55 : decode cX6_read 55 = .ok (.invokevirtual 380, 3) := by decide +kernel
theorem dX6_read_58 : decode cX6_read 58 = .ok (.istore_n 2, 1) := by decide +kernel
theorem dX6_read_59 : decode cX6_read 59 = .ok (.aload_n 0, 1) := by decide +kernel
theorem dX6_read_60 : decode cX6_read 60 = .ok (.getfield 43, 3) := by decide +kernel
theorem dX6_read_63 : decode cX6_read 63 = .ok (.invokevirtual 372, 3) := by decide +kernel
theorem dX6_read_66 : decode cX6_read 66 = .ok (.iload_n 2, 1) := by decide +kernel
theorem dX6_read_67 : decode cX6_read 67 = .ok (.iconst (-1), 1) := by decide +kernel
theorem dX6_read_68 : decode cX6_read 68 = .ok (.if_icmp .eq 33, 3) := by decide +kernel
theorem dX6_read_71 : decode cX6_read 71 = .ok (.aload_n 0, 1) := by decide +kernel
theorem dX6_read_72 : decode cX6_read 72 = .ok (.iload_n 2, 1) := by decide +kernel
theorem dX6_read_73 : decode cX6_read 73 = .ok (.putfield 61, 3) := by decide +kernel
theorem dX6_read_76 : decode cX6_read 76 = .ok (.aload_n 0, 1) := by decide +kernel
theorem dX6_read_77 : decode cX6_read 77 = .ok (.getfield 10, 3) := by decide +kernel
theorem dX6_read_80 : decode cX6_read 80 = .ok (.aload_n 0, 1) := by decide +kernel
theorem dX6_read_81 : decode cX6_read 81 = .ok (.getfield 22, 3) := by decide +kernel
theorem dX6_read_84 : decode cX6_read 84 = .ok (.invokevirtual 383, 3) := by decide +kernel
theorem dX6_read_87 : decode cX6_read 87 = .ok (.invokevirtual 387, 3) := by decide +kernel
theorem dX6_read_90 : decode cX6_read 90 = .ok (.new 390, 3) := by decide +kernel
theorem dX6_read_93 : decode cX6_read 93 = .ok (.dup, 1) := by decide +kernel
theorem dX6_read_94 : decode cX6_read 94 = .ok (.ldc_w 392, 3) := by decide +kernel
theorem dX6_read_97 : decode cX6_read 97 = .ok (.invokespecial 394, 3) := by decide +kernel
theorem dX6_read_100 : decode cX6_read 100 = .ok (.athrow, 1) := by decide +kernel
theorem dX6_read_101 : decode cX6_read 101 = .ok (.aload_n 0, 1) := by decide +kernel
theorem dX6_read_102 : decode cX6_read 102 = .ok (.getfield 22, 3) := by decide +kernel
theorem dX6_read_105 : decode cX6_read 105 = .ok (.invokevirtual 395, 3) := by decide +kernel
theorem dX6_read_108 : decode cX6_read 108 = .ok (.iload_n 1, 1) := by decide +kernel
theorem dX6_read_109 : decode cX6_read 109 = .ok (.ireturn, 1) := by decide +kernel
theorem dX6_errorPosition_0 : decode cX6_errorPosition 0 = .ok (.aload_n 0, 1) := by decide +kernel
theorem dX6_errorPosition_1 : decode cX6_errorPosition 1 = .ok (.getfield 58, 3) := by decide +kernel
theorem dX6_errorPosition_4 : decode cX6_errorPosition 4 = .ok (.iconst (-1), 1) := by decide +kernel
theorem dX6_errorPosition_5 : decode cX6_errorPosition 5 = .ok (.if_icmp .ne 14, 3) := by decide +kernel
theorem dX6_errorPosition_8 : decode cX6_errorPosition 8 = .ok (.new 263, 3) := by decide +kernel
theorem dX6_errorPosition_11 : decode cX6_errorPosition 11 = .ok (.dup, 1) := by decide +kernel
theorem dX6_errorPosition_12 : decode cX6_errorPosition 12 = .ok (.ldc_w 398, 3) := by decide +kernel
theorem dX6_errorPosition_15 : decode cX6_errorPosition 15 = .ok (.invokespecial 267, 3) := by decide +kernel
theorem dX6_errorPosition_18 : decode cX6_errorPosition 18 = .ok (.athrow, 1) := by decide +kernel
theorem dX6_errorPosition_19 : decode cX6_errorPosition 19 = .ok (.aload_n 0, 1) := by decide +kernel
theorem dX6_errorPosition_20 : decode cX6_errorPosition 20 = .ok (.getfield 58, 3) := by decide +kernel
theorem dX6_errorPosition_23 : decode cX6_errorPosition 23 = .ok (.ireturn, 1) := by decide +kernel
theorem dX6_refusedItem_0 : decode cX6_refusedItem 0 = .ok (.aload_n 0, 1) := by decide +kernel
theorem dX6_refusedItem_1 : decode cX6_refusedItem 1 = .ok (.getfield 61, 3) := by decide +kernel
theorem dX6_refusedItem_4 : decode cX6_refusedItem 4 = .ok (.iconst (-1), 1) := by decide +kernel
theorem dX6_refusedItem_5 : decode cX6_refusedItem 5 = .ok (.if_icmp .ne 14, 3) := by decide +kernel
theorem dX6_refusedItem_8 : decode cX6_refusedItem 8 = .ok (.new 263, 3) := by decide +kernel
theorem dX6_refusedItem_11 : decode cX6_refusedItem 11 = .ok (.dup, 1) := by decide +kernel
theorem dX6_refusedItem_12 : decode cX6_refusedItem 12 = .ok (.ldc_w 400, 3) := by decide +kernel
theorem dX6_refusedItem_15 : decode cX6_refusedItem 15 = .ok (.invokespecial 267, 3) := by decide +kernel
theorem dX6_refusedItem_18 : decode cX6_refusedItem 18 = .ok (.athrow, 1) := by decide +kernel
theorem dX6_refusedItem_19 : decode cX6_refusedItem 19 = .ok (.aload_n 0, 1) := by decide +kernel
theorem dX6_refusedItem_20 : decode cX6_refusedItem 20 = .ok (.getfield 61, 3) := by decide +kernel
theorem dX6_refusedItem_23 : decode cX6_refusedItem 23 = .ok (.ireturn, 1) := by decide +kernel
set_option maxRecDepth 20000 in
theorem ggX6_undo_X3_takeLatest : GoodIn wsX6_undo wsX3_takeLatest := goodIn_r _ [10, 11, 12, 13, 14, 9, 15, 16, 17, 18, 19, 20, 21, 69, 70, 71] (by decide +kernel) (by decide +kernel)
set_option maxRecDepth 20000 in
theorem gX6_undo_X3_takeLatest : GoodIn wsX6_undo (wsV RX6 404 RX3 yX3_takeLatest wsX3_takeLatest) := goodIn_app (goodIn_of _ (by decide +kernel)) ggX6_undo_X3_takeLatest
set_option maxRecDepth 20000 in
theorem ggX6_undo_X1_copyFrom : GoodIn wsX6_undo wsX1_copyFrom := goodIn_r _ [26, 27, 28, 29, 30, 31, 32, 33, 34, 35, 36, 37, 38, 39, 40, 41, 42, 43, 44, 45, 46, 47, 48, 49, 50, 51, 52, 53, 54, 55, 56, 57, 72, 73, 74, 75, 76, 77, 78, 79, 80, 81, 82, 83, 84, 85, 86, 87, 88, 89, 90, 91, 92, 93] (by decide +kernel) (by decide +kernel)
set_option maxRecDepth 20000 in
theorem gX6_undo_X1_copyFrom : GoodIn wsX6_undo (wsV RX6 387 RX1 yX1_copyFrom wsX1_copyFrom) := goodIn_app (goodIn_of _ (by decide +kernel)) ggX6_undo_X1_copyFrom
theorem dX6_undo_0 : decode cX6_undo 0 = .ok (.aload_n 0, 1) := by decide +kernel
theorem dX6_undo_1 : decode cX6_undo 1 = .ok (.getfield 22, 3) := by decide +kernel
theorem dX6_undo_4 : decode cX6_undo 4 = .ok (.getfield 344, 3) := by decide +kernel
theorem dX6_undo_7 : decode cX6_undo 7 = .ok (.ifCond .ne 14, 3) := by decide +kernel
theorem dX6_undo_10 : decode cX6_undo 10 = .ok (.new 318, 3) := by decide +kernel
theorem dX6_undo_13 : decode cX6_undo 13 = .ok (.dup, 1) := by decide +kernel
theorem dX6_undo_14 : decode cX6_undo 14 = .ok (.ldc_w 402, 3) := by decide +kernel
theorem dX6_undo_17 : decode cX6_undo 17 = .ok (.invokespecial 322, 3) := by decide +kernel
theorem dX6_undo_20 : decode cX6_undo 20 = .ok (.athrow, 1) := by decide +kernel
theorem dX6_undo_21 : decode cX6_undo 21 = .ok (.aload_n 0, 1) := by decide +kernel
theorem dX6_undo_22 : decode cX6_undo 22 = .ok (.getfield 10, 3) := by decide +kernel
theorem dX6_undo_25 : decode cX6_undo 25 = .ok (.aload_n 0, 1) := by decide +kernel
theorem dX6_undo_26 : decode cX6_undo 26 = .ok (.getfield 22, 3) := by decide +kernel
theorem dX6_undo_29 : decode cX6_undo 29 = .ok (.invokevirtual 404, 3) := by decide +kernel
theorem dX6_undo_32 : decode cX6_undo 32 = .ok (.invokevirtual 387, 3) := by decide +kernel
theorem dX6_undo_35 : decode cX6_undo 35 = .ok (.aload_n 0, 1) := by decide +kernel
theorem dX6_undo_36 : decode cX6_undo 36 = .ok (.getfield 22, 3) := by decide +kernel
theorem dX6_undo_39 : decode cX6_undo 39 = .ok (.getfield 344, 3) := by decide +kernel
theorem dX6_undo_42 : decode cX6_undo 42 = .ok (.ireturn, 1) := by decide +kernel
set_option maxRecDepth 20000 in
theorem ggX6_snapshot_X1_copyFrom : GoodIn wsX6_snapshot wsX1_copyFrom := goodIn_r _ [9, 10, 11, 12, 13, 14, 15, 16, 17, 18, 19, 20, 21, 22, 23, 24, 25, 26, 27, 28, 29, 30, 31, 32, 33, 34, 35, 36, 37, 38, 39, 40, 52, 53, 54, 55, 56, 57, 58, 59, 60, 61, 62, 63, 64, 65, 66, 67, 68, 69, 70, 71, 72, 73] (by decide +kernel) (by decide +kernel)
set_option maxRecDepth 20000 in
theorem gX6_snapshot_X1_copyFrom : GoodIn wsX6_snapshot (wsV RX6 387 RX1 yX1_copyFrom wsX1_copyFrom) := goodIn_app (goodIn_of _ (by decide +kernel)) ggX6_snapshot_X1_copyFrom
theorem dX6_snapshot_0 : decode cX6_snapshot 0 = .ok (.aload_n 0, 1) := by decide +kernel
theorem dX6_snapshot_1 : decode cX6_snapshot 1 = .ok (.getfield 16, 3) := by decide +kernel
theorem dX6_snapshot_4 : decode cX6_snapshot 4 = .ok (.aload_n 0, 1) := by decide +kernel
theorem dX6_snapshot_5 : decode cX6_snapshot 5 = .ok (.getfield 10, 3) := by decide +kernel
theorem dX6_snapshot_8 : decode cX6_snapshot 8 = .ok (.invokevirtual 387, 3) := by decide +kernel
theorem dX6_snapshot_11 : decode cX6_snapshot 11 = .ok (.aload_n 0, 1) := by decide +kernel
theorem dX6_snapshot_12 : decode cX6_snapshot 12 = .ok (.iconst 1, 1) := by decide +kernel
theorem dX6_snapshot_13 : decode cX6_snapshot 13 = .ok (.putfield 47, 3) := by decide +kernel
theorem dX6_snapshot_16 : decode cX6_snapshot 16 = .ok (.aload_n 0, 1) := by decide +kernel
theorem dX6_snapshot_17 : decode cX6_snapshot 17 = .ok (.getfield 10, 3) := by decide +kernel
theorem dX6_snapshot_20 : decode cX6_snapshot 20 = .ok (.getfield 64, 3) := by decide +kernel
theorem dX6_snapshot_23 : decode cX6_snapshot 23 = .ok (.ireturn, 1) := by decide +kernel
set_option maxRecDepth 20000 in
theorem ggX6_restore_X1_copyFrom : GoodIn wsX6_restore wsX1_copyFrom := goodIn_r _ [12, 13, 14, 15, 16, 17, 18, 19, 20, 21, 22, 23, 24, 25, 26, 27, 28, 29, 30, 31, 32, 33, 34, 35, 36, 37, 38, 39, 40, 41, 42, 43, 61, 62, 63, 64, 65, 66, 67, 68, 69, 70, 71, 72, 73, 74, 75, 76, 77, 78, 79, 80, 81, 82] (by decide +kernel) (by decide +kernel)
set_option maxRecDepth 20000 in
theorem gX6_restore_X1_copyFrom : GoodIn wsX6_restore (wsV RX6 387 RX1 yX1_copyFrom wsX1_copyFrom) := goodIn_app (goodIn_of _ (by decide +kernel)) ggX6_restore_X1_copyFrom
set_option maxRecDepth 20000 in
theorem ggX6_restore_X3_forgetAll : GoodIn wsX6_restore wsX3_forgetAll := goodIn_r _ [48, 49, 83, 84, 85] (by decide +kernel) (by decide +kernel)
set_option maxRecDepth 20000 in
theorem gX6_restore_X3_forgetAll : GoodIn wsX6_restore (wsV RX6 70 RX3 yX3_forgetAll wsX3_forgetAll) := goodIn_app (goodIn_of _ (by decide +kernel)) ggX6_restore_X3_forgetAll
theorem dX6_restore_0 : decode cX6_restore 0 = .ok (.aload_n 0, 1) := by decide +kernel
theorem dX6_restore_1 : decode cX6_restore 1 = .ok (.getfield 47, 3) := by decide +kernel
theorem dX6_restore_4 : decode cX6_restore 4 = .ok (.ifCond .ne 14, 3) := by decide +kernel
theorem dX6_restore_7 : decode cX6_restore 7 = .ok (.new 318, 3) := by decide +kernel
theorem dX6_restore_10 : decode cX6_restore 10 = .ok (.dup, 1) := by decide +kernel
theorem dX6_restore_11 : decode cX6_restore 11 = .ok (.ldc_w 407, 3) := by decide +kernel
theorem dX6_restore_14 : decode cX6_restore 14 = .ok (.invokespecial 322, 3) := by decide +kernel
theorem dX6_restore_17 : decode cX6_restore 17 = .ok (.athrow, 1) := by decide +kernel
theorem dX6_restore_18 : decode cX6_restore 18 = .ok (.aload_n 0, 1) := by decide +kernel
theorem dX6_restore_19 : decode cX6_restore 19 = .ok (.getfield 10, 3) := by decide +kernel
theorem dX6_restore_22 : decode cX6_restore 22 = .ok (.aload_n 0, 1) := by decide +kernel
theorem dX6_restore_23 : decode cX6_restore 23 = .ok (.getfield 16, 3) := by decide +kernel
theorem dX6_restore_26 : decode cX6_restore 26 = .ok (.invokevirtual 387, 3) := by decide +kernel
theorem dX6_restore_29 : decode cX6_restore 29 = .ok (.aload_n 0, 1) := by decide +kernel
theorem dX6_restore_30 : decode cX6_restore 30 = .ok (.getfield 22, 3) := by decide +kernel
theorem dX6_restore_33 : decode cX6_restore 33 = .ok (.invokevirtual 70, 3) := by decide +kernel
theorem dX6_restore_36 : decode cX6_restore 36 = .ok (.aload_n 0, 1) := by decide +kernel
theorem dX6_restore_37 : decode cX6_restore 37 = .ok (.getfield 10, 3) := by decide +kernel
theorem dX6_restore_40 : decode cX6_restore 40 = .ok (.getfield 64, 3) := by decide +kernel
theorem dX6_restore_43 : decode cX6_restore 43 = .ok (.ireturn, 1) := by decide +kernel
theorem dX6_isBelow_0 : decode cX6_isBelow 0 = .ok (.iload_n 0, 1) := by decide +kernel
theorem dX6_isBelow_1 : decode cX6_isBelow 1 = .ok (.ifCond .lt 12, 3) := by decide +kernel
theorem dX6_isBelow_4 : decode cX6_isBelow 4 = .ok (.iload_n 0, 1) := by decide +kernel
theorem dX6_isBelow_5 : decode cX6_isBelow 5 = .ok (.iload_n 1, 1) := by decide +kernel
theorem dX6_isBelow_6 : decode cX6_isBelow 6 = .ok (.if_icmp .ge 7, 3) := by decide +kernel
theorem dX6_isBelow_9 : decode cX6_isBelow 9 = .ok (.iconst 1, 1) := by decide +kernel
theorem dX6_isBelow_10 : decode cX6_isBelow 10 = .ok (.goto 4, 3) := by decide +kernel
theorem dX6_isBelow_13 : decode cX6_isBelow 13 = .ok (.iconst 0, 1) := by decide +kernel
theorem dX6_isBelow_14 : decode cX6_isBelow 14 = .ok (.ireturn, 1) := by decide +kernel
theorem dX6_numberOf_0 : decode cX6_numberOf 0 = .ok (.iload_n 0, 1) := by decide +kernel
theorem dX6_numberOf_1 : decode cX6_numberOf 1 = .ok (.ifCond .eq 7, 3) := by decide +kernel
theorem dX6_numberOf_4 : decode cX6_numberOf 4 = .ok (.iconst 1, 1) := by decide +kernel
theorem dX6_numberOf_5 : decode cX6_numberOf 5 = .ok (.goto 4, 3) := by decide +kernel
theorem dX6_numberOf_8 : decode cX6_numberOf 8 = .ok (.iconst 0, 1) := by decide +kernel
theorem dX6_numberOf_9 : decode cX6_numberOf 9 = .ok (.ireturn, 1) := by decide +kernel
set_option maxRecDepth 20000 in
theorem ggX6_requireDoor_X1_isDoor : GoodIn wsX6_requireDoor wsX1_isDoor := goodIn_r _ [8, 9, 10, 11, 12, 24, 25, 26, 27, 28, 29, 30, 31, 32, 33, 34, 35] (by decide +kernel) (by decide +kernel)
set_option maxRecDepth 20000 in
theorem gX6_requireDoor_X1_isDoor : GoodIn wsX6_requireDoor (wsV RX6 409 RX1 yX1_isDoor wsX1_isDoor) := goodIn_app (goodIn_of _ (by decide +kernel)) ggX6_requireDoor_X1_isDoor
theorem dX6_requireDoor_0 : decode cX6_requireDoor 0 = .ok (.aload_n 0, 1) := by decide +kernel
theorem dX6_requireDoor_1 : decode cX6_requireDoor 1 = .ok (.getfield 10, 3) := by decide +kernel
theorem dX6_requireDoor_4 : decode cX6_requireDoor 4 = .ok (.iload_n 1, 1) := by decide +kernel
theorem dX6_requireDoor_5 : decode cX6_requireDoor 5 = .ok (.invokevirtual 409, 3) := by decide +kernel
theorem dX6_requireDoor_8 : decode cX6_requireDoor 8 = .ok (.ifCond .ne 14, 3) := by decide +kernel
theorem dX6_requireDoor_11 : decode cX6_requireDoor 11 = .ok (.new 182, 3) := by decide +kernel
theorem dX6_requireDoor_14 : decode cX6_requireDoor 14 = .ok (.dup, 1) := by decide +kernel
theorem dX6_requireDoor_15 : decode cX6_requireDoor 15 = .ok (.ldc_w 413, 3) := by decide +kernel
theorem dX6_requireDoor_18 : decode cX6_requireDoor 18 = .ok (.invokespecial 186, 3) := by decide +kernel
theorem dX6_requireDoor_21 : decode cX6_requireDoor 21 = .ok (.athrow, 1) := by decide +kernel
theorem dX6_requireDoor_22 : decode cX6_requireDoor 22 = .ok (.return_, 1) := by decide +kernel
set_option maxRecDepth 20000 in
theorem ggX6_requireRoom_X6_isBelow : GoodIn wsX6_requireRoom wsX6_isBelow := goodIn_r _ [6] (by decide +kernel) (by decide +kernel)
set_option maxRecDepth 20000 in
theorem gX6_requireRoom_X6_isBelow : GoodIn wsX6_requireRoom (va_wsS RX6 178 yX6_isBelow wsX6_isBelow) := goodIn_app (goodIn_of _ (by decide +kernel)) ggX6_requireRoom_X6_isBelow
theorem dX6_requireRoom_0 : decode cX6_requireRoom 0 = .ok (.iload_n 0, 1) := by decide +kernel
theorem dX6_requireRoom_1 : decode cX6_requireRoom 1 = .ok (.bipush 6, 2) := by decide +kernel
theorem dX6_requireRoom_3 : decode cX6_requireRoom 3 = .ok (.invokestatic 178, 3) := by decide +kernel
theorem dX6_requireRoom_6 : decode cX6_requireRoom 6 = .ok (.ifCond .ne 14, 3) := by decide +kernel
theorem dX6_requireRoom_9 : decode cX6_requireRoom 9 = .ok (.new 182, 3) := by decide +kernel
theorem dX6_requireRoom_12 : decode cX6_requireRoom 12 = .ok (.dup, 1) := by decide +kernel
theorem dX6_requireRoom_13 : decode cX6_requireRoom 13 = .ok (.ldc_w 415, 3) := by decide +kernel
theorem dX6_requireRoom_16 : decode cX6_requireRoom 16 = .ok (.invokespecial 186, 3) := by decide +kernel
theorem dX6_requireRoom_19 : decode cX6_requireRoom 19 = .ok (.athrow, 1) := by decide +kernel
theorem dX6_requireRoom_20 : decode cX6_requireRoom 20 = .ok (.return_, 1) := by decide +kernel
set_option maxRecDepth 20000 in
theorem ggX6_requireDeclension_X6_isBelow : GoodIn wsX6_requireDeclension wsX6_isBelow := goodIn_r _ [6] (by decide +kernel) (by decide +kernel)
set_option maxRecDepth 20000 in
theorem gX6_requireDeclension_X6_isBelow : GoodIn wsX6_requireDeclension (va_wsS RX6 178 yX6_isBelow wsX6_isBelow) := goodIn_app (goodIn_of _ (by decide +kernel)) ggX6_requireDeclension_X6_isBelow
theorem dX6_requireDeclension_0 : decode cX6_requireDeclension 0 = .ok (.iload_n 0, 1) := by decide +kernel
theorem dX6_requireDeclension_1 : decode cX6_requireDeclension 1 = .ok (.iconst 3, 1) := by decide +kernel
theorem dX6_requireDeclension_2 : decode cX6_requireDeclension 2 = .ok (.invokestatic 178, 3) := by decide +kernel
theorem dX6_requireDeclension_5 : decode cX6_requireDeclension 5 = .ok (.ifCond .ne 14, 3) := by decide +kernel
theorem dX6_requireDeclension_8 : decode cX6_requireDeclension 8 = .ok (.new 168, 3) := by decide +kernel
theorem dX6_requireDeclension_11 : decode cX6_requireDeclension 11 = .ok (.dup, 1) := by decide +kernel
theorem dX6_requireDeclension_12 : decode cX6_requireDeclension 12 = .ok (.ldc_w 417, 3) := by decide +kernel
theorem dX6_requireDeclension_15 : decode cX6_requireDeclension 15 = .ok (.invokespecial 172, 3) := by decide +kernel
theorem dX6_requireDeclension_18 : decode cX6_requireDeclension 18 = .ok (.athrow, 1) := by decide +kernel
theorem dX6_requireDeclension_19 : decode cX6_requireDeclension 19 = .ok (.return_, 1) := by decide +kernel
theorem dX6_throwFault_0 : decode cX6_throwFault 0 = .ok (.iload_n 0, 1) := by decide +kernel
theorem dX6_throwFault_1 : decode cX6_throwFault 1 = .ok (.iconst 1, 1) := by decide +kernel
theorem dX6_throwFault_2 : decode cX6_throwFault 2 = .ok (.if_icmp .ne 14, 3) := by decide +kernel
theorem dX6_throwFault_5 : decode cX6_throwFault 5 = .ok (.new 168, 3) := by decide +kernel
theorem dX6_throwFault_8 : decode cX6_throwFault 8 = .ok (.dup, 1) := by decide +kernel
theorem dX6_throwFault_9 : decode cX6_throwFault 9 = .ok (.ldc_w 419, 3) := by decide +kernel
theorem dX6_throwFault_12 : decode cX6_throwFault 12 = .ok (.invokespecial 172, 3) := by decide +kernel
theorem dX6_throwFault_15 : decode cX6_throwFault 15 = .ok (.athrow, 1) := by decide +kernel
theorem dX6_throwFault_16 : decode cX6_throwFault 16 = .ok (.iload_n 0, 1) := by decide +kernel
theorem dX6_throwFault_17 : decode cX6_throwFault 17 = .ok (.iconst 2, 1) := by decide +kernel
