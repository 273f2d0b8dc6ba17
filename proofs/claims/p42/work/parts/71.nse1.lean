def rxNSE : ByteArray := ⟨#[0x2a, 0x2b, 0xb7, 0x00, 0x0d, 0xb1]⟩
theorem rxNSE_ok : decode rxNSE 0 = .ok (.aload_n 0, 1) ∧ decode rxNSE 1 = .ok (.aload_n 1, 1) ∧ decode rxNSE 2 = .ok (.invokespecial 13, 3) ∧ decode rxNSE 5 = .ok (.return_, 1) ∧ Bundle.fit "java/lang/RuntimeException" = true := by decide +kernel
set_option maxRecDepth 100000 in
theorem nNSE_bad : ((nxAt RX6 267 "java/util/NoSuchElementException" 13 rxNSE "java/lang/RuntimeException" ["java/lang/Exception"]).filter (fun w => !goodWord w)).all (fun w => decide (w ∈ Cond.castable "java/util/NoSuchElementException" "java/util/NoSuchElementException" :: xDs.map Cond.declares)) = true := by decide +kernel
set_option maxRecDepth 100000 in
theorem nNSE_ok : (Cond.classLink RX6 263 "java/util/NoSuchElementException" :: Cond.initialized "java/util/NoSuchElementException" :: (nxAt RX6 267 "java/util/NoSuchElementException" 13 rxNSE "java/lang/RuntimeException" ["java/lang/Exception"])).all vx_ot = true := by decide +kernel
theorem nNSE_fit : Bundle.fit "java/util/NoSuchElementException" = true ∧ ∀ n ∈ ["java/lang/Exception"], Bundle.fit n = true := by decide +kernel

def wsNX6_errorPosition : List Cond := .code yX6_errorPosition cX6_errorPosition 1 (some .int) :: ([.classLink RX6 263 "java/util/NoSuchElementException", .initialized "java/util/NoSuchElementException", .fieldLink RX6 58 "DoorDialect" "malformedAt" "I"] ++ wsX60 ++ (nxAt RX6 267 "java/util/NoSuchElementException" 13 rxNSE "java/lang/RuntimeException" ["java/lang/Exception"]).filter goodWord)
def wsNX6_refusedItem : List Cond := .code yX6_refusedItem cX6_refusedItem 1 (some .int) :: ([.classLink RX6 263 "java/util/NoSuchElementException", .initialized "java/util/NoSuchElementException", .fieldLink RX6 61 "DoorDialect" "refusedOrder" "I"] ++ wsX60 ++ (nxAt RX6 267 "java/util/NoSuchElementException" 13 rxNSE "java/lang/RuntimeException" ["java/lang/Exception"]).filter goodWord)
def wsNX6_ranked : List Cond := .code yX6_ranked cX6_ranked 4 (some .int) :: ([.classLink RX6 168 "java/lang/IllegalArgumentException", .initialized "java/lang/IllegalArgumentException", .classLink RX6 263 "java/util/NoSuchElementException", .initialized "java/util/NoSuchElementException", .fieldLink RX6 10 "DoorDialect" "house" "LDoorDialect$House;", .fieldLink RX6 64 "DoorDialect$House" "doorCount" "I", .methodLink RX6 178 yX6_isBelow, .static yX6_isBelow, .initialized RX6, .code yX6_isBelow cX6_isBelow 2 (some .boolean), .methodLink RX6 280 yX1_doorsAhead, .instanceMethod yX1_doorsAhead, .selects RX1 yX1_doorsAhead yX1_doorsAhead, .initialized RX1, .code yX1_doorsAhead cX1_doorsAhead 7 (some .int), .fieldLink RX1 34 "DoorDialect$House" "doorCount" "I", .methodLink RX1 145 yX1_measured, .instanceMethod yX1_measured, .selects RX1 yX1_measured yX1_measured, .code yX1_measured cX1_measured 3 (some .int), .fieldLink RX1 11 "DoorDialect$House" "doors" "[LDoorDialect$Door;", .fieldLink RX1 127 "DoorDialect$Door" "knocks" "I", .fieldLink RX1 134 "DoorDialect$Door" "wrongKnocks" "I"] ++ wsX60 ++ wsX10 ++ wsX00 ++ (vx_atS RX6 172 "java/lang/IllegalArgumentException" ["java/lang/RuntimeException", "java/lang/Exception"]).filter goodWord ++ (nxAt RX6 267 "java/util/NoSuchElementException" 13 rxNSE "java/lang/RuntimeException" ["java/lang/Exception"]).filter goodWord)
def wsNX6_way : List Cond := .code yX6_way cX6_way 5 (some .int) :: ((wsX6_way_r1 ++ wsX6_way_r2) ++ wsX60 ++ wsX10 ++ wsX00 ++ wsX50 ++ (nxAt RX6 267 "java/util/NoSuchElementException" 13 rxNSE "java/lang/RuntimeException" ["java/lang/Exception"]).filter goodWord ++ (vx_atS RX6 186 "java/lang/IndexOutOfBoundsException" ["java/lang/RuntimeException", "java/lang/Exception"]).filter goodWord ++ (vx_atM "java/lang/ArrayIndexOutOfBoundsException" ["java/lang/IndexOutOfBoundsException", "java/lang/RuntimeException", "java/lang/Exception"]).filter goodWord)
def wsNX6_best : List Cond := .code yX6_best cX6_best 6 (some .int) :: ((wsX6_best_r1 ++ wsX6_best_r2) ++ wsX60 ++ wsX10 ++ wsX00 ++ (nxAt RX6 267 "java/util/NoSuchElementException" 13 rxNSE "java/lang/RuntimeException" ["java/lang/Exception"]).filter goodWord ++ (vx_atS RX6 186 "java/lang/IndexOutOfBoundsException" ["java/lang/RuntimeException", "java/lang/Exception"]).filter goodWord)
set_option maxRecDepth 20000 in
theorem ggNX6_way_X6_requireRoom : GoodIn wsNX6_way wsX6_requireRoom := goodIn_ca (goodIn_r _ [8, 9, 10, 11, 12, 7, 13] (by decide +kernel) (by decide +kernel)) (goodIn_sub (fun _ h => List.mem_cons_of_mem _ (List.mem_append_left _ (List.mem_append_right _ h))) (by decide +kernel))
set_option maxRecDepth 20000 in
theorem gNX6_way_X6_requireRoom : GoodIn wsNX6_way (va_wsS RX6 253 yX6_requireRoom wsX6_requireRoom) := goodIn_app (goodIn_of _ (by decide +kernel)) ggNX6_way_X6_requireRoom
set_option maxRecDepth 20000 in
theorem ggNX6_way_X5_passedBySets : GoodIn wsNX6_way wsX5_passedBySets := goodIn_r _ [18, 19, 20, 21, 22, 23, 24, 25, 26, 27, 28, 55, 56, 57, 58, 59, 60, 61, 62, 63, 64, 65, 66, 67, 68, 69, 70, 71, 72, 73, 74, 75, 76] (by decide +kernel) (by decide +kernel)
set_option maxRecDepth 20000 in
theorem gNX6_way_X5_passedBySets : GoodIn wsNX6_way (wsV RX6 256 RX5 yX5_passedBySets wsX5_passedBySets) := goodIn_app (goodIn_of _ (by decide +kernel)) ggNX6_way_X5_passedBySets
set_option maxRecDepth 20000 in
theorem ggNX6_way_X5_passedByRooms : GoodIn wsNX6_way wsX5_passedByRooms := goodIn_ca (goodIn_r _ [32, 33, 34, 35, 36, 37, 17, 38, 39, 40, 41, 42, 22, 43, 25, 26, 27, 28, 12, 7, 13, 77, 78, 55, 56, 57, 58, 59, 60, 61, 62, 63, 64, 65, 66, 67, 68, 69, 70, 71, 72, 73, 74, 75, 76] (by decide +kernel) (by decide +kernel)) (goodIn_sub (fun _ h => List.mem_cons_of_mem _ (List.mem_append_right _ h)) (by decide +kernel))
set_option maxRecDepth 20000 in
theorem gNX6_way_X5_passedByRooms : GoodIn wsNX6_way (wsV RX6 260 RX5 yX5_passedByRooms wsX5_passedByRooms) := goodIn_app (goodIn_of _ (by decide +kernel)) ggNX6_way_X5_passedByRooms
set_option maxRecDepth 20000 in
theorem ggNX6_best_X6_requireRoom : GoodIn wsNX6_best wsX6_requireRoom := goodIn_ca (goodIn_r _ [9, 10, 11, 12, 13, 8, 14] (by decide +kernel) (by decide +kernel)) (goodIn_sub (fun _ h => List.mem_cons_of_mem _ (List.mem_append_right _ h)) (by decide +kernel))
set_option maxRecDepth 20000 in
theorem gNX6_best_X6_requireRoom : GoodIn wsNX6_best (va_wsS RX6 253 yX6_requireRoom wsX6_requireRoom) := goodIn_app (goodIn_of _ (by decide +kernel)) ggNX6_best_X6_requireRoom
set_option maxRecDepth 20000 in
theorem ggNX6_best_X5_roomsFrom : GoodIn wsNX6_best wsX5_roomsFrom := goodIn_r _ [19, 20, 21, 22, 23, 24, 25, 26, 27, 28, 29, 48, 49, 50, 51, 52, 53, 54, 55, 56, 57, 58, 59, 60, 61, 62, 63, 64, 65, 66, 67, 68, 69] (by decide +kernel) (by decide +kernel)
set_option maxRecDepth 20000 in
theorem gNX6_best_X5_roomsFrom : GoodIn wsNX6_best (wsV RX6 268 RX5 yX5_roomsFrom wsX5_roomsFrom) := goodIn_app (goodIn_of _ (by decide +kernel)) ggNX6_best_X5_roomsFrom
set_option maxRecDepth 20000 in
theorem ggNX6_best_J6_bitCount_0f7a4 : GoodIn wsNX6_best wsJ6_bitCount_0f7a4 := goodIn_r _ [33, 34, 35, 36] (by decide +kernel) (by decide +kernel)
set_option maxRecDepth 20000 in
theorem gNX6_best_J6_bitCount_0f7a4 : GoodIn wsNX6_best (va_wsS RX6 271 yJ6_bitCount_0f7a4 wsJ6_bitCount_0f7a4) := goodIn_app (goodIn_of _ (by decide +kernel)) ggNX6_best_J6_bitCount_0f7a4
set_option maxRecDepth 20000 in
theorem ggNX6_ranked_X6_isBelow : GoodIn wsNX6_ranked wsX6_isBelow := goodIn_r _ [10] (by decide +kernel) (by decide +kernel)
set_option maxRecDepth 20000 in
theorem gNX6_ranked_X6_isBelow : GoodIn wsNX6_ranked (va_wsS RX6 178 yX6_isBelow wsX6_isBelow) := goodIn_app (goodIn_of _ (by decide +kernel)) ggNX6_ranked_X6_isBelow
set_option maxRecDepth 20000 in
theorem ggNX6_ranked_X1_doorsAhead : GoodIn wsNX6_ranked wsX1_doorsAhead := goodIn_r _ [15, 16, 17, 18, 19, 14, 20, 21, 22, 23, 35, 36, 37, 38, 39, 40, 41, 42, 43, 44, 45, 46, 47, 48, 49, 50, 51, 52, 53, 54, 55, 56] (by decide +kernel) (by decide +kernel)
set_option maxRecDepth 20000 in
theorem gNX6_ranked_X1_doorsAhead : GoodIn wsNX6_ranked (wsV RX6 280 RX1 yX1_doorsAhead wsX1_doorsAhead) := goodIn_app (goodIn_of _ (by decide +kernel)) ggNX6_ranked_X1_doorsAhead
