theorem dX3_found_16 : decode cX3_found 16 = .ok (.getfield 36, 3) := by decide +kernel
theorem dX3_found_19 : decode cX3_found 19 = .ok (.iload_n 2, 1) := by decide +kernel
theorem dX3_found_20 : decode cX3_found 20 = .ok (.dup2, 1) := by decide +kernel
theorem dX3_found_21 : decode cX3_found 21 = .ok (.iaload, 1) := by decide +kernel
theorem dX3_found_22 : decode cX3_found 22 = .ok (.iconst 1, 1) := by decide +kernel
theorem dX3_found_23 : decode cX3_found 23 = .ok (.iadd, 1) := by decide +kernel
theorem dX3_found_24 : decode cX3_found 24 = .ok (.iastore, 1) := by decide +kernel
theorem dX3_found_25 : decode cX3_found 25 = .ok (.iload_n 1, 1) := by decide +kernel
theorem dX3_found_26 : decode cX3_found 26 = .ok (.ireturn, 1) := by decide +kernel
set_option maxRecDepth 20000 in
theorem ggX3_isPerson_X3_isWithin : GoodIn wsX3_isPerson wsX3_isWithin := goodIn_r _ [6] (by decide +kernel) (by decide +kernel)
set_option maxRecDepth 20000 in
theorem gX3_isPerson_X3_isWithin : GoodIn wsX3_isPerson (va_wsS RX3 48 yX3_isWithin wsX3_isWithin) := goodIn_app (goodIn_of _ (by decide +kernel)) ggX3_isPerson_X3_isWithin
theorem dX3_isPerson_0 : decode cX3_isPerson 0 = .ok (.iload_n 1, 1) := by decide +kernel
theorem dX3_isPerson_1 : decode cX3_isPerson 1 = .ok (.iconst 0, 1) := by decide +kernel
theorem dX3_isPerson_2 : decode cX3_isPerson 2 = .ok (.aload_n 0, 1) := by decide +kernel
theorem dX3_isPerson_3 : decode cX3_isPerson 3 = .ok (.getfield 12, 3) := by decide +kernel
theorem dX3_isPerson_6 : decode cX3_isPerson 6 = .ok (.getfield 96, 3) := by decide +kernel
theorem dX3_isPerson_9 : decode cX3_isPerson 9 = .ok (.iconst 1, 1) := by decide +kernel
theorem dX3_isPerson_10 : decode cX3_isPerson 10 = .ok (.isub, 1) := by decide +kernel
theorem dX3_isPerson_11 : decode cX3_isPerson 11 = .ok (.invokestatic 48, 3) := by decide +kernel
theorem dX3_isPerson_14 : decode cX3_isPerson 14 = .ok (.ireturn, 1) := by decide +kernel
set_option maxRecDepth 20000 in
theorem ggX3_tryOn_X2_become : GoodIn wsX3_tryOn wsX2_become := goodIn_r _ [7, 8, 9, 10, 11, 12, 13, 14, 15, 16, 17, 18, 19, 20, 6, 21, 22, 23, 24, 25, 26, 95, 96, 97, 98, 99, 100, 101, 102, 103, 104, 105] (by decide +kernel) (by decide +kernel)
set_option maxRecDepth 20000 in
theorem gX3_tryOn_X2_become : GoodIn wsX3_tryOn (wsV RX3 165 RX2 yX2_become wsX2_become) := goodIn_app (goodIn_of _ (by decide +kernel)) ggX3_tryOn_X2_become
set_option maxRecDepth 20000 in
theorem ggX3_tryOn_X2_goOn : GoodIn wsX3_tryOn wsX2_goOn := goodIn_r _ [30, 31, 32, 33, 6, 34, 8, 14, 17, 22, 35, 36, 37, 38, 23, 25, 24, 39, 40, 41, 42, 43, 44, 45, 46, 47, 48, 49, 50, 51, 52, 53, 54, 15, 55, 56, 57, 58, 16, 59, 60, 61, 62, 9, 63, 64, 65, 66, 67, 68, 69, 70, 71, 72, 73, 74, 75, 76, 77, 78, 79, 80, 81, 82, 83, 84, 85, 86, 87, 95, 96, 97, 98, 99, 100, 101, 102, 103, 104, 105] (by decide +kernel) (by decide +kernel)
set_option maxRecDepth 20000 in
theorem gX3_tryOn_X2_goOn : GoodIn wsX3_tryOn (wsV RX3 142 RX2 yX2_goOn wsX2_goOn) := goodIn_app (goodIn_of _ (by decide +kernel)) ggX3_tryOn_X2_goOn
theorem dX3_tryOn_0 : decode cX3_tryOn 0 = .ok (.aload_n 0, 1) := by decide +kernel
theorem dX3_tryOn_1 : decode cX3_tryOn 1 = .ok (.getfield 19, 3) := by decide +kernel
theorem dX3_tryOn_4 : decode cX3_tryOn 4 = .ok (.aload_n 0, 1) := by decide +kernel
theorem dX3_tryOn_5 : decode cX3_tryOn 5 = .ok (.getfield 12, 3) := by decide +kernel
theorem dX3_tryOn_8 : decode cX3_tryOn 8 = .ok (.invokevirtual 165, 3) := by decide +kernel
theorem dX3_tryOn_11 : decode cX3_tryOn 11 = .ok (.aload_n 0, 1) := by decide +kernel
theorem dX3_tryOn_12 : decode cX3_tryOn 12 = .ok (.getfield 19, 3) := by decide +kernel
theorem dX3_tryOn_15 : decode cX3_tryOn 15 = .ok (.iload_n 1, 1) := by decide +kernel
theorem dX3_tryOn_16 : decode cX3_tryOn 16 = .ok (.invokevirtual 142, 3) := by decide +kernel
theorem dX3_tryOn_19 : decode cX3_tryOn 19 = .ok (.return_, 1) := by decide +kernel
set_option maxRecDepth 20000 in
theorem ggX3_tryOne_X2_becomeWithOne : GoodIn wsX3_tryOne wsX2_becomeWithOne := goodIn_r _ [9, 10, 11, 12, 13, 14, 15, 16, 17, 18, 8, 19, 20, 21, 22, 23, 24, 25, 26, 27, 28, 36, 37, 38, 39, 40, 41, 42, 43, 44, 45, 46] (by decide +kernel) (by decide +kernel)
set_option maxRecDepth 20000 in
theorem gX3_tryOne_X2_becomeWithOne : GoodIn wsX3_tryOne (wsV RX3 146 RX2 yX2_becomeWithOne wsX2_becomeWithOne) := goodIn_app (goodIn_of _ (by decide +kernel)) ggX3_tryOne_X2_becomeWithOne
theorem dX3_tryOne_0 : decode cX3_tryOne 0 = .ok (.aload_n 0, 1) := by decide +kernel
theorem dX3_tryOne_1 : decode cX3_tryOne 1 = .ok (.getfield 19, 3) := by decide +kernel
theorem dX3_tryOne_4 : decode cX3_tryOne 4 = .ok (.aload_n 0, 1) := by decide +kernel
theorem dX3_tryOne_5 : decode cX3_tryOne 5 = .ok (.getfield 12, 3) := by decide +kernel
theorem dX3_tryOne_8 : decode cX3_tryOne 8 = .ok (.iload_n 1, 1) := by decide +kernel
theorem dX3_tryOne_9 : decode cX3_tryOne 9 = .ok (.invokevirtual 146, 3) := by decide +kernel
theorem dX3_tryOne_12 : decode cX3_tryOne 12 = .ok (.aload_n 0, 1) := by decide +kernel
theorem dX3_tryOne_13 : decode cX3_tryOne 13 = .ok (.getfield 19, 3) := by decide +kernel
theorem dX3_tryOne_16 : decode cX3_tryOne 16 = .ok (.getfield 107, 3) := by decide +kernel
theorem dX3_tryOne_19 : decode cX3_tryOne 19 = .ok (.iconst 0, 1) := by decide +kernel
theorem dX3_tryOne_20 : decode cX3_tryOne 20 = .ok (.iload_n 2, 1) := by decide +kernel
theorem dX3_tryOne_21 : decode cX3_tryOne 21 = .ok (.iastore, 1) := by decide +kernel
theorem dX3_tryOne_22 : decode cX3_tryOne 22 = .ok (.aload_n 0, 1) := by decide +kernel
theorem dX3_tryOne_23 : decode cX3_tryOne 23 = .ok (.getfield 19, 3) := by decide +kernel
theorem dX3_tryOne_26 : decode cX3_tryOne 26 = .ok (.getfield 110, 3) := by decide +kernel
theorem dX3_tryOne_29 : decode cX3_tryOne 29 = .ok (.iconst 0, 1) := by decide +kernel
theorem dX3_tryOne_30 : decode cX3_tryOne 30 = .ok (.iload_n 3, 1) := by decide +kernel
theorem dX3_tryOne_31 : decode cX3_tryOne 31 = .ok (.iastore, 1) := by decide +kernel
theorem dX3_tryOne_32 : decode cX3_tryOne 32 = .ok (.return_, 1) := by decide +kernel
set_option maxRecDepth 20000 in
theorem ggX3_quietOf_X3_tryOne : GoodIn wsX3_quietOf wsX3_tryOne := goodIn_r _ [7, 1, 8, 9, 10, 11, 12, 13, 14, 15, 16, 17, 18, 19, 20, 21, 22, 23, 24, 25, 26, 27, 28, 29, 30, 31, 32, 33, 34, 95, 96, 97, 98, 99, 100, 101, 102, 103, 104, 105, 106, 107, 108, 109, 110, 111, 112] (by decide +kernel) (by decide +kernel)
set_option maxRecDepth 20000 in
theorem gX3_quietOf_X3_tryOne : GoodIn wsX3_quietOf (wsV RX3 229 RX3 yX3_tryOne wsX3_tryOne) := goodIn_app (goodIn_of _ (by decide +kernel)) ggX3_quietOf_X3_tryOne
set_option maxRecDepth 20000 in
theorem ggX3_quietOf_X2_goOn : GoodIn wsX3_quietOf wsX2_goOn := goodIn_r _ [38, 39, 40, 41, 14, 42, 16, 18, 21, 26, 43, 44, 45, 46, 27, 29, 28, 47, 48, 49, 50, 51, 52, 53, 54, 55, 56, 57, 58, 59, 60, 61, 62, 19, 63, 64, 65, 66, 20, 67, 68, 69, 70, 17, 71, 72, 73, 74, 75, 76, 77, 78, 79, 80, 81, 82, 83, 6, 84, 85, 86, 87, 88, 89, 90, 91, 92, 93, 94, 102, 103, 104, 105, 106, 107, 108, 109, 110, 111, 112] (by decide +kernel) (by decide +kernel)
set_option maxRecDepth 20000 in
theorem gX3_quietOf_X2_goOn : GoodIn wsX3_quietOf (wsV RX3 142 RX2 yX2_goOn wsX2_goOn) := goodIn_app (goodIn_of _ (by decide +kernel)) ggX3_quietOf_X2_goOn
theorem dX3_quietOf_0 : decode cX3_quietOf 0 = .ok (.aload_n 0, 1) := by decide +kernel
theorem dX3_quietOf_1 : decode cX3_quietOf 1 = .ok (.iload_n 1, 1) := by decide +kernel
theorem dX3_quietOf_2 : decode cX3_quietOf 2 = .ok (.iload_n 2, 1) := by decide +kernel
theorem dX3_quietOf_3 : decode cX3_quietOf 3 = .ok (.iload_n 3, 1) := by decide +kernel
theorem dX3_quietOf_4 : decode cX3_quietOf 4 = .ok (.invokevirtual 229, 3) := by decide +kernel
theorem dX3_quietOf_7 : decode cX3_quietOf 7 = .ok (.aload_n 0, 1) := by decide +kernel
theorem dX3_quietOf_8 : decode cX3_quietOf 8 = .ok (.getfield 19, 3) := by decide +kernel
theorem dX3_quietOf_11 : decode cX3_quietOf 11 = .ok (.iload 4, 2) := by decide +kernel
theorem dX3_quietOf_13 : decode cX3_quietOf 13 = .ok (.invokevirtual 142, 3) := by decide +kernel
theorem dX3_quietOf_16 : decode cX3_quietOf 16 = .ok (.aload_n 0, 1) := by decide +kernel
theorem dX3_quietOf_17 : decode cX3_quietOf 17 = .ok (.getfield 19, 3) := by decide +kernel
theorem dX3_quietOf_20 : decode cX3_quietOf 20 = .ok (.getfield 113, 3) := by decide +kernel
theorem dX3_quietOf_23 : decode cX3_quietOf 23 = .ok (.iconst 0, 1) := by decide +kernel
theorem dX3_quietOf_24 : decode cX3_quietOf 24 = .ok (.iaload, 1) := by decide +kernel
theorem dX3_quietOf_25 : decode cX3_quietOf 25 = .ok (.ireturn, 1) := by decide +kernel
set_option maxRecDepth 20000 in
theorem ggX3_goesAsWritten_X2_goOn : GoodIn wsX3_goesAsWritten wsX2_goOn := goodIn_r _ [9, 10, 11, 12, 8, 13, 14, 15, 16, 17, 18, 19, 20, 21, 22, 23, 24, 25, 26, 27, 28, 29, 30, 31, 32, 33, 34, 35, 36, 37, 38, 39, 40, 41, 42, 43, 44, 45, 46, 47, 48, 49, 50, 51, 52, 53, 54, 55, 56, 57, 58, 59, 60, 61, 62, 63, 64, 65, 66, 67, 68, 69, 70, 71, 72, 73, 74, 75, 76, 87, 88, 89, 90, 91, 92, 93, 94, 95, 96, 97] (by decide +kernel) (by decide +kernel)
set_option maxRecDepth 20000 in
theorem gX3_goesAsWritten_X2_goOn : GoodIn wsX3_goesAsWritten (wsV RX3 142 RX2 yX2_goOn wsX2_goOn) := goodIn_app (goodIn_of _ (by decide +kernel)) ggX3_goesAsWritten_X2_goOn
theorem dX3_goesAsWritten_0 : decode cX3_goesAsWritten 0 = .ok (.iconst 0, 1) := by decide +kernel
theorem dX3_goesAsWritten_1 : decode cX3_goesAsWritten 1 = .ok (.istore_n 2, 1) := by decide +kernel
theorem dX3_goesAsWritten_2 : decode cX3_goesAsWritten 2 = .ok (.iload_n 2, 1) := by decide +kernel
theorem dX3_goesAsWritten_3 : decode cX3_goesAsWritten 3 = .ok (.aload_n 1, 1) := by decide +kernel
theorem dX3_goesAsWritten_4 : decode cX3_goesAsWritten 4 = .ok (.getfield 196, 3) := by decide +kernel
theorem dX3_goesAsWritten_7 : decode cX3_goesAsWritten 7 = .ok (.if_icmp .ge 39, 3) := by decide +kernel
theorem dX3_goesAsWritten_10 : decode cX3_goesAsWritten 10 = .ok (.aload_n 1, 1) := by decide +kernel
theorem dX3_goesAsWritten_11 : decode cX3_goesAsWritten 11 = .ok (.getfield 204, 3) := by decide +kernel
theorem dX3_goesAsWritten_14 : decode cX3_goesAsWritten 14 = .ok (.iload_n 2, 1) := by decide +kernel
theorem dX3_goesAsWritten_15 : decode cX3_goesAsWritten 15 = .ok (.laload, 1) := by decide +kernel
theorem dX3_goesAsWritten_16 : decode cX3_goesAsWritten 16 = .ok (.aload_n 0, 1) := by decide +kernel
theorem dX3_goesAsWritten_17 : decode cX3_goesAsWritten 17 = .ok (.getfield 19, 3) := by decide +kernel
theorem dX3_goesAsWritten_20 : decode cX3_goesAsWritten 20 = .ok (.getfield 110, 3) := by decide +kernel
theorem dX3_goesAsWritten_23 : decode cX3_goesAsWritten 23 = .ok (.iconst 0, 1) := by decide +kernel
theorem dX3_goesAsWritten_24 : decode cX3_goesAsWritten 24 = .ok (.iaload, 1) := by decide +kernel
theorem dX3_goesAsWritten_25 : decode cX3_goesAsWritten 25 = .ok (.i2l, 1) := by decide +kernel
theorem dX3_goesAsWritten_26 : decode cX3_goesAsWritten 26 = .ok (.lcmp, 1) := by decide +kernel
theorem dX3_goesAsWritten_27 : decode cX3_goesAsWritten 27 = .ok (.ifCond .eq 5, 3) := by decide +kernel
theorem dX3_goesAsWritten_30 : decode cX3_goesAsWritten 30 = .ok (.iconst 0, 1) := by decide +kernel
theorem dX3_goesAsWritten_31 : decode cX3_goesAsWritten 31 = .ok (.ireturn, 1) := by decide +kernel
theorem dX3_goesAsWritten_32 : decode cX3_goesAsWritten 32 = .ok (.aload_n 0, 1) := by decide +kernel
theorem dX3_goesAsWritten_33 : decode cX3_goesAsWritten 33 = .ok (.getfield 19, 3) := by decide +kernel
theorem dX3_goesAsWritten_36 : decode cX3_goesAsWritten 36 = .ok (.iconst 1, 1) := by decide +kernel
theorem dX3_goesAsWritten_37 : decode cX3_goesAsWritten 37 = .ok (.invokevirtual 142, 3) := by decide +kernel
theorem dX3_goesAsWritten_40 : decode cX3_goesAsWritten 40 = .ok (.iinc 2 1, 3) := by decide +kernel
theorem dX3_goesAsWritten_43 : decode cX3_goesAsWritten 43 = .ok (.goto (-41), 3) := by decide +kernel
theorem dX3_goesAsWritten_46 : decode cX3_goesAsWritten 46 = .ok (.iconst 1, 1) := by decide +kernel
theorem dX3_goesAsWritten_47 : decode cX3_goesAsWritten 47 = .ok (.ireturn, 1) := by decide +kernel
set_option maxRecDepth 20000 in
theorem ggX3_findingOfBook_X3_isSheet : GoodIn wsX3_findingOfBook wsX3_isSheet := goodIn_r _ [7, 8, 9, 6, 10] (by decide +kernel) (by decide +kernel)
set_option maxRecDepth 20000 in
theorem gX3_findingOfBook_X3_isSheet : GoodIn wsX3_findingOfBook (va_wsS RX3 186 yX3_isSheet wsX3_isSheet) := goodIn_app (goodIn_of _ (by decide +kernel)) ggX3_findingOfBook_X3_isSheet
set_option maxRecDepth 20000 in
theorem ggX3_findingOfBook_X0_isMissing : GoodIn wsX3_findingOfBook wsX0_isMissing := goodIn_r _ [15, 16, 30, 31, 32] (by decide +kernel) (by decide +kernel)
set_option maxRecDepth 20000 in
theorem gX3_findingOfBook_X0_isMissing : GoodIn wsX3_findingOfBook (wsV RX3 199 RX0 yX0_isMissing wsX0_isMissing) := goodIn_app (goodIn_of _ (by decide +kernel)) ggX3_findingOfBook_X0_isMissing
set_option maxRecDepth 20000 in
theorem ggX3_findingOfBook_X3_isPerson : GoodIn wsX3_findingOfBook wsX3_isPerson := goodIn_r _ [20, 21, 22, 8, 9, 6, 10, 23, 24, 25, 26, 27, 28, 29, 33, 34, 35, 36, 37, 38, 39, 40, 41, 42, 43] (by decide +kernel) (by decide +kernel)
set_option maxRecDepth 20000 in
theorem gX3_findingOfBook_X3_isPerson : GoodIn wsX3_findingOfBook (wsV RX3 104 RX3 yX3_isPerson wsX3_isPerson) := goodIn_app (goodIn_of _ (by decide +kernel)) ggX3_findingOfBook_X3_isPerson
theorem dX3_findingOfBook_0 : decode cX3_findingOfBook 0 = .ok (.iload_n 1, 1) := by decide +kernel
theorem dX3_findingOfBook_1 : decode cX3_findingOfBook 1 = .ok (.invokestatic 186, 3) := by decide +kernel
theorem dX3_findingOfBook_4 : decode cX3_findingOfBook 4 = .ok (.ifCond .ne 6, 3) := by decide +kernel
theorem dX3_findingOfBook_7 : decode cX3_findingOfBook 7 = .ok (.ldc 52, 2) := by decide +kernel
theorem dX3_findingOfBook_9 : decode cX3_findingOfBook 9 = .ok (.ireturn, 1) := by decide +kernel
theorem dX3_findingOfBook_10 : decode cX3_findingOfBook 10 = .ok (.aload_n 0, 1) := by decide +kernel
theorem dX3_findingOfBook_11 : decode cX3_findingOfBook 11 = .ok (.getfield 31, 3) := by decide +kernel
theorem dX3_findingOfBook_14 : decode cX3_findingOfBook 14 = .ok (.iload_n 1, 1) := by decide +kernel
theorem dX3_findingOfBook_15 : decode cX3_findingOfBook 15 = .ok (.aaload, 1) := by decide +kernel
theorem dX3_findingOfBook_16 : decode cX3_findingOfBook 16 = .ok (.invokevirtual 199, 3) := by decide +kernel
theorem dX3_findingOfBook_19 : decode cX3_findingOfBook 19 = .ok (.ifCond .eq 6, 3) := by decide +kernel
theorem dX3_findingOfBook_22 : decode cX3_findingOfBook 22 = .ok (.ldc 203, 2) := by decide +kernel
theorem dX3_findingOfBook_24 : decode cX3_findingOfBook 24 = .ok (.ireturn, 1) := by decide +kernel
theorem dX3_findingOfBook_25 : decode cX3_findingOfBook 25 = .ok (.aload_n 0, 1) := by decide +kernel
theorem dX3_findingOfBook_26 : decode cX3_findingOfBook 26 = .ok (.iload_n 2, 1) := by decide +kernel
theorem dX3_findingOfBook_27 : decode cX3_findingOfBook 27 = .ok (.invokevirtual 104, 3) := by decide +kernel
theorem dX3_findingOfBook_30 : decode cX3_findingOfBook 30 = .ok (.ifCond .eq 7, 3) := by decide +kernel
theorem dX3_findingOfBook_33 : decode cX3_findingOfBook 33 = .ok (.iconst 0, 1) := by decide +kernel
theorem dX3_findingOfBook_34 : decode cX3_findingOfBook 34 = .ok (.goto 5, 3) := by decide +kernel
theorem dX3_findingOfBook_37 : decode cX3_findingOfBook 37 = .ok (.ldc 52, 2) := by decide +kernel
theorem dX3_findingOfBook_39 : decode cX3_findingOfBook 39 = .ok (.ireturn, 1) := by decide +kernel
theorem dX3_replace_0 : decode cX3_replace 0 = .ok (.aload_n 0, 1) := by decide +kernel
theorem dX3_replace_1 : decode cX3_replace 1 = .ok (.iload_n 1, 1) := by decide +kernel
theorem dX3_replace_2 : decode cX3_replace 2 = .ok (.iaload, 1) := by decide +kernel
theorem dX3_replace_3 : decode cX3_replace 3 = .ok (.istore_n 3, 1) := by decide +kernel
theorem dX3_replace_4 : decode cX3_replace 4 = .ok (.aload_n 0, 1) := by decide +kernel
theorem dX3_replace_5 : decode cX3_replace 5 = .ok (.iload_n 1, 1) := by decide +kernel
theorem dX3_replace_6 : decode cX3_replace 6 = .ok (.iload_n 2, 1) := by decide +kernel
theorem dX3_replace_7 : decode cX3_replace 7 = .ok (.iastore, 1) := by decide +kernel
theorem dX3_replace_8 : decode cX3_replace 8 = .ok (.iload_n 3, 1) := by decide +kernel
theorem dX3_replace_9 : decode cX3_replace 9 = .ok (.ireturn, 1) := by decide +kernel
set_option maxRecDepth 20000 in
theorem ggX3_isHouse_X3_isWithin : GoodIn wsX3_isHouse wsX3_isWithin := goodIn_r _ [4] (by decide +kernel) (by decide +kernel)
set_option maxRecDepth 20000 in
theorem gX3_isHouse_X3_isWithin : GoodIn wsX3_isHouse (va_wsS RX3 48 yX3_isWithin wsX3_isWithin) := goodIn_app (goodIn_of _ (by decide +kernel)) ggX3_isHouse_X3_isWithin
theorem dX3_isHouse_0 : decode cX3_isHouse 0 = .ok (.iload_n 0, 1) := by decide +kernel
theorem dX3_isHouse_1 : decode cX3_isHouse 1 = .ok (.iconst 0, 1) := by decide +kernel
theorem dX3_isHouse_2 : decode cX3_isHouse 2 = .ok (.bipush 29, 2) := by decide +kernel
theorem dX3_isHouse_4 : decode cX3_isHouse 4 = .ok (.invokestatic 48, 3) := by decide +kernel
theorem dX3_isHouse_7 : decode cX3_isHouse 7 = .ok (.ireturn, 1) := by decide +kernel
set_option maxRecDepth 20000 in
theorem ggX3_isKind_X3_isWithin : GoodIn wsX3_isKind wsX3_isWithin := goodIn_r _ [4] (by decide +kernel) (by decide +kernel)
set_option maxRecDepth 20000 in
theorem gX3_isKind_X3_isWithin : GoodIn wsX3_isKind (va_wsS RX3 48 yX3_isWithin wsX3_isWithin) := goodIn_app (goodIn_of _ (by decide +kernel)) ggX3_isKind_X3_isWithin
theorem dX3_isKind_0 : decode cX3_isKind 0 = .ok (.iload_n 0, 1) := by decide +kernel
theorem dX3_isKind_1 : decode cX3_isKind 1 = .ok (.iconst 0, 1) := by decide +kernel
theorem dX3_isKind_2 : decode cX3_isKind 2 = .ok (.iconst 5, 1) := by decide +kernel
theorem dX3_isKind_3 : decode cX3_isKind 3 = .ok (.invokestatic 48, 3) := by decide +kernel
theorem dX3_isKind_6 : decode cX3_isKind 6 = .ok (.ireturn, 1) := by decide +kernel
set_option maxRecDepth 20000 in
theorem ggX3_isSheet_X3_isWithin : GoodIn wsX3_isSheet wsX3_isWithin := goodIn_r _ [4] (by decide +kernel) (by decide +kernel)
set_option maxRecDepth 20000 in
theorem gX3_isSheet_X3_isWithin : GoodIn wsX3_isSheet (va_wsS RX3 48 yX3_isWithin wsX3_isWithin) := goodIn_app (goodIn_of _ (by decide +kernel)) ggX3_isSheet_X3_isWithin
theorem dX3_isSheet_0 : decode cX3_isSheet 0 = .ok (.iload_n 0, 1) := by decide +kernel
theorem dX3_isSheet_1 : decode cX3_isSheet 1 = .ok (.iconst 0, 1) := by decide +kernel
theorem dX3_isSheet_2 : decode cX3_isSheet 2 = .ok (.iconst 3, 1) := by decide +kernel
theorem dX3_isSheet_3 : decode cX3_isSheet 3 = .ok (.invokestatic 48, 3) := by decide +kernel
theorem dX3_isSheet_6 : decode cX3_isSheet 6 = .ok (.ireturn, 1) := by decide +kernel
theorem dX3_isWidthOfNumbers_0 : decode cX3_isWidthOfNumbers 0 = .ok (.iload_n 0, 1) := by decide +kernel
theorem dX3_isWidthOfNumbers_1 : decode cX3_isWidthOfNumbers 1 = .ok (.ifCond .eq 21, 3) := by decide +kernel
theorem dX3_isWidthOfNumbers_4 : decode cX3_isWidthOfNumbers 4 = .ok (.iload_n 0, 1) := by decide +kernel
theorem dX3_isWidthOfNumbers_5 : decode cX3_isWidthOfNumbers 5 = .ok (.bipush 8, 2) := by decide +kernel
theorem dX3_isWidthOfNumbers_7 : decode cX3_isWidthOfNumbers 7 = .ok (.if_icmp .eq 15, 3) := by decide +kernel
theorem dX3_isWidthOfNumbers_10 : decode cX3_isWidthOfNumbers 10 = .ok (.iload_n 0, 1) := by decide +kernel
theorem dX3_isWidthOfNumbers_11 : decode cX3_isWidthOfNumbers 11 = .ok (.bipush 16, 2) := by decide +kernel
theorem dX3_isWidthOfNumbers_13 : decode cX3_isWidthOfNumbers 13 = .ok (.if_icmp .eq 9, 3) := by decide +kernel
theorem dX3_isWidthOfNumbers_16 : decode cX3_isWidthOfNumbers 16 = .ok (.iload_n 0, 1) := by decide +kernel
theorem dX3_isWidthOfNumbers_17 : decode cX3_isWidthOfNumbers 17 = .ok (.bipush 64, 2) := by decide +kernel
theorem dX3_isWidthOfNumbers_19 : decode cX3_isWidthOfNumbers 19 = .ok (.if_icmp .ne 7, 3) := by decide +kernel
theorem dX3_isWidthOfNumbers_22 : decode cX3_isWidthOfNumbers 22 = .ok (.iconst 1, 1) := by decide +kernel
theorem dX3_isWidthOfNumbers_23 : decode cX3_isWidthOfNumbers 23 = .ok (.goto 4, 3) := by decide +kernel
theorem dX3_isWidthOfNumbers_26 : decode cX3_isWidthOfNumbers 26 = .ok (.iconst 0, 1) := by decide +kernel
theorem dX3_isWidthOfNumbers_27 : decode cX3_isWidthOfNumbers 27 = .ok (.ireturn, 1) := by decide +kernel
theorem dX3_isWithin_0 : decode cX3_isWithin 0 = .ok (.iload_n 0, 1) := by decide +kernel
theorem dX3_isWithin_1 : decode cX3_isWithin 1 = .ok (.iload_n 1, 1) := by decide +kernel
theorem dX3_isWithin_2 : decode cX3_isWithin 2 = .ok (.if_icmp .lt 12, 3) := by decide +kernel
theorem dX3_isWithin_5 : decode cX3_isWithin 5 = .ok (.iload_n 0, 1) := by decide +kernel
theorem dX3_isWithin_6 : decode cX3_isWithin 6 = .ok (.iload_n 2, 1) := by decide +kernel
theorem dX3_isWithin_7 : decode cX3_isWithin 7 = .ok (.if_icmp .gt 7, 3) := by decide +kernel
theorem dX3_isWithin_10 : decode cX3_isWithin 10 = .ok (.iconst 1, 1) := by decide +kernel
theorem dX3_isWithin_11 : decode cX3_isWithin 11 = .ok (.goto 4, 3) := by decide +kernel
theorem dX3_isWithin_14 : decode cX3_isWithin 14 = .ok (.iconst 0, 1) := by decide +kernel
theorem dX3_isWithin_15 : decode cX3_isWithin 15 = .ok (.ireturn, 1) := by decide +kernel
theorem dX3_held_0 : decode cX3_held 0 = .ok (.iload_n 1, 1) := by decide +kernel
theorem dX3_held_1 : decode cX3_held 1 = .ok (.iload_n 2, 1) := by decide +kernel
theorem dX3_held_2 : decode cX3_held 2 = .ok (.iload_n 0, 1) := by decide +kernel
theorem dX3_held_3 : decode cX3_held 3 = .ok (.invokestatic 244, 3) := by decide +kernel
theorem dX3_held_6 : decode cX3_held 6 = .ok (.invokestatic 249, 3) := by decide +kernel
theorem dX3_held_9 : decode cX3_held 9 = .ok (.ireturn, 1) := by decide +kernel
theorem dX3_sum_0 : decode cX3_sum 0 = .ok (.iconst 0, 1) := by decide +kernel
theorem dX3_sum_1 : decode cX3_sum 1 = .ok (.istore_n 2, 1) := by decide +kernel
theorem dX3_sum_2 : decode cX3_sum 2 = .ok (.iconst 0, 1) := by decide +kernel
theorem dX3_sum_3 : decode cX3_sum 3 = .ok (.istore_n 3, 1) := by decide +kernel
theorem dX3_sum_4 : decode cX3_sum 4 = .ok (.iload_n 3, 1) := by decide +kernel
theorem dX3_sum_5 : decode cX3_sum 5 = .ok (.iload_n 1, 1) := by decide +kernel
theorem dX3_sum_6 : decode cX3_sum 6 = .ok (.if_icmp .ge 15, 3) := by decide +kernel
theorem dX3_sum_9 : decode cX3_sum 9 = .ok (.iload_n 2, 1) := by decide +kernel
theorem dX3_sum_10 : decode cX3_sum 10 = .ok (.aload_n 0, 1) := by decide +kernel
theorem dX3_sum_11 : decode cX3_sum 11 = .ok (.iload_n 3, 1) := by decide +kernel
theorem dX3_sum_12 : decode cX3_sum 12 = .ok (.iaload, 1) := by decide +kernel
theorem dX3_sum_13 : decode cX3_sum 13 = .ok (.iadd, 1) := by decide +kernel
theorem dX3_sum_14 : decode cX3_sum 14 = .ok (.istore_n 2, 1) := by decide +kernel
theorem dX3_sum_15 : decode cX3_sum 15 = .ok (.iinc 3 1, 3) := by decide +kernel
theorem dX3_sum_18 : decode cX3_sum 18 = .ok (.goto (-14), 3) := by decide +kernel
theorem dX3_sum_21 : decode cX3_sum 21 = .ok (.iload_n 2, 1) := by decide +kernel
theorem dX3_sum_22 : decode cX3_sum 22 = .ok (.ireturn, 1) := by decide +kernel
theorem dX3_isOfKind_0 : decode cX3_isOfKind 0 = .ok (.iload_n 0, 1) := by decide +kernel
theorem dX3_isOfKind_1 : decode cX3_isOfKind 1 = .ok (.lookupswitch 67 #[(4, 27), (5, 47)], 27) := by decide +kernel
theorem dX3_isOfKind_28 : decode cX3_isOfKind 28 = .ok (.iload_n 1, 1) := by decide +kernel
theorem dX3_isOfKind_29 : decode cX3_isOfKind 29 = .ok (.iconst 4, 1) := by decide +kernel
theorem dX3_isOfKind_30 : decode cX3_isOfKind 30 = .ok (.if_icmp .eq 12, 3) := by decide +kernel
theorem dX3_isOfKind_33 : decode cX3_isOfKind 33 = .ok (.iload_n 1, 1) := by decide +kernel
theorem dX3_isOfKind_34 : decode cX3_isOfKind 34 = .ok (.iconst 1, 1) := by decide +kernel
theorem dX3_isOfKind_35 : decode cX3_isOfKind 35 = .ok (.if_icmp .eq 7, 3) := by decide +kernel
theorem dX3_isOfKind_38 : decode cX3_isOfKind 38 = .ok (.iload_n 1, 1) := by decide +kernel
theorem dX3_isOfKind_39 : decode cX3_isOfKind 39 = .ok (.ifCond .ne 7, 3) := by decide +kernel
theorem dX3_isOfKind_42 : decode cX3_isOfKind 42 = .ok (.iconst 1, 1) := by decide +kernel
theorem dX3_isOfKind_43 : decode cX3_isOfKind 43 = .ok (.goto 4, 3) := by decide +kernel
theorem dX3_isOfKind_46 : decode cX3_isOfKind 46 = .ok (.iconst 0, 1) := by decide +kernel
theorem dX3_isOfKind_47 : decode cX3_isOfKind 47 = .ok (.ireturn, 1) := by decide +kernel
theorem dX3_isOfKind_48 : decode cX3_isOfKind 48 = .ok (.iload_n 1, 1) := by decide +kernel
theorem dX3_isOfKind_49 : decode cX3_isOfKind 49 = .ok (.iconst 5, 1) := by decide +kernel
theorem dX3_isOfKind_50 : decode cX3_isOfKind 50 = .ok (.if_icmp .eq 12, 3) := by decide +kernel
theorem dX3_isOfKind_53 : decode cX3_isOfKind 53 = .ok (.iload_n 1, 1) := by decide +kernel
theorem dX3_isOfKind_54 : decode cX3_isOfKind 54 = .ok (.iconst 2, 1) := by decide +kernel
theorem dX3_isOfKind_55 : decode cX3_isOfKind 55 = .ok (.if_icmp .eq 7, 3) := by decide +kernel
theorem dX3_isOfKind_58 : decode cX3_isOfKind 58 = .ok (.iload_n 1, 1) := by decide +kernel
theorem dX3_isOfKind_59 : decode cX3_isOfKind 59 = .ok (.ifCond .ne 7, 3) := by decide +kernel
theorem dX3_isOfKind_62 : decode cX3_isOfKind 62 = .ok (.iconst 1, 1) := by decide +kernel
theorem dX3_isOfKind_63 : decode cX3_isOfKind 63 = .ok (.goto 4, 3) := by decide +kernel
theorem dX3_isOfKind_66 : decode cX3_isOfKind 66 = .ok (.iconst 0, 1) := by decide +kernel
theorem dX3_isOfKind_67 : decode cX3_isOfKind 67 = .ok (.ireturn, 1) := by decide +kernel
theorem dX3_isOfKind_68 : decode cX3_isOfKind 68 = .ok (.iload_n 1, 1) := by decide +kernel
theorem dX3_isOfKind_69 : decode cX3_isOfKind 69 = .ok (.iload_n 0, 1) := by decide +kernel
theorem dX3_isOfKind_70 : decode cX3_isOfKind 70 = .ok (.if_icmp .eq 7, 3) := by decide +kernel
theorem dX3_isOfKind_73 : decode cX3_isOfKind 73 = .ok (.iload_n 1, 1) := by decide +kernel
theorem dX3_isOfKind_74 : decode cX3_isOfKind 74 = .ok (.ifCond .ne 7, 3) := by decide +kernel
theorem dX3_isOfKind_77 : decode cX3_isOfKind 77 = .ok (.iconst 1, 1) := by decide +kernel
theorem dX3_isOfKind_78 : decode cX3_isOfKind 78 = .ok (.goto 4, 3) := by decide +kernel
theorem dX3_isOfKind_81 : decode cX3_isOfKind 81 = .ok (.iconst 0, 1) := by decide +kernel
theorem dX3_isOfKind_82 : decode cX3_isOfKind 82 = .ok (.ireturn, 1) := by decide +kernel
theorem dX4_init_0 : decode cX4_init 0 = .ok (.aload_n 0, 1) := by decide +kernel
theorem dX4_init_1 : decode cX4_init 1 = .ok (.invokespecial 3, 3) := by decide +kernel
theorem dX4_init_4 : decode cX4_init 4 = .ok (.aload_n 0, 1) := by decide +kernel
theorem dX4_init_5 : decode cX4_init 5 = .ok (.bipush 75, 2) := by decide +kernel
theorem dX4_init_7 : decode cX4_init 7 = .ok (.newarray .int, 2) := by decide +kernel
theorem dX4_init_9 : decode cX4_init 9 = .ok (.putfield 9, 3) := by decide +kernel
theorem dX4_init_12 : decode cX4_init 12 = .ok (.aload_n 0, 1) := by decide +kernel
theorem dX4_init_13 : decode cX4_init 13 = .ok (.bipush 75, 2) := by decide +kernel
theorem dX4_init_15 : decode cX4_init 15 = .ok (.newarray .int, 2) := by decide +kernel
theorem dX4_init_17 : decode cX4_init 17 = .ok (.putfield 13, 3) := by decide +kernel
theorem dX4_init_20 : decode cX4_init 20 = .ok (.aload_n 0, 1) := by decide +kernel
theorem dX4_init_21 : decode cX4_init 21 = .ok (.bipush 75, 2) := by decide +kernel
theorem dX4_init_23 : decode cX4_init 23 = .ok (.newarray .int, 2) := by decide +kernel
theorem dX4_init_25 : decode cX4_init 25 = .ok (.putfield 16, 3) := by decide +kernel
theorem dX4_init_28 : decode cX4_init 28 = .ok (.aload_n 0, 1) := by decide +kernel
theorem dX4_init_29 : decode cX4_init 29 = .ok (.bipush 7, 2) := by decide +kernel
theorem dX4_init_31 : decode cX4_init 31 = .ok (.newarray .int, 2) := by decide +kernel
theorem dX4_init_33 : decode cX4_init 33 = .ok (.putfield 19, 3) := by decide +kernel
theorem dX4_init_36 : decode cX4_init 36 = .ok (.aload_n 0, 1) := by decide +kernel
theorem dX4_init_37 : decode cX4_init 37 = .ok (.bipush 120, 2) := by decide +kernel
theorem dX4_init_39 : decode cX4_init 39 = .ok (.newarray .int, 2) := by decide +kernel
theorem dX4_init_41 : decode cX4_init 41 = .ok (.putfield 22, 3) := by decide +kernel
theorem dX4_init_44 : decode cX4_init 44 = .ok (.aload_n 0, 1) := by decide +kernel
theorem dX4_init_45 : decode cX4_init 45 = .ok (.iconst 4, 1) := by decide +kernel
theorem dX4_init_46 : decode cX4_init 46 = .ok (.newarray .int, 2) := by decide +kernel
theorem dX4_init_48 : decode cX4_init 48 = .ok (.putfield 25, 3) := by decide +kernel
theorem dX4_init_51 : decode cX4_init 51 = .ok (.aload_n 0, 1) := by decide +kernel
theorem dX4_init_52 : decode cX4_init 52 = .ok (.iconst 4, 1) := by decide +kernel
theorem dX4_init_53 : decode cX4_init 53 = .ok (.newarray .int, 2) := by decide +kernel
theorem dX4_init_55 : decode cX4_init 55 = .ok (.putfield 28, 3) := by decide +kernel
theorem dX4_init_58 : decode cX4_init 58 = .ok (.aload_n 0, 1) := by decide +kernel
theorem dX4_init_59 : decode cX4_init 59 = .ok (.sipush 160, 3) := by decide +kernel
theorem dX4_init_62 : decode cX4_init 62 = .ok (.newarray .long, 2) := by decide +kernel
theorem dX4_init_64 : decode cX4_init 64 = .ok (.putfield 31, 3) := by decide +kernel
theorem dX4_init_67 : decode cX4_init 67 = .ok (.aload_n 0, 1) := by decide +kernel
theorem dX4_init_68 : decode cX4_init 68 = .ok (.getfield 9, 3) := by decide +kernel
theorem dX4_init_71 : decode cX4_init 71 = .ok (.iconst 1, 1) := by decide +kernel
theorem dX4_init_72 : decode cX4_init 72 = .ok (.bipush 30, 2) := by decide +kernel
theorem dX4_init_74 : decode cX4_init 74 = .ok (.iastore, 1) := by decide +kernel
theorem dX4_init_75 : decode cX4_init 75 = .ok (.aload_n 0, 1) := by decide +kernel
theorem dX4_init_76 : decode cX4_init 76 = .ok (.getfield 9, 3) := by decide +kernel
theorem dX4_init_79 : decode cX4_init 79 = .ok (.iconst 2, 1) := by decide +kernel
theorem dX4_init_80 : decode cX4_init 80 = .ok (.iconst 3, 1) := by decide +kernel
theorem dX4_init_81 : decode cX4_init 81 = .ok (.iastore, 1) := by decide +kernel
theorem dX4_init_82 : decode cX4_init 82 = .ok (.aload_n 0, 1) := by decide +kernel
theorem dX4_init_83 : decode cX4_init 83 = .ok (.getfield 9, 3) := by decide +kernel
theorem dX4_init_86 : decode cX4_init 86 = .ok (.iconst 3, 1) := by decide +kernel
theorem dX4_init_87 : decode cX4_init 87 = .ok (.iconst 1, 1) := by decide +kernel
theorem dX4_init_88 : decode cX4_init 88 = .ok (.iastore, 1) := by decide +kernel
theorem dX4_init_89 : decode cX4_init 89 = .ok (.iconst 0, 1) := by decide +kernel
theorem dX4_init_90 : decode cX4_init 90 = .ok (.istore_n 1, 1) := by decide +kernel
theorem dX4_init_91 : decode cX4_init 91 = .ok (.iload_n 1, 1) := by decide +kernel
theorem dX4_init_92 : decode cX4_init 92 = .ok (.bipush 30, 2) := by decide +kernel
theorem dX4_init_94 : decode cX4_init 94 = .ok (.if_icmp .ge 23, 3) := by decide +kernel
theorem dX4_init_97 : decode cX4_init 97 = .ok (.aload_n 0, 1) := by decide +kernel
theorem dX4_init_98 : decode cX4_init 98 = .ok (.getfield 9, 3) := by decide +kernel
theorem dX4_init_101 : decode cX4_init 101 = .ok (.iconst 5, 1) := by decide +kernel
theorem dX4_init_102 : decode cX4_init 102 = .ok (.iload_n 1, 1) := by decide +kernel
theorem dX4_init_103 : decode cX4_init 103 = .ok (.iadd, 1) := by decide +kernel
theorem dX4_init_104 : decode cX4_init 104 = .ok (.iconst 4, 1) := by decide +kernel
theorem dX4_init_105 : decode cX4_init 105 = .ok (.iload_n 1, 1) := by decide +kernel
theorem dX4_init_106 : decode cX4_init 106 = .ok (.imul, 1) := by decide +kernel
theorem dX4_init_107 : decode cX4_init 107 = .ok (.bipush 7, 2) := by decide +kernel
theorem dX4_init_109 : decode cX4_init 109 = .ok (.irem, 1) := by decide +kernel
theorem dX4_init_110 : decode cX4_init 110 = .ok (.iastore, 1) := by decide +kernel
theorem dX4_init_111 : decode cX4_init 111 = .ok (.iinc 1 1, 3) := by decide +kernel
theorem dX4_init_114 : decode cX4_init 114 = .ok (.goto (-23), 3) := by decide +kernel
theorem dX4_init_117 : decode cX4_init 117 = .ok (.return_, 1) := by decide +kernel
theorem dX4_finds_0 : decode cX4_finds 0 = .ok (.aload_n 0, 1) := by decide +kernel
theorem dX4_finds_1 : decode cX4_finds 1 = .ok (.getfield 19, 3) := by decide +kernel
theorem dX4_finds_4 : decode cX4_finds 4 = .ok (.ldc 35, 2) := by decide +kernel
theorem dX4_finds_6 : decode cX4_finds 6 = .ok (.iload_n 1, 1) := by decide +kernel
theorem dX4_finds_7 : decode cX4_finds 7 = .ok (.isub, 1) := by decide +kernel
theorem dX4_finds_8 : decode cX4_finds 8 = .ok (.dup2, 1) := by decide +kernel
theorem dX4_finds_9 : decode cX4_finds 9 = .ok (.iaload, 1) := by decide +kernel
theorem dX4_finds_10 : decode cX4_finds 10 = .ok (.iconst 1, 1) := by decide +kernel
theorem dX4_finds_11 : decode cX4_finds 11 = .ok (.iadd, 1) := by decide +kernel
theorem dX4_finds_12 : decode cX4_finds 12 = .ok (.iastore, 1) := by decide +kernel
theorem dX4_finds_13 : decode cX4_finds 13 = .ok (.iload_n 1, 1) := by decide +kernel
theorem dX4_finds_14 : decode cX4_finds 14 = .ok (.ireturn, 1) := by decide +kernel
set_option maxRecDepth 20000 in
theorem ggX4_orNone_X4_finds : GoodIn wsX4_orNone wsX4_finds := goodIn_r _ [6, 7, 8, 9, 10, 11, 12, 13, 14, 15, 16, 17, 18, 19, 20, 21, 22, 23] (by decide +kernel) (by decide +kernel)
set_option maxRecDepth 20000 in
theorem gX4_orNone_X4_finds : GoodIn wsX4_orNone (wsV RX4 37 RX4 yX4_finds wsX4_finds) := goodIn_app (goodIn_of _ (by decide +kernel)) ggX4_orNone_X4_finds
theorem dX4_orNone_0 : decode cX4_orNone 0 = .ok (.iload_n 1, 1) := by decide +kernel
theorem dX4_orNone_1 : decode cX4_orNone 1 = .ok (.ifCond .ge 12, 3) := by decide +kernel
theorem dX4_orNone_4 : decode cX4_orNone 4 = .ok (.aload_n 0, 1) := by decide +kernel
theorem dX4_orNone_5 : decode cX4_orNone 5 = .ok (.ldc 36, 2) := by decide +kernel
theorem dX4_orNone_7 : decode cX4_orNone 7 = .ok (.invokevirtual 37, 3) := by decide +kernel
theorem dX4_orNone_10 : decode cX4_orNone 10 = .ok (.goto 4, 3) := by decide +kernel
theorem dX4_orNone_13 : decode cX4_orNone 13 = .ok (.iload_n 1, 1) := by decide +kernel
theorem dX4_orNone_14 : decode cX4_orNone 14 = .ok (.ireturn, 1) := by decide +kernel
theorem dX4_in_0 : decode cX4_in 0 = .ok (.lload_n 0, 1) := by decide +kernel
theorem dX4_in_1 : decode cX4_in 1 = .ok (.iload_n 2, 1) := by decide +kernel
theorem dX4_in_2 : decode cX4_in 2 = .ok (.i2l, 1) := by decide +kernel
theorem dX4_in_3 : decode cX4_in 3 = .ok (.lcmp, 1) := by decide +kernel
theorem dX4_in_4 : decode cX4_in 4 = .ok (.ifCond .lt 14, 3) := by decide +kernel
theorem dX4_in_7 : decode cX4_in 7 = .ok (.lload_n 0, 1) := by decide +kernel
theorem dX4_in_8 : decode cX4_in 8 = .ok (.iload_n 3, 1) := by decide +kernel
theorem dX4_in_9 : decode cX4_in 9 = .ok (.i2l, 1) := by decide +kernel
theorem dX4_in_10 : decode cX4_in 10 = .ok (.lcmp, 1) := by decide +kernel
theorem dX4_in_11 : decode cX4_in 11 = .ok (.ifCond .gt 7, 3) := by decide +kernel
theorem dX4_in_14 : decode cX4_in 14 = .ok (.iconst 1, 1) := by decide +kernel
theorem dX4_in_15 : decode cX4_in 15 = .ok (.goto 4, 3) := by decide +kernel
theorem dX4_in_18 : decode cX4_in 18 = .ok (.iconst 0, 1) := by decide +kernel
theorem dX4_in_19 : decode cX4_in 19 = .ok (.ireturn, 1) := by decide +kernel
theorem dX4_held_0 : decode cX4_held 0 = .ok (.iload_n 0, 1) := by decide +kernel
theorem dX4_held_1 : decode cX4_held 1 = .ok (.iload_n 1, 1) := by decide +kernel
theorem dX4_held_2 : decode cX4_held 2 = .ok (.if_icmp .ge 7, 3) := by decide +kernel
theorem dX4_held_5 : decode cX4_held 5 = .ok (.iload_n 1, 1) := by decide +kernel
theorem dX4_held_6 : decode cX4_held 6 = .ok (.goto 13, 3) := by decide +kernel
theorem dX4_held_9 : decode cX4_held 9 = .ok (.iload_n 0, 1) := by decide +kernel
theorem dX4_held_10 : decode cX4_held 10 = .ok (.iload_n 2, 1) := by decide +kernel
theorem dX4_held_11 : decode cX4_held 11 = .ok (.if_icmp .le 7, 3) := by decide +kernel
theorem dX4_held_14 : decode cX4_held 14 = .ok (.iload_n 2, 1) := by decide +kernel
theorem dX4_held_15 : decode cX4_held 15 = .ok (.goto 4, 3) := by decide +kernel
theorem dX4_held_18 : decode cX4_held 18 = .ok (.iload_n 0, 1) := by decide +kernel
theorem dX4_held_19 : decode cX4_held 19 = .ok (.ireturn, 1) := by decide +kernel
theorem dX4_copyAll_0 : decode cX4_copyAll 0 = .ok (.iconst 0, 1) := by decide +kernel
theorem dX4_copyAll_1 : decode cX4_copyAll 1 = .ok (.istore_n 2, 1) := by decide +kernel
theorem dX4_copyAll_2 : decode cX4_copyAll 2 = .ok (.iload_n 2, 1) := by decide +kernel
theorem dX4_copyAll_3 : decode cX4_copyAll 3 = .ok (.bipush 75, 2) := by decide +kernel
theorem dX4_copyAll_5 : decode cX4_copyAll 5 = .ok (.if_icmp .ge 15, 3) := by decide +kernel
theorem dX4_copyAll_8 : decode cX4_copyAll 8 = .ok (.aload_n 1, 1) := by decide +kernel
theorem dX4_copyAll_9 : decode cX4_copyAll 9 = .ok (.iload_n 2, 1) := by decide +kernel
theorem dX4_copyAll_10 : decode cX4_copyAll 10 = .ok (.aload_n 0, 1) := by decide +kernel
theorem dX4_copyAll_11 : decode cX4_copyAll 11 = .ok (.iload_n 2, 1) := by decide +kernel
theorem dX4_copyAll_12 : decode cX4_copyAll 12 = .ok (.iaload, 1) := by decide +kernel
theorem dX4_copyAll_13 : decode cX4_copyAll 13 = .ok (.iastore, 1) := by decide +kernel
theorem dX4_copyAll_14 : decode cX4_copyAll 14 = .ok (.iinc 2 1, 3) := by decide +kernel
theorem dX4_copyAll_17 : decode cX4_copyAll 17 = .ok (.goto (-15), 3) := by decide +kernel
theorem dX4_copyAll_20 : decode cX4_copyAll 20 = .ok (.return_, 1) := by decide +kernel
theorem dX4_becomes_0 : decode cX4_becomes 0 = .ok (.aload_n 0, 1) := by decide +kernel
theorem dX4_becomes_1 : decode cX4_becomes 1 = .ok (.getfield 9, 3) := by decide +kernel
theorem dX4_becomes_4 : decode cX4_becomes 4 = .ok (.iload_n 1, 1) := by decide +kernel
theorem dX4_becomes_5 : decode cX4_becomes 5 = .ok (.iaload, 1) := by decide +kernel
theorem dX4_becomes_6 : decode cX4_becomes 6 = .ok (.istore_n 3, 1) := by decide +kernel
theorem dX4_becomes_7 : decode cX4_becomes 7 = .ok (.aload_n 0, 1) := by decide +kernel
theorem dX4_becomes_8 : decode cX4_becomes 8 = .ok (.getfield 9, 3) := by decide +kernel
theorem dX4_becomes_11 : decode cX4_becomes 11 = .ok (.iload_n 1, 1) := by decide +kernel
theorem dX4_becomes_12 : decode cX4_becomes 12 = .ok (.iload_n 2, 1) := by decide +kernel
theorem dX4_becomes_13 : decode cX4_becomes 13 = .ok (.iastore, 1) := by decide +kernel
theorem dX4_becomes_14 : decode cX4_becomes 14 = .ok (.iload_n 3, 1) := by decide +kernel
theorem dX4_becomes_15 : decode cX4_becomes 15 = .ok (.ireturn, 1) := by decide +kernel
set_option maxRecDepth 20000 in
theorem ggX4_isPerson_X4_in : GoodIn wsX4_isPerson wsX4_in := goodIn_r _ [5] (by decide +kernel) (by decide +kernel)
set_option maxRecDepth 20000 in
theorem gX4_isPerson_X4_in : GoodIn wsX4_isPerson (va_wsS RX4 41 yX4_in wsX4_in) := goodIn_app (goodIn_of _ (by decide +kernel)) ggX4_isPerson_X4_in
theorem dX4_isPerson_0 : decode cX4_isPerson 0 = .ok (.iload_n 1, 1) := by decide +kernel
theorem dX4_isPerson_1 : decode cX4_isPerson 1 = .ok (.i2l, 1) := by decide +kernel
theorem dX4_isPerson_2 : decode cX4_isPerson 2 = .ok (.iconst 0, 1) := by decide +kernel
theorem dX4_isPerson_3 : decode cX4_isPerson 3 = .ok (.aload_n 0, 1) := by decide +kernel
theorem dX4_isPerson_4 : decode cX4_isPerson 4 = .ok (.getfield 9, 3) := by decide +kernel
theorem dX4_isPerson_7 : decode cX4_isPerson 7 = .ok (.iconst 4, 1) := by decide +kernel
theorem dX4_isPerson_8 : decode cX4_isPerson 8 = .ok (.iaload, 1) := by decide +kernel
theorem dX4_isPerson_9 : decode cX4_isPerson 9 = .ok (.iconst 1, 1) := by decide +kernel
theorem dX4_isPerson_10 : decode cX4_isPerson 10 = .ok (.isub, 1) := by decide +kernel
theorem dX4_isPerson_11 : decode cX4_isPerson 11 = .ok (.invokestatic 41, 3) := by decide +kernel
theorem dX4_isPerson_14 : decode cX4_isPerson 14 = .ok (.ireturn, 1) := by decide +kernel
set_option maxRecDepth 20000 in
theorem ggX4_isHouse_X4_in : GoodIn wsX4_isHouse wsX4_in := goodIn_r _ [4] (by decide +kernel) (by decide +kernel)
set_option maxRecDepth 20000 in
theorem gX4_isHouse_X4_in : GoodIn wsX4_isHouse (va_wsS RX4 41 yX4_in wsX4_in) := goodIn_app (goodIn_of _ (by decide +kernel)) ggX4_isHouse_X4_in
theorem dX4_isHouse_0 : decode cX4_isHouse 0 = .ok (.iload_n 0, 1) := by decide +kernel
theorem dX4_isHouse_1 : decode cX4_isHouse 1 = .ok (.i2l, 1) := by decide +kernel
theorem dX4_isHouse_2 : decode cX4_isHouse 2 = .ok (.iconst 0, 1) := by decide +kernel
theorem dX4_isHouse_3 : decode cX4_isHouse 3 = .ok (.bipush 29, 2) := by decide +kernel
theorem dX4_isHouse_5 : decode cX4_isHouse 5 = .ok (.invokestatic 41, 3) := by decide +kernel
theorem dX4_isHouse_8 : decode cX4_isHouse 8 = .ok (.ireturn, 1) := by decide +kernel
theorem dX4_it_0 : decode cX4_it 0 = .ok (.aload_n 0, 1) := by decide +kernel
theorem dX4_it_1 : decode cX4_it 1 = .ok (.getfield 9, 3) := by decide +kernel
theorem dX4_it_4 : decode cX4_it 4 = .ok (.bipush 35, 2) := by decide +kernel
theorem dX4_it_6 : decode cX4_it 6 = .ok (.iconst 5, 1) := by decide +kernel
theorem dX4_it_7 : decode cX4_it 7 = .ok (.iload_n 1, 1) := by decide +kernel
theorem dX4_it_8 : decode cX4_it 8 = .ok (.imul, 1) := by decide +kernel
theorem dX4_it_9 : decode cX4_it 9 = .ok (.iadd, 1) := by decide +kernel
theorem dX4_it_10 : decode cX4_it 10 = .ok (.iload_n 2, 1) := by decide +kernel
theorem dX4_it_11 : decode cX4_it 11 = .ok (.iadd, 1) := by decide +kernel
theorem dX4_it_12 : decode cX4_it 12 = .ok (.iaload, 1) := by decide +kernel
theorem dX4_it_13 : decode cX4_it 13 = .ok (.ireturn, 1) := by decide +kernel
theorem dX4_put_0 : decode cX4_put 0 = .ok (.aload_n 0, 1) := by decide +kernel
theorem dX4_put_1 : decode cX4_put 1 = .ok (.getfield 9, 3) := by decide +kernel
theorem dX4_put_4 : decode cX4_put 4 = .ok (.bipush 35, 2) := by decide +kernel
theorem dX4_put_6 : decode cX4_put 6 = .ok (.iconst 5, 1) := by decide +kernel
theorem dX4_put_7 : decode cX4_put 7 = .ok (.iload_n 1, 1) := by decide +kernel
theorem dX4_put_8 : decode cX4_put 8 = .ok (.imul, 1) := by decide +kernel
theorem dX4_put_9 : decode cX4_put 9 = .ok (.iadd, 1) := by decide +kernel
theorem dX4_put_10 : decode cX4_put 10 = .ok (.iload_n 2, 1) := by decide +kernel
theorem dX4_put_11 : decode cX4_put 11 = .ok (.iadd, 1) := by decide +kernel
theorem dX4_put_12 : decode cX4_put 12 = .ok (.iload_n 3, 1) := by decide +kernel
theorem dX4_put_13 : decode cX4_put 13 = .ok (.iastore, 1) := by decide +kernel
theorem dX4_put_14 : decode cX4_put 14 = .ok (.return_, 1) := by decide +kernel
theorem dX4_clock_0 : decode cX4_clock 0 = .ok (.aload_n 0, 1) := by decide +kernel
theorem dX4_clock_1 : decode cX4_clock 1 = .ok (.getfield 9, 3) := by decide +kernel
theorem dX4_clock_4 : decode cX4_clock 4 = .ok (.iconst 0, 1) := by decide +kernel
theorem dX4_clock_5 : decode cX4_clock 5 = .ok (.iaload, 1) := by decide +kernel
theorem dX4_clock_6 : decode cX4_clock 6 = .ok (.bipush 100, 2) := by decide +kernel
theorem dX4_clock_8 : decode cX4_clock 8 = .ok (.irem, 1) := by decide +kernel
theorem dX4_clock_9 : decode cX4_clock 9 = .ok (.ireturn, 1) := by decide +kernel
set_option maxRecDepth 20000 in
theorem ggX4_edge_X4_clock : GoodIn wsX4_edge wsX4_clock := goodIn_r _ [6, 1, 7, 8, 9, 10, 11, 12, 13, 14, 15, 16, 17, 18, 19, 20, 21] (by decide +kernel) (by decide +kernel)
set_option maxRecDepth 20000 in
theorem gX4_edge_X4_clock : GoodIn wsX4_edge (wsV RX4 45 RX4 yX4_clock wsX4_clock) := goodIn_app (goodIn_of _ (by decide +kernel)) ggX4_edge_X4_clock
theorem dX4_edge_0 : decode cX4_edge 0 = .ok (.aload_n 0, 1) := by decide +kernel
theorem dX4_edge_1 : decode cX4_edge 1 = .ok (.getfield 9, 3) := by decide +kernel
theorem dX4_edge_4 : decode cX4_edge 4 = .ok (.iconst 3, 1) := by decide +kernel
theorem dX4_edge_5 : decode cX4_edge 5 = .ok (.iaload, 1) := by decide +kernel
theorem dX4_edge_6 : decode cX4_edge 6 = .ok (.aload_n 0, 1) := by decide +kernel
theorem dX4_edge_7 : decode cX4_edge 7 = .ok (.invokevirtual 45, 3) := by decide +kernel
theorem dX4_edge_10 : decode cX4_edge 10 = .ok (.aload_n 0, 1) := by decide +kernel
theorem dX4_edge_11 : decode cX4_edge 11 = .ok (.getfield 9, 3) := by decide +kernel
theorem dX4_edge_14 : decode cX4_edge 14 = .ok (.iconst 1, 1) := by decide +kernel
theorem dX4_edge_15 : decode cX4_edge 15 = .ok (.iaload, 1) := by decide +kernel
theorem dX4_edge_16 : decode cX4_edge 16 = .ok (.isub, 1) := by decide +kernel
theorem dX4_edge_17 : decode cX4_edge 17 = .ok (.imul, 1) := by decide +kernel
theorem dX4_edge_18 : decode cX4_edge 18 = .ok (.ireturn, 1) := by decide +kernel
set_option maxRecDepth 20000 in
theorem ggX4_isHush_X4_clock : GoodIn wsX4_isHush wsX4_clock := goodIn_r _ [6, 1, 11, 12, 13, 14, 15, 16, 17, 18, 19, 20, 21, 22, 23, 24, 25] (by decide +kernel) (by decide +kernel)
set_option maxRecDepth 20000 in
theorem gX4_isHush_X4_clock : GoodIn wsX4_isHush (wsV RX4 45 RX4 yX4_clock wsX4_clock) := goodIn_app (goodIn_of _ (by decide +kernel)) ggX4_isHush_X4_clock
set_option maxRecDepth 20000 in
theorem ggX4_isHush_X4_edge : GoodIn wsX4_isHush wsX4_edge := goodIn_r _ [10, 1, 2, 3, 4, 5, 6, 11, 12, 13, 14, 15, 16, 17, 18, 19, 20, 21, 22, 23, 24, 25] (by decide +kernel) (by decide +kernel)
set_option maxRecDepth 20000 in
theorem gX4_isHush_X4_edge : GoodIn wsX4_isHush (wsV RX4 49 RX4 yX4_edge wsX4_edge) := goodIn_app (goodIn_of _ (by decide +kernel)) ggX4_isHush_X4_edge
theorem dX4_isHush_0 : decode cX4_isHush 0 = .ok (.aload_n 0, 1) := by decide +kernel
theorem dX4_isHush_1 : decode cX4_isHush 1 = .ok (.invokevirtual 45, 3) := by decide +kernel
theorem dX4_isHush_4 : decode cX4_isHush 4 = .ok (.aload_n 0, 1) := by decide +kernel
theorem dX4_isHush_5 : decode cX4_isHush 5 = .ok (.getfield 9, 3) := by decide +kernel
theorem dX4_isHush_8 : decode cX4_isHush 8 = .ok (.iconst 1, 1) := by decide +kernel
theorem dX4_isHush_9 : decode cX4_isHush 9 = .ok (.iaload, 1) := by decide +kernel
theorem dX4_isHush_10 : decode cX4_isHush 10 = .ok (.if_icmp .lt 34, 3) := by decide +kernel
theorem dX4_isHush_13 : decode cX4_isHush 13 = .ok (.aload_n 0, 1) := by decide +kernel
theorem dX4_isHush_14 : decode cX4_isHush 14 = .ok (.getfield 9, 3) := by decide +kernel
theorem dX4_isHush_17 : decode cX4_isHush 17 = .ok (.iconst 2, 1) := by decide +kernel
theorem dX4_isHush_18 : decode cX4_isHush 18 = .ok (.iaload, 1) := by decide +kernel
theorem dX4_isHush_19 : decode cX4_isHush 19 = .ok (.ifCond .le 25, 3) := by decide +kernel
theorem dX4_isHush_22 : decode cX4_isHush 22 = .ok (.aload_n 0, 1) := by decide +kernel
theorem dX4_isHush_23 : decode cX4_isHush 23 = .ok (.invokevirtual 49, 3) := by decide +kernel
theorem dX4_isHush_26 : decode cX4_isHush 26 = .ok (.aload_n 0, 1) := by decide +kernel
theorem dX4_isHush_27 : decode cX4_isHush 27 = .ok (.getfield 9, 3) := by decide +kernel
theorem dX4_isHush_30 : decode cX4_isHush 30 = .ok (.iconst 2, 1) := by decide +kernel
theorem dX4_isHush_31 : decode cX4_isHush 31 = .ok (.iaload, 1) := by decide +kernel
theorem dX4_isHush_32 : decode cX4_isHush 32 = .ok (.isub, 1) := by decide +kernel
theorem dX4_isHush_33 : decode cX4_isHush 33 = .ok (.iconst 1, 1) := by decide +kernel
theorem dX4_isHush_34 : decode cX4_isHush 34 = .ok (.iadd, 1) := by decide +kernel
theorem dX4_isHush_35 : decode cX4_isHush 35 = .ok (.bipush 29, 2) := by decide +kernel
theorem dX4_isHush_37 : decode cX4_isHush 37 = .ok (.if_icmp .gt 7, 3) := by decide +kernel
theorem dX4_isHush_40 : decode cX4_isHush 40 = .ok (.iconst 1, 1) := by decide +kernel
theorem dX4_isHush_41 : decode cX4_isHush 41 = .ok (.goto 4, 3) := by decide +kernel
theorem dX4_isHush_44 : decode cX4_isHush 44 = .ok (.iconst 0, 1) := by decide +kernel
theorem dX4_isHush_45 : decode cX4_isHush 45 = .ok (.ireturn, 1) := by decide +kernel
set_option maxRecDepth 20000 in
theorem ggX4_isTaken_X4_isHush : GoodIn wsX4_isTaken wsX4_isHush := goodIn_r _ [6, 1, 7, 8, 9, 5, 10, 11, 12, 13, 14, 15, 16, 17, 18, 19, 20, 21, 22, 23, 24, 25, 26, 27, 28, 29] (by decide +kernel) (by decide +kernel)
set_option maxRecDepth 20000 in
theorem gX4_isTaken_X4_isHush : GoodIn wsX4_isTaken (wsV RX4 52 RX4 yX4_isHush wsX4_isHush) := goodIn_app (goodIn_of _ (by decide +kernel)) ggX4_isTaken_X4_isHush
set_option maxRecDepth 20000 in
theorem ggX4_isTaken_X4_edge : GoodIn wsX4_isTaken wsX4_edge := goodIn_r _ [14, 1, 7, 8, 9, 5, 10, 15, 16, 17, 18, 19, 20, 21, 22, 23, 24, 25, 26, 27, 28, 29] (by decide +kernel) (by decide +kernel)
set_option maxRecDepth 20000 in
theorem gX4_isTaken_X4_edge : GoodIn wsX4_isTaken (wsV RX4 49 RX4 yX4_edge wsX4_edge) := goodIn_app (goodIn_of _ (by decide +kernel)) ggX4_isTaken_X4_edge
theorem dX4_isTaken_0 : decode cX4_isTaken 0 = .ok (.aload_n 0, 1) := by decide +kernel
theorem dX4_isTaken_1 : decode cX4_isTaken 1 = .ok (.invokevirtual 52, 3) := by decide +kernel
theorem dX4_isTaken_4 : decode cX4_isTaken 4 = .ok (.ifCond .eq 30, 3) := by decide +kernel
theorem dX4_isTaken_7 : decode cX4_isTaken 7 = .ok (.iload_n 1, 1) := by decide +kernel
theorem dX4_isTaken_8 : decode cX4_isTaken 8 = .ok (.aload_n 0, 1) := by decide +kernel
theorem dX4_isTaken_9 : decode cX4_isTaken 9 = .ok (.invokevirtual 49, 3) := by decide +kernel
theorem dX4_isTaken_12 : decode cX4_isTaken 12 = .ok (.if_icmp .gt 22, 3) := by decide +kernel
theorem dX4_isTaken_15 : decode cX4_isTaken 15 = .ok (.iload_n 1, 1) := by decide +kernel
theorem dX4_isTaken_16 : decode cX4_isTaken 16 = .ok (.aload_n 0, 1) := by decide +kernel
theorem dX4_isTaken_17 : decode cX4_isTaken 17 = .ok (.invokevirtual 49, 3) := by decide +kernel
theorem dX4_isTaken_20 : decode cX4_isTaken 20 = .ok (.aload_n 0, 1) := by decide +kernel
theorem dX4_isTaken_21 : decode cX4_isTaken 21 = .ok (.getfield 9, 3) := by decide +kernel
theorem dX4_isTaken_24 : decode cX4_isTaken 24 = .ok (.iconst 2, 1) := by decide +kernel
theorem dX4_isTaken_25 : decode cX4_isTaken 25 = .ok (.iaload, 1) := by decide +kernel
theorem dX4_isTaken_26 : decode cX4_isTaken 26 = .ok (.isub, 1) := by decide +kernel
theorem dX4_isTaken_27 : decode cX4_isTaken 27 = .ok (.if_icmp .le 7, 3) := by decide +kernel
theorem dX4_isTaken_30 : decode cX4_isTaken 30 = .ok (.iconst 1, 1) := by decide +kernel
theorem dX4_isTaken_31 : decode cX4_isTaken 31 = .ok (.goto 4, 3) := by decide +kernel
theorem dX4_isTaken_34 : decode cX4_isTaken 34 = .ok (.iconst 0, 1) := by decide +kernel
theorem dX4_isTaken_35 : decode cX4_isTaken 35 = .ok (.ireturn, 1) := by decide +kernel
set_option maxRecDepth 20000 in
theorem ggX4_isIn_X4_it : GoodIn wsX4_isIn wsX4_it := goodIn_r _ [5, 6, 23, 24, 25, 26, 27, 28, 29, 30, 31, 32, 33, 34, 35, 36, 37] (by decide +kernel) (by decide +kernel)
set_option maxRecDepth 20000 in
theorem gX4_isIn_X4_it : GoodIn wsX4_isIn (wsV RX4 56 RX4 yX4_it wsX4_it) := goodIn_app (goodIn_of _ (by decide +kernel)) ggX4_isIn_X4_it
set_option maxRecDepth 20000 in
theorem ggX4_isIn_X4_isTaken : GoodIn wsX4_isIn wsX4_isTaken := goodIn_r _ [10, 6, 11, 12, 13, 4, 14, 15, 16, 17, 18, 19, 20, 21, 22, 23, 24, 25, 26, 27, 28, 29, 30, 31, 32, 33, 34, 35, 36, 37] (by decide +kernel) (by decide +kernel)
set_option maxRecDepth 20000 in
theorem gX4_isIn_X4_isTaken : GoodIn wsX4_isIn (wsV RX4 60 RX4 yX4_isTaken wsX4_isTaken) := goodIn_app (goodIn_of _ (by decide +kernel)) ggX4_isIn_X4_isTaken
theorem dX4_isIn_0 : decode cX4_isIn 0 = .ok (.aload_n 0, 1) := by decide +kernel
theorem dX4_isIn_1 : decode cX4_isIn 1 = .ok (.aload_n 0, 1) := by decide +kernel
theorem dX4_isIn_2 : decode cX4_isIn 2 = .ok (.iload_n 1, 1) := by decide +kernel
theorem dX4_isIn_3 : decode cX4_isIn 3 = .ok (.iconst 1, 1) := by decide +kernel
theorem dX4_isIn_4 : decode cX4_isIn 4 = .ok (.invokevirtual 56, 3) := by decide +kernel
theorem dX4_isIn_7 : decode cX4_isIn 7 = .ok (.invokevirtual 60, 3) := by decide +kernel
theorem dX4_isIn_10 : decode cX4_isIn 10 = .ok (.ireturn, 1) := by decide +kernel
set_option maxRecDepth 20000 in
theorem ggX4_isBell_X4_clock : GoodIn wsX4_isBell wsX4_clock := goodIn_r _ [5, 6, 7, 8, 9, 10, 11, 12, 13, 14, 15, 16, 17, 18, 19, 20, 21] (by decide +kernel) (by decide +kernel)
set_option maxRecDepth 20000 in
theorem gX4_isBell_X4_clock : GoodIn wsX4_isBell (wsV RX4 45 RX4 yX4_clock wsX4_clock) := goodIn_app (goodIn_of _ (by decide +kernel)) ggX4_isBell_X4_clock
theorem dX4_isBell_0 : decode cX4_isBell 0 = .ok (.aload_n 0, 1) := by decide +kernel
theorem dX4_isBell_1 : decode cX4_isBell 1 = .ok (.invokevirtual 45, 3) := by decide +kernel
theorem dX4_isBell_4 : decode cX4_isBell 4 = .ok (.iconst 5, 1) := by decide +kernel
theorem dX4_isBell_5 : decode cX4_isBell 5 = .ok (.irem, 1) := by decide +kernel
theorem dX4_isBell_6 : decode cX4_isBell 6 = .ok (.ifCond .ne 7, 3) := by decide +kernel
theorem dX4_isBell_9 : decode cX4_isBell 9 = .ok (.iconst 1, 1) := by decide +kernel
theorem dX4_isBell_10 : decode cX4_isBell 10 = .ok (.goto 4, 3) := by decide +kernel
theorem dX4_isBell_13 : decode cX4_isBell 13 = .ok (.iconst 0, 1) := by decide +kernel
theorem dX4_isBell_14 : decode cX4_isBell 14 = .ok (.ireturn, 1) := by decide +kernel
set_option maxRecDepth 20000 in
theorem ggX4_goesBy_X4_edge : GoodIn wsX4_goesBy wsX4_edge := goodIn_r _ [6, 1, 7, 8, 9, 5, 10, 37, 38, 39, 40, 41, 42, 43, 44, 45, 46, 47, 48, 49, 50, 51] (by decide +kernel) (by decide +kernel)
set_option maxRecDepth 20000 in
theorem gX4_goesBy_X4_edge : GoodIn wsX4_goesBy (wsV RX4 49 RX4 yX4_edge wsX4_edge) := goodIn_app (goodIn_of _ (by decide +kernel)) ggX4_goesBy_X4_edge
set_option maxRecDepth 20000 in
theorem ggX4_goesBy_X4_it : GoodIn wsX4_goesBy wsX4_it := goodIn_r _ [14, 1, 37, 38, 39, 40, 41, 42, 43, 44, 45, 46, 47, 48, 49, 50, 51] (by decide +kernel) (by decide +kernel)
set_option maxRecDepth 20000 in
theorem gX4_goesBy_X4_it : GoodIn wsX4_goesBy (wsV RX4 56 RX4 yX4_it wsX4_it) := goodIn_app (goodIn_of _ (by decide +kernel)) ggX4_goesBy_X4_it
set_option maxRecDepth 20000 in
theorem ggX4_goesBy_X4_isIn : GoodIn wsX4_goesBy wsX4_isIn := goodIn_r _ [18, 11, 12, 13, 5, 14, 1, 19, 20, 21, 22, 23, 24, 25, 26, 7, 8, 9, 10, 2, 3, 4, 6, 37, 38, 39, 40, 41, 42, 43, 44, 45, 46, 47, 48, 49, 50, 51] (by decide +kernel) (by decide +kernel)
set_option maxRecDepth 20000 in
theorem gX4_goesBy_X4_isIn : GoodIn wsX4_goesBy (wsV RX4 64 RX4 yX4_isIn wsX4_isIn) := goodIn_app (goodIn_of _ (by decide +kernel)) ggX4_goesBy_X4_isIn
set_option maxRecDepth 20000 in
theorem ggX4_goesBy_X4_in : GoodIn wsX4_goesBy wsX4_in := goodIn_r _ [29] (by decide +kernel) (by decide +kernel)
set_option maxRecDepth 20000 in
theorem gX4_goesBy_X4_in : GoodIn wsX4_goesBy (va_wsS RX4 41 yX4_in wsX4_in) := goodIn_app (goodIn_of _ (by decide +kernel)) ggX4_goesBy_X4_in
set_option maxRecDepth 20000 in
theorem ggX4_goesBy_X4_isHush : GoodIn wsX4_goesBy wsX4_isHush := goodIn_r _ [26, 1, 7, 8, 9, 5, 10, 2, 3, 4, 6, 37, 38, 39, 40, 41, 42, 43, 44, 45, 46, 47, 48, 49, 50, 51] (by decide +kernel) (by decide +kernel)
set_option maxRecDepth 20000 in
theorem gX4_goesBy_X4_isHush : GoodIn wsX4_goesBy (wsV RX4 52 RX4 yX4_isHush wsX4_isHush) := goodIn_app (goodIn_of _ (by decide +kernel)) ggX4_goesBy_X4_isHush
set_option maxRecDepth 20000 in
theorem ggX4_goesBy_X4_held : GoodIn wsX4_goesBy wsX4_held := goodIn_r _ [32] (by decide +kernel) (by decide +kernel)
set_option maxRecDepth 20000 in
theorem gX4_goesBy_X4_held : GoodIn wsX4_goesBy (va_wsS RX4 67 yX4_held wsX4_held) := goodIn_app (goodIn_of _ (by decide +kernel)) ggX4_goesBy_X4_held
set_option maxRecDepth 20000 in
theorem ggX4_goesBy_X4_isBell : GoodIn wsX4_goesBy wsX4_isBell := goodIn_r _ [36, 7, 8, 9, 5, 10, 1, 37, 38, 39, 40, 41, 42, 43, 44, 45, 46, 47, 48, 49, 50, 51] (by decide +kernel) (by decide +kernel)
set_option maxRecDepth 20000 in
theorem gX4_goesBy_X4_isBell : GoodIn wsX4_goesBy (wsV RX4 71 RX4 yX4_isBell wsX4_isBell) := goodIn_app (goodIn_of _ (by decide +kernel)) ggX4_goesBy_X4_isBell
theorem dX4_goesBy_0 : decode cX4_goesBy 0 = .ok (.aload_n 0, 1) := by decide +kernel
theorem dX4_goesBy_1 : decode cX4_goesBy 1 = .ok (.invokevirtual 49, 3) := by decide +kernel
theorem dX4_goesBy_4 : decode cX4_goesBy 4 = .ok (.aload_n 0, 1) := by decide +kernel
theorem dX4_goesBy_5 : decode cX4_goesBy 5 = .ok (.iload_n 1, 1) := by decide +kernel
theorem dX4_goesBy_6 : decode cX4_goesBy 6 = .ok (.iconst 1, 1) := by decide +kernel
theorem dX4_goesBy_7 : decode cX4_goesBy 7 = .ok (.invokevirtual 56, 3) := by decide +kernel
theorem dX4_goesBy_10 : decode cX4_goesBy 10 = .ok (.isub, 1) := by decide +kernel
theorem dX4_goesBy_11 : decode cX4_goesBy 11 = .ok (.istore_n 2, 1) := by decide +kernel
theorem dX4_goesBy_12 : decode cX4_goesBy 12 = .ok (.aload_n 0, 1) := by decide +kernel
theorem dX4_goesBy_13 : decode cX4_goesBy 13 = .ok (.iload_n 1, 1) := by decide +kernel
theorem dX4_goesBy_14 : decode cX4_goesBy 14 = .ok (.invokevirtual 64, 3) := by decide +kernel
theorem dX4_goesBy_17 : decode cX4_goesBy 17 = .ok (.ifCond .eq 12, 3) := by decide +kernel
theorem dX4_goesBy_20 : decode cX4_goesBy 20 = .ok (.aload_n 0, 1) := by decide +kernel
theorem dX4_goesBy_21 : decode cX4_goesBy 21 = .ok (.getfield 9, 3) := by decide +kernel
theorem dX4_goesBy_24 : decode cX4_goesBy 24 = .ok (.iconst 3, 1) := by decide +kernel
theorem dX4_goesBy_25 : decode cX4_goesBy 25 = .ok (.iaload, 1) := by decide +kernel
theorem dX4_goesBy_26 : decode cX4_goesBy 26 = .ok (.goto 4, 3) := by decide +kernel
theorem dX4_goesBy_29 : decode cX4_goesBy 29 = .ok (.iconst 0, 1) := by decide +kernel
theorem dX4_goesBy_30 : decode cX4_goesBy 30 = .ok (.istore_n 3, 1) := by decide +kernel
theorem dX4_goesBy_31 : decode cX4_goesBy 31 = .ok (.iload_n 2, 1) := by decide +kernel
theorem dX4_goesBy_32 : decode cX4_goesBy 32 = .ok (.i2l, 1) := by decide +kernel
theorem dX4_goesBy_33 : decode cX4_goesBy 33 = .ok (.bipush (-3), 2) := by decide +kernel
theorem dX4_goesBy_35 : decode cX4_goesBy 35 = .ok (.iconst 0, 1) := by decide +kernel
theorem dX4_goesBy_36 : decode cX4_goesBy 36 = .ok (.invokestatic 41, 3) := by decide +kernel
theorem dX4_goesBy_39 : decode cX4_goesBy 39 = .ok (.ifCond .eq 7, 3) := by decide +kernel
theorem dX4_goesBy_42 : decode cX4_goesBy 42 = .ok (.iconst 2, 1) := by decide +kernel
theorem dX4_goesBy_43 : decode cX4_goesBy 43 = .ok (.goto 4, 3) := by decide +kernel
theorem dX4_goesBy_46 : decode cX4_goesBy 46 = .ok (.iconst 0, 1) := by decide +kernel
theorem dX4_goesBy_47 : decode cX4_goesBy 47 = .ok (.istore 4, 2) := by decide +kernel
theorem dX4_goesBy_49 : decode cX4_goesBy 49 = .ok (.aload_n 0, 1) := by decide +kernel
theorem dX4_goesBy_50 : decode cX4_goesBy 50 = .ok (.invokevirtual 52, 3) := by decide +kernel
theorem dX4_goesBy_53 : decode cX4_goesBy 53 = .ok (.ifCond .ne 19, 3) := by decide +kernel
theorem dX4_goesBy_56 : decode cX4_goesBy 56 = .ok (.aload_n 0, 1) := by decide +kernel
theorem dX4_goesBy_57 : decode cX4_goesBy 57 = .ok (.iload_n 1, 1) := by decide +kernel
theorem dX4_goesBy_58 : decode cX4_goesBy 58 = .ok (.iconst 0, 1) := by decide +kernel
theorem dX4_goesBy_59 : decode cX4_goesBy 59 = .ok (.invokevirtual 56, 3) := by decide +kernel
theorem dX4_goesBy_62 : decode cX4_goesBy 62 = .ok (.iconst 3, 1) := by decide +kernel
theorem dX4_goesBy_63 : decode cX4_goesBy 63 = .ok (.if_icmp .ne 7, 3) := by decide +kernel
theorem dX4_goesBy_66 : decode cX4_goesBy 66 = .ok (.iconst (-1), 1) := by decide +kernel
theorem dX4_goesBy_67 : decode cX4_goesBy 67 = .ok (.goto 4, 3) := by decide +kernel
theorem dX4_goesBy_70 : decode cX4_goesBy 70 = .ok (.iconst 0, 1) := by decide +kernel
theorem dX4_goesBy_71 : decode cX4_goesBy 71 = .ok (.ireturn, 1) := by decide +kernel
theorem dX4_goesBy_72 : decode cX4_goesBy 72 = .ok (.aload_n 0, 1) := by decide +kernel
theorem dX4_goesBy_73 : decode cX4_goesBy 73 = .ok (.iload_n 1, 1) := by decide +kernel
theorem dX4_goesBy_74 : decode cX4_goesBy 74 = .ok (.iconst 0, 1) := by decide +kernel
theorem dX4_goesBy_75 : decode cX4_goesBy 75 = .ok (.invokevirtual 56, 3) := by decide +kernel
theorem dX4_goesBy_78 : decode cX4_goesBy 78 = .ok (.tableswitch 74 1 5 #[34, 36, 39, 47, 60], 34) := by decide +kernel
theorem dX4_goesBy_112 : decode cX4_goesBy 112 = .ok (.iload_n 3, 1) := by decide +kernel
theorem dX4_goesBy_113 : decode cX4_goesBy 113 = .ok (.ireturn, 1) := by decide +kernel
theorem dX4_goesBy_114 : decode cX4_goesBy 114 = .ok (.iload 4, 2) := by decide +kernel
theorem dX4_goesBy_116 : decode cX4_goesBy 116 = .ok (.ireturn, 1) := by decide +kernel
theorem dX4_goesBy_117 : decode cX4_goesBy 117 = .ok (.iload_n 2, 1) := by decide +kernel
theorem dX4_goesBy_118 : decode cX4_goesBy 118 = .ok (.bipush (-4), 2) := by decide +kernel
theorem dX4_goesBy_120 : decode cX4_goesBy 120 = .ok (.iconst 4, 1) := by decide +kernel
theorem dX4_goesBy_121 : decode cX4_goesBy 121 = .ok (.invokestatic 67, 3) := by decide +kernel
theorem dX4_goesBy_124 : decode cX4_goesBy 124 = .ok (.ireturn, 1) := by decide +kernel
theorem dX4_goesBy_125 : decode cX4_goesBy 125 = .ok (.aload_n 0, 1) := by decide +kernel
theorem dX4_goesBy_126 : decode cX4_goesBy 126 = .ok (.invokevirtual 71, 3) := by decide +kernel
theorem dX4_goesBy_129 : decode cX4_goesBy 129 = .ok (.ifCond .eq 7, 3) := by decide +kernel
theorem dX4_goesBy_132 : decode cX4_goesBy 132 = .ok (.iconst 0, 1) := by decide +kernel
theorem dX4_goesBy_133 : decode cX4_goesBy 133 = .ok (.goto 4, 3) := by decide +kernel
theorem dX4_goesBy_136 : decode cX4_goesBy 136 = .ok (.iload_n 3, 1) := by decide +kernel
theorem dX4_goesBy_137 : decode cX4_goesBy 137 = .ok (.ireturn, 1) := by decide +kernel
theorem dX4_goesBy_138 : decode cX4_goesBy 138 = .ok (.iload_n 2, 1) := by decide +kernel
theorem dX4_goesBy_139 : decode cX4_goesBy 139 = .ok (.ifCond .ne 10, 3) := by decide +kernel
theorem dX4_goesBy_142 : decode cX4_goesBy 142 = .ok (.iload 4, 2) := by decide +kernel
theorem dX4_goesBy_144 : decode cX4_goesBy 144 = .ok (.iconst 1, 1) := by decide +kernel
theorem dX4_goesBy_145 : decode cX4_goesBy 145 = .ok (.iadd, 1) := by decide +kernel
theorem dX4_goesBy_146 : decode cX4_goesBy 146 = .ok (.goto 5, 3) := by decide +kernel
theorem dX4_goesBy_149 : decode cX4_goesBy 149 = .ok (.iload 4, 2) := by decide +kernel
theorem dX4_goesBy_151 : decode cX4_goesBy 151 = .ok (.ireturn, 1) := by decide +kernel
theorem dX4_goesBy_152 : decode cX4_goesBy 152 = .ok (.iconst 0, 1) := by decide +kernel
theorem dX4_goesBy_153 : decode cX4_goesBy 153 = .ok (.ireturn, 1) := by decide +kernel
set_option maxRecDepth 20000 in
theorem ggX4_talks_X4_it : GoodIn wsX4_talks wsX4_it := goodIn_r _ [5, 6, 31, 32, 33, 34, 35, 36, 37, 38, 39, 40, 41, 42, 43, 44, 45] (by decide +kernel) (by decide +kernel)
set_option maxRecDepth 20000 in
theorem gX4_talks_X4_it : GoodIn wsX4_talks (wsV RX4 56 RX4 yX4_it wsX4_it) := goodIn_app (goodIn_of _ (by decide +kernel)) ggX4_talks_X4_it
set_option maxRecDepth 20000 in
theorem ggX4_talks_X4_isBell : GoodIn wsX4_talks wsX4_isBell := goodIn_r _ [10, 11, 12, 13, 4, 14, 6, 31, 32, 33, 34, 35, 36, 37, 38, 39, 40, 41, 42, 43, 44, 45] (by decide +kernel) (by decide +kernel)
set_option maxRecDepth 20000 in
theorem gX4_talks_X4_isBell : GoodIn wsX4_talks (wsV RX4 71 RX4 yX4_isBell wsX4_isBell) := goodIn_app (goodIn_of _ (by decide +kernel)) ggX4_talks_X4_isBell
set_option maxRecDepth 20000 in
theorem ggX4_talks_X4_isIn : GoodIn wsX4_talks wsX4_isIn := goodIn_r _ [18, 1, 2, 3, 4, 5, 6, 19, 20, 21, 22, 23, 24, 25, 26, 11, 12, 13, 14, 27, 28, 29, 30, 31, 32, 33, 34, 35, 36, 37, 38, 39, 40, 41, 42, 43, 44, 45] (by decide +kernel) (by decide +kernel)
set_option maxRecDepth 20000 in
theorem gX4_talks_X4_isIn : GoodIn wsX4_talks (wsV RX4 64 RX4 yX4_isIn wsX4_isIn) := goodIn_app (goodIn_of _ (by decide +kernel)) ggX4_talks_X4_isIn
theorem dX4_talks_0 : decode cX4_talks 0 = .ok (.aload_n 0, 1) := by decide +kernel
theorem dX4_talks_1 : decode cX4_talks 1 = .ok (.iload_n 1, 1) := by decide +kernel
theorem dX4_talks_2 : decode cX4_talks 2 = .ok (.iconst 0, 1) := by decide +kernel
theorem dX4_talks_3 : decode cX4_talks 3 = .ok (.invokevirtual 56, 3) := by decide +kernel
theorem dX4_talks_6 : decode cX4_talks 6 = .ok (.iconst 4, 1) := by decide +kernel
theorem dX4_talks_7 : decode cX4_talks 7 = .ok (.if_icmp .ne 14, 3) := by decide +kernel
theorem dX4_talks_10 : decode cX4_talks 10 = .ok (.aload_n 0, 1) := by decide +kernel
theorem dX4_talks_11 : decode cX4_talks 11 = .ok (.invokevirtual 71, 3) := by decide +kernel
theorem dX4_talks_14 : decode cX4_talks 14 = .ok (.ifCond .eq 7, 3) := by decide +kernel
theorem dX4_talks_17 : decode cX4_talks 17 = .ok (.iconst 1, 1) := by decide +kernel
theorem dX4_talks_18 : decode cX4_talks 18 = .ok (.goto 4, 3) := by decide +kernel
theorem dX4_talks_21 : decode cX4_talks 21 = .ok (.iconst 0, 1) := by decide +kernel
theorem dX4_talks_22 : decode cX4_talks 22 = .ok (.istore_n 2, 1) := by decide +kernel
theorem dX4_talks_23 : decode cX4_talks 23 = .ok (.aload_n 0, 1) := by decide +kernel
theorem dX4_talks_24 : decode cX4_talks 24 = .ok (.iload_n 1, 1) := by decide +kernel
theorem dX4_talks_25 : decode cX4_talks 25 = .ok (.invokevirtual 64, 3) := by decide +kernel
theorem dX4_talks_28 : decode cX4_talks 28 = .ok (.ifCond .eq 13, 3) := by decide +kernel
theorem dX4_talks_31 : decode cX4_talks 31 = .ok (.iload_n 2, 1) := by decide +kernel
theorem dX4_talks_32 : decode cX4_talks 32 = .ok (.ifCond .eq 7, 3) := by decide +kernel
theorem dX4_talks_35 : decode cX4_talks 35 = .ok (.iconst 1, 1) := by decide +kernel
theorem dX4_talks_36 : decode cX4_talks 36 = .ok (.goto 4, 3) := by decide +kernel
theorem dX4_talks_39 : decode cX4_talks 39 = .ok (.iconst 0, 1) := by decide +kernel
theorem dX4_talks_40 : decode cX4_talks 40 = .ok (.ireturn, 1) := by decide +kernel
theorem dX4_talks_41 : decode cX4_talks 41 = .ok (.aload_n 0, 1) := by decide +kernel
theorem dX4_talks_42 : decode cX4_talks 42 = .ok (.iload_n 1, 1) := by decide +kernel
theorem dX4_talks_43 : decode cX4_talks 43 = .ok (.iconst 0, 1) := by decide +kernel
theorem dX4_talks_44 : decode cX4_talks 44 = .ok (.invokevirtual 56, 3) := by decide +kernel
theorem dX4_talks_47 : decode cX4_talks 47 = .ok (.tableswitch 52 1 5 #[33, 35, 37, 39, 50], 33) := by decide +kernel
theorem dX4_talks_80 : decode cX4_talks 80 = .ok (.iconst 5, 1) := by decide +kernel
theorem dX4_talks_81 : decode cX4_talks 81 = .ok (.ireturn, 1) := by decide +kernel
theorem dX4_talks_82 : decode cX4_talks 82 = .ok (.iconst 4, 1) := by decide +kernel
theorem dX4_talks_83 : decode cX4_talks 83 = .ok (.ireturn, 1) := by decide +kernel
theorem dX4_talks_84 : decode cX4_talks 84 = .ok (.iconst 1, 1) := by decide +kernel
theorem dX4_talks_85 : decode cX4_talks 85 = .ok (.ireturn, 1) := by decide +kernel
theorem dX4_talks_86 : decode cX4_talks 86 = .ok (.iload_n 2, 1) := by decide +kernel
theorem dX4_talks_87 : decode cX4_talks 87 = .ok (.ifCond .eq 8, 3) := by decide +kernel
theorem dX4_talks_90 : decode cX4_talks 90 = .ok (.bipush 6, 2) := by decide +kernel
theorem dX4_talks_92 : decode cX4_talks 92 = .ok (.goto 4, 3) := by decide +kernel
theorem dX4_talks_95 : decode cX4_talks 95 = .ok (.iconst 5, 1) := by decide +kernel
theorem dX4_talks_96 : decode cX4_talks 96 = .ok (.ireturn, 1) := by decide +kernel
theorem dX4_talks_97 : decode cX4_talks 97 = .ok (.iconst 3, 1) := by decide +kernel
theorem dX4_talks_98 : decode cX4_talks 98 = .ok (.ireturn, 1) := by decide +kernel
theorem dX4_talks_99 : decode cX4_talks 99 = .ok (.iconst 2, 1) := by decide +kernel
theorem dX4_talks_100 : decode cX4_talks 100 = .ok (.ireturn, 1) := by decide +kernel
set_option maxRecDepth 20000 in
theorem ggX4_stepsOver_X4_it : GoodIn wsX4_stepsOver wsX4_it := goodIn_r _ [5, 6, 7, 8, 9, 10, 11, 12, 13, 14, 15, 16, 17, 18, 19, 20, 21] (by decide +kernel) (by decide +kernel)
set_option maxRecDepth 20000 in
theorem gX4_stepsOver_X4_it : GoodIn wsX4_stepsOver (wsV RX4 56 RX4 yX4_it wsX4_it) := goodIn_app (goodIn_of _ (by decide +kernel)) ggX4_stepsOver_X4_it
theorem dX4_stepsOver_0 : decode cX4_stepsOver 0 = .ok (.aload_n 0, 1) := by decide +kernel
theorem dX4_stepsOver_1 : decode cX4_stepsOver 1 = .ok (.iload_n 1, 1) := by decide +kernel
theorem dX4_stepsOver_2 : decode cX4_stepsOver 2 = .ok (.iconst 0, 1) := by decide +kernel
theorem dX4_stepsOver_3 : decode cX4_stepsOver 3 = .ok (.invokevirtual 56, 3) := by decide +kernel
theorem dX4_stepsOver_6 : decode cX4_stepsOver 6 = .ok (.tableswitch 54 1 5 #[34, 54, 36, 34, 38], 34) := by decide +kernel
theorem dX4_stepsOver_40 : decode cX4_stepsOver 40 = .ok (.iconst 0, 1) := by decide +kernel
theorem dX4_stepsOver_41 : decode cX4_stepsOver 41 = .ok (.ireturn, 1) := by decide +kernel
theorem dX4_stepsOver_42 : decode cX4_stepsOver 42 = .ok (.iconst 1, 1) := by decide +kernel
theorem dX4_stepsOver_43 : decode cX4_stepsOver 43 = .ok (.ireturn, 1) := by decide +kernel
theorem dX4_stepsOver_44 : decode cX4_stepsOver 44 = .ok (.aload_n 0, 1) := by decide +kernel
theorem dX4_stepsOver_45 : decode cX4_stepsOver 45 = .ok (.iload_n 1, 1) := by decide +kernel
theorem dX4_stepsOver_46 : decode cX4_stepsOver 46 = .ok (.iconst 3, 1) := by decide +kernel
theorem dX4_stepsOver_47 : decode cX4_stepsOver 47 = .ok (.invokevirtual 56, 3) := by decide +kernel
theorem dX4_stepsOver_50 : decode cX4_stepsOver 50 = .ok (.iconst 1, 1) := by decide +kernel
theorem dX4_stepsOver_51 : decode cX4_stepsOver 51 = .ok (.if_icmp .lt 7, 3) := by decide +kernel
theorem dX4_stepsOver_54 : decode cX4_stepsOver 54 = .ok (.iconst 1, 1) := by decide +kernel
theorem dX4_stepsOver_55 : decode cX4_stepsOver 55 = .ok (.goto 4, 3) := by decide +kernel
theorem dX4_stepsOver_58 : decode cX4_stepsOver 58 = .ok (.iconst 0, 1) := by decide +kernel
theorem dX4_stepsOver_59 : decode cX4_stepsOver 59 = .ok (.ireturn, 1) := by decide +kernel
theorem dX4_stepsOver_60 : decode cX4_stepsOver 60 = .ok (.aload_n 0, 1) := by decide +kernel
theorem dX4_stepsOver_61 : decode cX4_stepsOver 61 = .ok (.iload_n 1, 1) := by decide +kernel
theorem dX4_stepsOver_62 : decode cX4_stepsOver 62 = .ok (.iconst 3, 1) := by decide +kernel
theorem dX4_stepsOver_63 : decode cX4_stepsOver 63 = .ok (.invokevirtual 56, 3) := by decide +kernel
theorem dX4_stepsOver_66 : decode cX4_stepsOver 66 = .ok (.iconst 3, 1) := by decide +kernel
theorem dX4_stepsOver_67 : decode cX4_stepsOver 67 = .ok (.if_icmp .lt 7, 3) := by decide +kernel
theorem dX4_stepsOver_70 : decode cX4_stepsOver 70 = .ok (.iconst 1, 1) := by decide +kernel
theorem dX4_stepsOver_71 : decode cX4_stepsOver 71 = .ok (.goto 4, 3) := by decide +kernel
theorem dX4_stepsOver_74 : decode cX4_stepsOver 74 = .ok (.iconst 0, 1) := by decide +kernel
theorem dX4_stepsOver_75 : decode cX4_stepsOver 75 = .ok (.ireturn, 1) := by decide +kernel
set_option maxRecDepth 20000 in
theorem ggX4_noise_X4_isHouse : GoodIn wsX4_noise wsX4_isHouse := goodIn_r _ [5, 6, 7, 4, 8] (by decide +kernel) (by decide +kernel)
set_option maxRecDepth 20000 in
theorem gX4_noise_X4_isHouse : GoodIn wsX4_noise (va_wsS RX4 74 yX4_isHouse wsX4_isHouse) := goodIn_app (goodIn_of _ (by decide +kernel)) ggX4_noise_X4_isHouse
set_option maxRecDepth 20000 in
theorem ggX4_noise_X4_in : GoodIn wsX4_noise wsX4_in := goodIn_r _ [8] (by decide +kernel) (by decide +kernel)
set_option maxRecDepth 20000 in
theorem gX4_noise_X4_in : GoodIn wsX4_noise (va_wsS RX4 41 yX4_in wsX4_in) := goodIn_app (goodIn_of _ (by decide +kernel)) ggX4_noise_X4_in
set_option maxRecDepth 20000 in
theorem ggX4_noise_X4_becomes : GoodIn wsX4_noise wsX4_becomes := goodIn_r _ [12, 13, 19, 20, 21, 22, 23, 24, 25, 26, 27, 28, 29, 30, 31, 32, 33] (by decide +kernel) (by decide +kernel)
set_option maxRecDepth 20000 in
theorem gX4_noise_X4_becomes : GoodIn wsX4_noise (wsV RX4 77 RX4 yX4_becomes wsX4_becomes) := goodIn_app (goodIn_of _ (by decide +kernel)) ggX4_noise_X4_becomes
set_option maxRecDepth 20000 in
theorem ggX4_noise_X4_finds : GoodIn wsX4_noise wsX4_finds := goodIn_r _ [17, 18, 1, 19, 20, 21, 22, 23, 24, 25, 26, 27, 28, 29, 30, 31, 32, 33] (by decide +kernel) (by decide +kernel)
set_option maxRecDepth 20000 in
theorem gX4_noise_X4_finds : GoodIn wsX4_noise (wsV RX4 37 RX4 yX4_finds wsX4_finds) := goodIn_app (goodIn_of _ (by decide +kernel)) ggX4_noise_X4_finds
theorem dX4_noise_0 : decode cX4_noise 0 = .ok (.iload_n 1, 1) := by decide +kernel
theorem dX4_noise_1 : decode cX4_noise 1 = .ok (.invokestatic 74, 3) := by decide +kernel
theorem dX4_noise_4 : decode cX4_noise 4 = .ok (.ifCond .eq 25, 3) := by decide +kernel
theorem dX4_noise_7 : decode cX4_noise 7 = .ok (.iload_n 2, 1) := by decide +kernel
theorem dX4_noise_8 : decode cX4_noise 8 = .ok (.i2l, 1) := by decide +kernel
theorem dX4_noise_9 : decode cX4_noise 9 = .ok (.iconst 0, 1) := by decide +kernel
theorem dX4_noise_10 : decode cX4_noise 10 = .ok (.bipush 20, 2) := by decide +kernel
theorem dX4_noise_12 : decode cX4_noise 12 = .ok (.invokestatic 41, 3) := by decide +kernel
theorem dX4_noise_15 : decode cX4_noise 15 = .ok (.ifCond .eq 14, 3) := by decide +kernel
theorem dX4_noise_18 : decode cX4_noise 18 = .ok (.aload_n 0, 1) := by decide +kernel
theorem dX4_noise_19 : decode cX4_noise 19 = .ok (.iconst 5, 1) := by decide +kernel
theorem dX4_noise_20 : decode cX4_noise 20 = .ok (.iload_n 1, 1) := by decide +kernel
theorem dX4_noise_21 : decode cX4_noise 21 = .ok (.iadd, 1) := by decide +kernel
theorem dX4_noise_22 : decode cX4_noise 22 = .ok (.iload_n 2, 1) := by decide +kernel
theorem dX4_noise_23 : decode cX4_noise 23 = .ok (.invokevirtual 77, 3) := by decide +kernel
theorem dX4_noise_26 : decode cX4_noise 26 = .ok (.goto 9, 3) := by decide +kernel
theorem dX4_noise_29 : decode cX4_noise 29 = .ok (.aload_n 0, 1) := by decide +kernel
theorem dX4_noise_30 : decode cX4_noise 30 = .ok (.ldc 35, 2) := by decide +kernel
theorem dX4_noise_32 : decode cX4_noise 32 = .ok (.invokevirtual 37, 3) := by decide +kernel
theorem dX4_noise_35 : decode cX4_noise 35 = .ok (.ireturn, 1) := by decide +kernel
set_option maxRecDepth 20000 in
theorem ggX4_hush_X4_in : GoodIn wsX4_hush wsX4_in := goodIn_r _ [5] (by decide +kernel) (by decide +kernel)
set_option maxRecDepth 20000 in
theorem gX4_hush_X4_in : GoodIn wsX4_hush (va_wsS RX4 41 yX4_in wsX4_in) := goodIn_app (goodIn_of _ (by decide +kernel)) ggX4_hush_X4_in
set_option maxRecDepth 20000 in
theorem ggX4_hush_X4_becomes : GoodIn wsX4_hush wsX4_becomes := goodIn_r _ [9, 10, 16, 17, 18, 19, 20, 21, 22, 23, 24, 25, 26, 27, 28, 29, 30] (by decide +kernel) (by decide +kernel)
set_option maxRecDepth 20000 in
theorem gX4_hush_X4_becomes : GoodIn wsX4_hush (wsV RX4 77 RX4 yX4_becomes wsX4_becomes) := goodIn_app (goodIn_of _ (by decide +kernel)) ggX4_hush_X4_becomes
set_option maxRecDepth 20000 in
theorem ggX4_hush_X4_finds : GoodIn wsX4_hush wsX4_finds := goodIn_r _ [14, 15, 1, 16, 17, 18, 19, 20, 21, 22, 23, 24, 25, 26, 27, 28, 29, 30] (by decide +kernel) (by decide +kernel)
set_option maxRecDepth 20000 in
theorem gX4_hush_X4_finds : GoodIn wsX4_hush (wsV RX4 37 RX4 yX4_finds wsX4_finds) := goodIn_app (goodIn_of _ (by decide +kernel)) ggX4_hush_X4_finds
theorem dX4_hush_0 : decode cX4_hush 0 = .ok (.iload_n 1, 1) := by decide +kernel
theorem dX4_hush_1 : decode cX4_hush 1 = .ok (.i2l, 1) := by decide +kernel
theorem dX4_hush_2 : decode cX4_hush 2 = .ok (.iconst 0, 1) := by decide +kernel
theorem dX4_hush_3 : decode cX4_hush 3 = .ok (.iconst 2, 1) := by decide +kernel
theorem dX4_hush_4 : decode cX4_hush 4 = .ok (.invokestatic 41, 3) := by decide +kernel
theorem dX4_hush_7 : decode cX4_hush 7 = .ok (.ifCond .eq 45, 3) := by decide +kernel
theorem dX4_hush_10 : decode cX4_hush 10 = .ok (.iload_n 2, 1) := by decide +kernel
theorem dX4_hush_11 : decode cX4_hush 11 = .ok (.i2l, 1) := by decide +kernel
theorem dX4_hush_12 : decode cX4_hush 12 = .ok (.iload_n 1, 1) := by decide +kernel
theorem dX4_hush_13 : decode cX4_hush 13 = .ok (.iconst 2, 1) := by decide +kernel
theorem dX4_hush_14 : decode cX4_hush 14 = .ok (.if_icmp .ne 7, 3) := by decide +kernel
theorem dX4_hush_17 : decode cX4_hush 17 = .ok (.iconst 1, 1) := by decide +kernel
theorem dX4_hush_18 : decode cX4_hush 18 = .ok (.goto 4, 3) := by decide +kernel
theorem dX4_hush_21 : decode cX4_hush 21 = .ok (.iconst 0, 1) := by decide +kernel
theorem dX4_hush_22 : decode cX4_hush 22 = .ok (.iload_n 1, 1) := by decide +kernel
theorem dX4_hush_23 : decode cX4_hush 23 = .ok (.ifCond .ne 8, 3) := by decide +kernel
theorem dX4_hush_26 : decode cX4_hush 26 = .ok (.bipush 99, 2) := by decide +kernel
theorem dX4_hush_28 : decode cX4_hush 28 = .ok (.goto 14, 3) := by decide +kernel
theorem dX4_hush_31 : decode cX4_hush 31 = .ok (.iload_n 1, 1) := by decide +kernel
theorem dX4_hush_32 : decode cX4_hush 32 = .ok (.iconst 1, 1) := by decide +kernel
theorem dX4_hush_33 : decode cX4_hush 33 = .ok (.if_icmp .ne 8, 3) := by decide +kernel
theorem dX4_hush_36 : decode cX4_hush 36 = .ok (.bipush 10, 2) := by decide +kernel
theorem dX4_hush_38 : decode cX4_hush 38 = .ok (.goto 4, 3) := by decide +kernel
theorem dX4_hush_41 : decode cX4_hush 41 = .ok (.iconst 5, 1) := by decide +kernel
theorem dX4_hush_42 : decode cX4_hush 42 = .ok (.invokestatic 41, 3) := by decide +kernel
theorem dX4_hush_45 : decode cX4_hush 45 = .ok (.ifCond .eq 7, 3) := by decide +kernel
theorem dX4_hush_48 : decode cX4_hush 48 = .ok (.iconst 1, 1) := by decide +kernel
theorem dX4_hush_49 : decode cX4_hush 49 = .ok (.goto 4, 3) := by decide +kernel
theorem dX4_hush_52 : decode cX4_hush 52 = .ok (.iconst 0, 1) := by decide +kernel
theorem dX4_hush_53 : decode cX4_hush 53 = .ok (.istore_n 3, 1) := by decide +kernel
theorem dX4_hush_54 : decode cX4_hush 54 = .ok (.iload_n 3, 1) := by decide +kernel
theorem dX4_hush_55 : decode cX4_hush 55 = .ok (.ifCond .eq 14, 3) := by decide +kernel
theorem dX4_hush_58 : decode cX4_hush 58 = .ok (.aload_n 0, 1) := by decide +kernel
theorem dX4_hush_59 : decode cX4_hush 59 = .ok (.iconst 1, 1) := by decide +kernel
theorem dX4_hush_60 : decode cX4_hush 60 = .ok (.iload_n 1, 1) := by decide +kernel
theorem dX4_hush_61 : decode cX4_hush 61 = .ok (.iadd, 1) := by decide +kernel
theorem dX4_hush_62 : decode cX4_hush 62 = .ok (.iload_n 2, 1) := by decide +kernel
theorem dX4_hush_63 : decode cX4_hush 63 = .ok (.invokevirtual 77, 3) := by decide +kernel
theorem dX4_hush_66 : decode cX4_hush 66 = .ok (.goto 9, 3) := by decide +kernel
theorem dX4_hush_69 : decode cX4_hush 69 = .ok (.aload_n 0, 1) := by decide +kernel
theorem dX4_hush_70 : decode cX4_hush 70 = .ok (.ldc 35, 2) := by decide +kernel
theorem dX4_hush_72 : decode cX4_hush 72 = .ok (.invokevirtual 37, 3) := by decide +kernel
theorem dX4_hush_75 : decode cX4_hush 75 = .ok (.ireturn, 1) := by decide +kernel
set_option maxRecDepth 20000 in
theorem ggX4_whoAt_X4_it : GoodIn wsX4_whoAt wsX4_it := goodIn_r _ [6, 1, 7, 8, 9, 10, 11, 12, 13, 14, 15, 16, 17, 18, 19, 20, 21] (by decide +kernel) (by decide +kernel)
set_option maxRecDepth 20000 in
theorem gX4_whoAt_X4_it : GoodIn wsX4_whoAt (wsV RX4 56 RX4 yX4_it wsX4_it) := goodIn_app (goodIn_of _ (by decide +kernel)) ggX4_whoAt_X4_it
theorem dX4_whoAt_0 : decode cX4_whoAt 0 = .ok (.iconst 0, 1) := by decide +kernel
theorem dX4_whoAt_1 : decode cX4_whoAt 1 = .ok (.istore_n 2, 1) := by decide +kernel
theorem dX4_whoAt_2 : decode cX4_whoAt 2 = .ok (.iconst 0, 1) := by decide +kernel
theorem dX4_whoAt_3 : decode cX4_whoAt 3 = .ok (.istore_n 3, 1) := by decide +kernel
theorem dX4_whoAt_4 : decode cX4_whoAt 4 = .ok (.iload_n 3, 1) := by decide +kernel
theorem dX4_whoAt_5 : decode cX4_whoAt 5 = .ok (.aload_n 0, 1) := by decide +kernel
theorem dX4_whoAt_6 : decode cX4_whoAt 6 = .ok (.getfield 9, 3) := by decide +kernel
theorem dX4_whoAt_9 : decode cX4_whoAt 9 = .ok (.iconst 4, 1) := by decide +kernel
theorem dX4_whoAt_10 : decode cX4_whoAt 10 = .ok (.iaload, 1) := by decide +kernel
theorem dX4_whoAt_11 : decode cX4_whoAt 11 = .ok (.if_icmp .ge 29, 3) := by decide +kernel
theorem dX4_whoAt_14 : decode cX4_whoAt 14 = .ok (.iload_n 2, 1) := by decide +kernel
theorem dX4_whoAt_15 : decode cX4_whoAt 15 = .ok (.aload_n 0, 1) := by decide +kernel
theorem dX4_whoAt_16 : decode cX4_whoAt 16 = .ok (.iload_n 3, 1) := by decide +kernel
theorem dX4_whoAt_17 : decode cX4_whoAt 17 = .ok (.iconst 1, 1) := by decide +kernel
theorem dX4_whoAt_18 : decode cX4_whoAt 18 = .ok (.invokevirtual 56, 3) := by decide +kernel
theorem dX4_whoAt_21 : decode cX4_whoAt 21 = .ok (.iload_n 1, 1) := by decide +kernel
theorem dX4_whoAt_22 : decode cX4_whoAt 22 = .ok (.if_icmp .ne 9, 3) := by decide +kernel
theorem dX4_whoAt_25 : decode cX4_whoAt 25 = .ok (.iconst 1, 1) := by decide +kernel
theorem dX4_whoAt_26 : decode cX4_whoAt 26 = .ok (.iload_n 3, 1) := by decide +kernel
theorem dX4_whoAt_27 : decode cX4_whoAt 27 = .ok (.ishl, 1) := by decide +kernel
theorem dX4_whoAt_28 : decode cX4_whoAt 28 = .ok (.goto 4, 3) := by decide +kernel
theorem dX4_whoAt_31 : decode cX4_whoAt 31 = .ok (.iconst 0, 1) := by decide +kernel
theorem dX4_whoAt_32 : decode cX4_whoAt 32 = .ok (.ior, 1) := by decide +kernel
theorem dX4_whoAt_33 : decode cX4_whoAt 33 = .ok (.istore_n 2, 1) := by decide +kernel
theorem dX4_whoAt_34 : decode cX4_whoAt 34 = .ok (.iinc 3 1, 3) := by decide +kernel
theorem dX4_whoAt_37 : decode cX4_whoAt 37 = .ok (.goto (-33), 3) := by decide +kernel
theorem dX4_whoAt_40 : decode cX4_whoAt 40 = .ok (.iload_n 2, 1) := by decide +kernel
theorem dX4_whoAt_41 : decode cX4_whoAt 41 = .ok (.ireturn, 1) := by decide +kernel
set_option maxRecDepth 20000 in
theorem ggX4_house_X4_isHouse : GoodIn wsX4_house wsX4_isHouse := goodIn_r _ [6, 7, 8, 5, 9] (by decide +kernel) (by decide +kernel)
set_option maxRecDepth 20000 in
theorem gX4_house_X4_isHouse : GoodIn wsX4_house (va_wsS RX4 74 yX4_isHouse wsX4_isHouse) := goodIn_app (goodIn_of _ (by decide +kernel)) ggX4_house_X4_isHouse
set_option maxRecDepth 20000 in
theorem ggX4_house_X4_in : GoodIn wsX4_house wsX4_in := goodIn_r _ [9] (by decide +kernel) (by decide +kernel)
set_option maxRecDepth 20000 in
theorem gX4_house_X4_in : GoodIn wsX4_house (va_wsS RX4 41 yX4_in wsX4_in) := goodIn_app (goodIn_of _ (by decide +kernel)) ggX4_house_X4_in
set_option maxRecDepth 20000 in
theorem ggX4_house_X4_finds : GoodIn wsX4_house wsX4_finds := goodIn_r _ [13, 14, 1, 39, 40, 41, 42, 43, 44, 45, 46, 47, 48, 49, 50, 51, 52, 53] (by decide +kernel) (by decide +kernel)
set_option maxRecDepth 20000 in
theorem gX4_house_X4_finds : GoodIn wsX4_house (wsV RX4 37 RX4 yX4_finds wsX4_finds) := goodIn_app (goodIn_of _ (by decide +kernel)) ggX4_house_X4_finds
set_option maxRecDepth 20000 in
theorem ggX4_house_X4_whoAt : GoodIn wsX4_house wsX4_whoAt := goodIn_r _ [18, 2, 19, 20, 21, 5, 22, 39, 40, 41, 42, 43, 44, 45, 46, 47, 48, 49, 50, 51, 52, 53] (by decide +kernel) (by decide +kernel)
set_option maxRecDepth 20000 in
theorem gX4_house_X4_whoAt : GoodIn wsX4_house (wsV RX4 80 RX4 yX4_whoAt wsX4_whoAt) := goodIn_app (goodIn_of _ (by decide +kernel)) ggX4_house_X4_whoAt
set_option maxRecDepth 20000 in
theorem ggX4_house_X4_isTaken : GoodIn wsX4_house wsX4_isTaken := goodIn_r _ [26, 2, 27, 28, 29, 5, 30, 31, 32, 33, 34, 35, 36, 37, 38, 39, 40, 41, 42, 43, 44, 45, 46, 47, 48, 49, 50, 51, 52, 53] (by decide +kernel) (by decide +kernel)
set_option maxRecDepth 20000 in
theorem gX4_house_X4_isTaken : GoodIn wsX4_house (wsV RX4 60 RX4 yX4_isTaken wsX4_isTaken) := goodIn_app (goodIn_of _ (by decide +kernel)) ggX4_house_X4_isTaken
theorem dX4_house_0 : decode cX4_house 0 = .ok (.iload_n 1, 1) := by decide +kernel
theorem dX4_house_1 : decode cX4_house 1 = .ok (.invokestatic 74, 3) := by decide +kernel
theorem dX4_house_4 : decode cX4_house 4 = .ok (.ifCond .eq 13, 3) := by decide +kernel
theorem dX4_house_7 : decode cX4_house 7 = .ok (.iload_n 2, 1) := by decide +kernel
theorem dX4_house_8 : decode cX4_house 8 = .ok (.i2l, 1) := by decide +kernel
theorem dX4_house_9 : decode cX4_house 9 = .ok (.iconst 0, 1) := by decide +kernel
theorem dX4_house_10 : decode cX4_house 10 = .ok (.iconst 2, 1) := by decide +kernel
theorem dX4_house_11 : decode cX4_house 11 = .ok (.invokestatic 41, 3) := by decide +kernel
theorem dX4_house_14 : decode cX4_house 14 = .ok (.ifCond .ne 10, 3) := by decide +kernel
theorem dX4_house_17 : decode cX4_house 17 = .ok (.aload_n 0, 1) := by decide +kernel
theorem dX4_house_18 : decode cX4_house 18 = .ok (.ldc 35, 2) := by decide +kernel
theorem dX4_house_20 : decode cX4_house 20 = .ok (.invokevirtual 37, 3) := by decide +kernel
theorem dX4_house_23 : decode cX4_house 23 = .ok (.ireturn, 1) := by decide +kernel
theorem dX4_house_24 : decode cX4_house 24 = .ok (.iload_n 2, 1) := by decide +kernel
theorem dX4_house_25 : decode cX4_house 25 = .ok (.ifCond .ne 14, 3) := by decide +kernel
theorem dX4_house_28 : decode cX4_house 28 = .ok (.aload_n 0, 1) := by decide +kernel
theorem dX4_house_29 : decode cX4_house 29 = .ok (.getfield 9, 3) := by decide +kernel
theorem dX4_house_32 : decode cX4_house 32 = .ok (.iconst 5, 1) := by decide +kernel
theorem dX4_house_33 : decode cX4_house 33 = .ok (.iload_n 1, 1) := by decide +kernel
theorem dX4_house_34 : decode cX4_house 34 = .ok (.iadd, 1) := by decide +kernel
theorem dX4_house_35 : decode cX4_house 35 = .ok (.iaload, 1) := by decide +kernel
theorem dX4_house_36 : decode cX4_house 36 = .ok (.goto 29, 3) := by decide +kernel
theorem dX4_house_39 : decode cX4_house 39 = .ok (.iload_n 2, 1) := by decide +kernel
theorem dX4_house_40 : decode cX4_house 40 = .ok (.iconst 2, 1) := by decide +kernel
theorem dX4_house_41 : decode cX4_house 41 = .ok (.if_icmp .ne 11, 3) := by decide +kernel
theorem dX4_house_44 : decode cX4_house 44 = .ok (.aload_n 0, 1) := by decide +kernel
theorem dX4_house_45 : decode cX4_house 45 = .ok (.iload_n 1, 1) := by decide +kernel
theorem dX4_house_46 : decode cX4_house 46 = .ok (.invokevirtual 80, 3) := by decide +kernel
theorem dX4_house_49 : decode cX4_house 49 = .ok (.goto 16, 3) := by decide +kernel
theorem dX4_house_52 : decode cX4_house 52 = .ok (.aload_n 0, 1) := by decide +kernel
theorem dX4_house_53 : decode cX4_house 53 = .ok (.iload_n 1, 1) := by decide +kernel
theorem dX4_house_54 : decode cX4_house 54 = .ok (.invokevirtual 60, 3) := by decide +kernel
theorem dX4_house_57 : decode cX4_house 57 = .ok (.ifCond .eq 7, 3) := by decide +kernel
theorem dX4_house_60 : decode cX4_house 60 = .ok (.iconst 1, 1) := by decide +kernel
theorem dX4_house_61 : decode cX4_house 61 = .ok (.goto 4, 3) := by decide +kernel
theorem dX4_house_64 : decode cX4_house 64 = .ok (.iconst 0, 1) := by decide +kernel
theorem dX4_house_65 : decode cX4_house 65 = .ok (.ireturn, 1) := by decide +kernel
set_option maxRecDepth 20000 in
theorem ggX4_insiders_X4_isIn : GoodIn wsX4_insiders wsX4_isIn := goodIn_r _ [6, 7, 8, 9, 5, 10, 1, 11, 12, 13, 14, 15, 16, 17, 18, 19, 20, 21, 22, 23, 24, 25, 26, 27, 28, 29, 30, 31, 32, 33, 34, 35, 36, 37, 38, 39, 40, 41] (by decide +kernel) (by decide +kernel)
set_option maxRecDepth 20000 in
theorem gX4_insiders_X4_isIn : GoodIn wsX4_insiders (wsV RX4 64 RX4 yX4_isIn wsX4_isIn) := goodIn_app (goodIn_of _ (by decide +kernel)) ggX4_insiders_X4_isIn
theorem dX4_insiders_0 : decode cX4_insiders 0 = .ok (.iconst 0, 1) := by decide +kernel
theorem dX4_insiders_1 : decode cX4_insiders 1 = .ok (.istore_n 1, 1) := by decide +kernel
theorem dX4_insiders_2 : decode cX4_insiders 2 = .ok (.iconst 0, 1) := by decide +kernel
theorem dX4_insiders_3 : decode cX4_insiders 3 = .ok (.istore_n 2, 1) := by decide +kernel
theorem dX4_insiders_4 : decode cX4_insiders 4 = .ok (.iload_n 2, 1) := by decide +kernel
theorem dX4_insiders_5 : decode cX4_insiders 5 = .ok (.aload_n 0, 1) := by decide +kernel
theorem dX4_insiders_6 : decode cX4_insiders 6 = .ok (.getfield 9, 3) := by decide +kernel
theorem dX4_insiders_9 : decode cX4_insiders 9 = .ok (.iconst 4, 1) := by decide +kernel
theorem dX4_insiders_10 : decode cX4_insiders 10 = .ok (.iaload, 1) := by decide +kernel
theorem dX4_insiders_11 : decode cX4_insiders 11 = .ok (.if_icmp .ge 27, 3) := by decide +kernel
theorem dX4_insiders_14 : decode cX4_insiders 14 = .ok (.iload_n 1, 1) := by decide +kernel
theorem dX4_insiders_15 : decode cX4_insiders 15 = .ok (.aload_n 0, 1) := by decide +kernel
theorem dX4_insiders_16 : decode cX4_insiders 16 = .ok (.iload_n 2, 1) := by decide +kernel
theorem dX4_insiders_17 : decode cX4_insiders 17 = .ok (.invokevirtual 64, 3) := by decide +kernel
theorem dX4_insiders_20 : decode cX4_insiders 20 = .ok (.ifCond .eq 9, 3) := by decide +kernel
theorem dX4_insiders_23 : decode cX4_insiders 23 = .ok (.iconst 1, 1) := by decide +kernel
theorem dX4_insiders_24 : decode cX4_insiders 24 = .ok (.iload_n 2, 1) := by decide +kernel
theorem dX4_insiders_25 : decode cX4_insiders 25 = .ok (.ishl, 1) := by decide +kernel
theorem dX4_insiders_26 : decode cX4_insiders 26 = .ok (.goto 4, 3) := by decide +kernel
theorem dX4_insiders_29 : decode cX4_insiders 29 = .ok (.iconst 0, 1) := by decide +kernel
theorem dX4_insiders_30 : decode cX4_insiders 30 = .ok (.ior, 1) := by decide +kernel
theorem dX4_insiders_31 : decode cX4_insiders 31 = .ok (.istore_n 1, 1) := by decide +kernel
theorem dX4_insiders_32 : decode cX4_insiders 32 = .ok (.iinc 2 1, 3) := by decide +kernel
theorem dX4_insiders_35 : decode cX4_insiders 35 = .ok (.goto (-31), 3) := by decide +kernel
theorem dX4_insiders_38 : decode cX4_insiders 38 = .ok (.iload_n 1, 1) := by decide +kernel
theorem dX4_insiders_39 : decode cX4_insiders 39 = .ok (.ireturn, 1) := by decide +kernel
set_option maxRecDepth 20000 in
theorem ggX4_isHeard_X4_isTaken : GoodIn wsX4_isHeard wsX4_isTaken := goodIn_r _ [6, 1, 7, 8, 9, 5, 10, 11, 12, 13, 14, 15, 16, 17, 18, 35, 36, 37, 38, 39, 40, 41, 42, 43, 44, 45, 46, 47, 48, 49] (by decide +kernel) (by decide +kernel)
set_option maxRecDepth 20000 in
theorem gX4_isHeard_X4_isTaken : GoodIn wsX4_isHeard (wsV RX4 60 RX4 yX4_isTaken wsX4_isTaken) := goodIn_app (goodIn_of _ (by decide +kernel)) ggX4_isHeard_X4_isTaken
set_option maxRecDepth 20000 in
theorem ggX4_isHeard_X4_talks : GoodIn wsX4_isHeard wsX4_talks := goodIn_r _ [22, 23, 24, 25, 5, 26, 1, 27, 28, 29, 30, 11, 12, 13, 14, 31, 32, 33, 34, 2, 3, 4, 6, 7, 8, 9, 10, 15, 16, 17, 18, 35, 36, 37, 38, 39, 40, 41, 42, 43, 44, 45, 46, 47, 48, 49] (by decide +kernel) (by decide +kernel)
set_option maxRecDepth 20000 in
theorem gX4_isHeard_X4_talks : GoodIn wsX4_isHeard (wsV RX4 83 RX4 yX4_talks wsX4_talks) := goodIn_app (goodIn_of _ (by decide +kernel)) ggX4_isHeard_X4_talks
theorem dX4_isHeard_0 : decode cX4_isHeard 0 = .ok (.iconst 0, 1) := by decide +kernel
theorem dX4_isHeard_1 : decode cX4_isHeard 1 = .ok (.istore_n 1, 1) := by decide +kernel
theorem dX4_isHeard_2 : decode cX4_isHeard 2 = .ok (.iconst 0, 1) := by decide +kernel
theorem dX4_isHeard_3 : decode cX4_isHeard 3 = .ok (.istore_n 2, 1) := by decide +kernel
theorem dX4_isHeard_4 : decode cX4_isHeard 4 = .ok (.iload_n 2, 1) := by decide +kernel
theorem dX4_isHeard_5 : decode cX4_isHeard 5 = .ok (.bipush 30, 2) := by decide +kernel
theorem dX4_isHeard_7 : decode cX4_isHeard 7 = .ok (.if_icmp .ge 32, 3) := by decide +kernel
theorem dX4_isHeard_10 : decode cX4_isHeard 10 = .ok (.iload_n 1, 1) := by decide +kernel
theorem dX4_isHeard_11 : decode cX4_isHeard 11 = .ok (.aload_n 0, 1) := by decide +kernel
theorem dX4_isHeard_12 : decode cX4_isHeard 12 = .ok (.iload_n 2, 1) := by decide +kernel
theorem dX4_isHeard_13 : decode cX4_isHeard 13 = .ok (.invokevirtual 60, 3) := by decide +kernel
theorem dX4_isHeard_16 : decode cX4_isHeard 16 = .ok (.ifCond .eq 7, 3) := by decide +kernel
theorem dX4_isHeard_19 : decode cX4_isHeard 19 = .ok (.iconst 0, 1) := by decide +kernel
theorem dX4_isHeard_20 : decode cX4_isHeard 20 = .ok (.goto 11, 3) := by decide +kernel
theorem dX4_isHeard_23 : decode cX4_isHeard 23 = .ok (.aload_n 0, 1) := by decide +kernel
theorem dX4_isHeard_24 : decode cX4_isHeard 24 = .ok (.getfield 9, 3) := by decide +kernel
theorem dX4_isHeard_27 : decode cX4_isHeard 27 = .ok (.iconst 5, 1) := by decide +kernel
theorem dX4_isHeard_28 : decode cX4_isHeard 28 = .ok (.iload_n 2, 1) := by decide +kernel
theorem dX4_isHeard_29 : decode cX4_isHeard 29 = .ok (.iadd, 1) := by decide +kernel
theorem dX4_isHeard_30 : decode cX4_isHeard 30 = .ok (.iaload, 1) := by decide +kernel
theorem dX4_isHeard_31 : decode cX4_isHeard 31 = .ok (.iadd, 1) := by decide +kernel
theorem dX4_isHeard_32 : decode cX4_isHeard 32 = .ok (.istore_n 1, 1) := by decide +kernel
theorem dX4_isHeard_33 : decode cX4_isHeard 33 = .ok (.iinc 2 1, 3) := by decide +kernel
theorem dX4_isHeard_36 : decode cX4_isHeard 36 = .ok (.goto (-32), 3) := by decide +kernel
theorem dX4_isHeard_39 : decode cX4_isHeard 39 = .ok (.iconst 0, 1) := by decide +kernel
theorem dX4_isHeard_40 : decode cX4_isHeard 40 = .ok (.istore_n 2, 1) := by decide +kernel
theorem dX4_isHeard_41 : decode cX4_isHeard 41 = .ok (.iload_n 2, 1) := by decide +kernel
theorem dX4_isHeard_42 : decode cX4_isHeard 42 = .ok (.aload_n 0, 1) := by decide +kernel
theorem dX4_isHeard_43 : decode cX4_isHeard 43 = .ok (.getfield 9, 3) := by decide +kernel
theorem dX4_isHeard_46 : decode cX4_isHeard 46 = .ok (.iconst 4, 1) := by decide +kernel
theorem dX4_isHeard_47 : decode cX4_isHeard 47 = .ok (.iaload, 1) := by decide +kernel
theorem dX4_isHeard_48 : decode cX4_isHeard 48 = .ok (.if_icmp .ge 17, 3) := by decide +kernel
theorem dX4_isHeard_51 : decode cX4_isHeard 51 = .ok (.iload_n 1, 1) := by decide +kernel
theorem dX4_isHeard_52 : decode cX4_isHeard 52 = .ok (.aload_n 0, 1) := by decide +kernel
theorem dX4_isHeard_53 : decode cX4_isHeard 53 = .ok (.iload_n 2, 1) := by decide +kernel
theorem dX4_isHeard_54 : decode cX4_isHeard 54 = .ok (.invokevirtual 83, 3) := by decide +kernel
theorem dX4_isHeard_57 : decode cX4_isHeard 57 = .ok (.iadd, 1) := by decide +kernel
theorem dX4_isHeard_58 : decode cX4_isHeard 58 = .ok (.istore_n 1, 1) := by decide +kernel
theorem dX4_isHeard_59 : decode cX4_isHeard 59 = .ok (.iinc 2 1, 3) := by decide +kernel
theorem dX4_isHeard_62 : decode cX4_isHeard 62 = .ok (.goto (-21), 3) := by decide +kernel
theorem dX4_isHeard_65 : decode cX4_isHeard 65 = .ok (.iload_n 1, 1) := by decide +kernel
theorem dX4_isHeard_66 : decode cX4_isHeard 66 = .ok (.ireturn, 1) := by decide +kernel
set_option maxRecDepth 20000 in
theorem ggX4_now_X4_clock : GoodIn wsX4_now wsX4_clock := goodIn_r _ [7, 1, 49, 50, 51, 52, 53, 54, 55, 56, 57, 58, 59, 60, 61, 62, 63] (by decide +kernel) (by decide +kernel)
set_option maxRecDepth 20000 in
theorem gX4_now_X4_clock : GoodIn wsX4_now (wsV RX4 45 RX4 yX4_clock wsX4_clock) := goodIn_app (goodIn_of _ (by decide +kernel)) ggX4_now_X4_clock
set_option maxRecDepth 20000 in
theorem ggX4_now_X4_isHush : GoodIn wsX4_now wsX4_isHush := goodIn_r _ [11, 1, 3, 4, 5, 6, 7, 12, 13, 14, 15, 49, 50, 51, 52, 53, 54, 55, 56, 57, 58, 59, 60, 61, 62, 63] (by decide +kernel) (by decide +kernel)
set_option maxRecDepth 20000 in
theorem gX4_now_X4_isHush : GoodIn wsX4_now (wsV RX4 52 RX4 yX4_isHush wsX4_isHush) := goodIn_app (goodIn_of _ (by decide +kernel)) ggX4_now_X4_isHush
set_option maxRecDepth 20000 in
theorem ggX4_now_X4_edge : GoodIn wsX4_now wsX4_edge := goodIn_r _ [15, 1, 3, 4, 5, 6, 7, 49, 50, 51, 52, 53, 54, 55, 56, 57, 58, 59, 60, 61, 62, 63] (by decide +kernel) (by decide +kernel)
set_option maxRecDepth 20000 in
theorem gX4_now_X4_edge : GoodIn wsX4_now (wsV RX4 49 RX4 yX4_edge wsX4_edge) := goodIn_app (goodIn_of _ (by decide +kernel)) ggX4_now_X4_edge
set_option maxRecDepth 20000 in
theorem ggX4_now_X4_isHeard : GoodIn wsX4_now wsX4_isHeard := goodIn_r _ [19, 1, 20, 21, 22, 6, 23, 8, 9, 10, 11, 3, 4, 5, 7, 12, 13, 14, 15, 24, 25, 26, 27, 28, 29, 30, 31, 32, 33, 34, 35, 36, 37, 38, 39, 49, 50, 51, 52, 53, 54, 55, 56, 57, 58, 59, 60, 61, 62, 63] (by decide +kernel) (by decide +kernel)
set_option maxRecDepth 20000 in
theorem gX4_now_X4_isHeard : GoodIn wsX4_now (wsV RX4 86 RX4 yX4_isHeard wsX4_isHeard) := goodIn_app (goodIn_of _ (by decide +kernel)) ggX4_now_X4_isHeard
set_option maxRecDepth 20000 in
theorem ggX4_now_X4_insiders : GoodIn wsX4_now wsX4_insiders := goodIn_r _ [43, 1, 36, 37, 38, 6, 39, 28, 29, 30, 31, 20, 21, 22, 23, 8, 9, 10, 11, 3, 4, 5, 7, 12, 13, 14, 15, 49, 50, 51, 52, 53, 54, 55, 56, 57, 58, 59, 60, 61, 62, 63] (by decide +kernel) (by decide +kernel)
set_option maxRecDepth 20000 in
theorem gX4_now_X4_insiders : GoodIn wsX4_now (wsV RX4 89 RX4 yX4_insiders wsX4_insiders) := goodIn_app (goodIn_of _ (by decide +kernel)) ggX4_now_X4_insiders
set_option maxRecDepth 20000 in
theorem ggX4_now_X4_finds : GoodIn wsX4_now wsX4_finds := goodIn_r _ [47, 48, 2, 49, 50, 51, 52, 53, 54, 55, 56, 57, 58, 59, 60, 61, 62, 63] (by decide +kernel) (by decide +kernel)
set_option maxRecDepth 20000 in
theorem gX4_now_X4_finds : GoodIn wsX4_now (wsV RX4 37 RX4 yX4_finds wsX4_finds) := goodIn_app (goodIn_of _ (by decide +kernel)) ggX4_now_X4_finds
theorem dX4_now_0 : decode cX4_now 0 = .ok (.iload_n 1, 1) := by decide +kernel
theorem dX4_now_1 : decode cX4_now 1 = .ok (.tableswitch 98 0 7 #[47, 54, 59, 77, 82, 87, 87, 87], 47) := by decide +kernel
theorem dX4_now_48 : decode cX4_now 48 = .ok (.aload_n 0, 1) := by decide +kernel
theorem dX4_now_49 : decode cX4_now 49 = .ok (.getfield 9, 3) := by decide +kernel
theorem dX4_now_52 : decode cX4_now 52 = .ok (.iconst 0, 1) := by decide +kernel
theorem dX4_now_53 : decode cX4_now 53 = .ok (.iaload, 1) := by decide +kernel
theorem dX4_now_54 : decode cX4_now 54 = .ok (.ireturn, 1) := by decide +kernel
theorem dX4_now_55 : decode cX4_now 55 = .ok (.aload_n 0, 1) := by decide +kernel
theorem dX4_now_56 : decode cX4_now 56 = .ok (.invokevirtual 45, 3) := by decide +kernel
theorem dX4_now_59 : decode cX4_now 59 = .ok (.ireturn, 1) := by decide +kernel
theorem dX4_now_60 : decode cX4_now 60 = .ok (.aload_n 0, 1) := by decide +kernel
theorem dX4_now_61 : decode cX4_now 61 = .ok (.invokevirtual 52, 3) := by decide +kernel
theorem dX4_now_64 : decode cX4_now 64 = .ok (.ifCond .eq 12, 3) := by decide +kernel
theorem dX4_now_67 : decode cX4_now 67 = .ok (.iconst 1, 1) := by decide +kernel
theorem dX4_now_68 : decode cX4_now 68 = .ok (.aload_n 0, 1) := by decide +kernel
theorem dX4_now_69 : decode cX4_now 69 = .ok (.invokevirtual 49, 3) := by decide +kernel
theorem dX4_now_72 : decode cX4_now 72 = .ok (.iadd, 1) := by decide +kernel
theorem dX4_now_73 : decode cX4_now 73 = .ok (.goto 4, 3) := by decide +kernel
theorem dX4_now_76 : decode cX4_now 76 = .ok (.iconst 0, 1) := by decide +kernel
theorem dX4_now_77 : decode cX4_now 77 = .ok (.ireturn, 1) := by decide +kernel
theorem dX4_now_78 : decode cX4_now 78 = .ok (.aload_n 0, 1) := by decide +kernel
theorem dX4_now_79 : decode cX4_now 79 = .ok (.invokevirtual 86, 3) := by decide +kernel
theorem dX4_now_82 : decode cX4_now 82 = .ok (.ireturn, 1) := by decide +kernel
theorem dX4_now_83 : decode cX4_now 83 = .ok (.aload_n 0, 1) := by decide +kernel
theorem dX4_now_84 : decode cX4_now 84 = .ok (.invokevirtual 89, 3) := by decide +kernel
theorem dX4_now_87 : decode cX4_now 87 = .ok (.ireturn, 1) := by decide +kernel
theorem dX4_now_88 : decode cX4_now 88 = .ok (.aload_n 0, 1) := by decide +kernel
theorem dX4_now_89 : decode cX4_now 89 = .ok (.getfield 9, 3) := by decide +kernel
theorem dX4_now_92 : decode cX4_now 92 = .ok (.iconst 1, 1) := by decide +kernel
theorem dX4_now_93 : decode cX4_now 93 = .ok (.iload_n 1, 1) := by decide +kernel
theorem dX4_now_94 : decode cX4_now 94 = .ok (.iadd, 1) := by decide +kernel
theorem dX4_now_95 : decode cX4_now 95 = .ok (.iconst 5, 1) := by decide +kernel
theorem dX4_now_96 : decode cX4_now 96 = .ok (.isub, 1) := by decide +kernel
theorem dX4_now_97 : decode cX4_now 97 = .ok (.iaload, 1) := by decide +kernel
theorem dX4_now_98 : decode cX4_now 98 = .ok (.ireturn, 1) := by decide +kernel
theorem dX4_now_99 : decode cX4_now 99 = .ok (.aload_n 0, 1) := by decide +kernel
theorem dX4_now_100 : decode cX4_now 100 = .ok (.ldc 35, 2) := by decide +kernel
theorem dX4_now_102 : decode cX4_now 102 = .ok (.invokevirtual 37, 3) := by decide +kernel
theorem dX4_now_105 : decode cX4_now 105 = .ok (.ireturn, 1) := by decide +kernel
set_option maxRecDepth 20000 in
theorem ggX4_comesAs_X4_put : GoodIn wsX4_comesAs wsX4_put := goodIn_r _ [6, 1, 7, 8, 9, 10, 11, 12, 13, 14, 15, 16, 17, 18, 19, 20, 21] (by decide +kernel) (by decide +kernel)
set_option maxRecDepth 20000 in
theorem gX4_comesAs_X4_put : GoodIn wsX4_comesAs (wsV RX4 92 RX4 yX4_put wsX4_put) := goodIn_app (goodIn_of _ (by decide +kernel)) ggX4_comesAs_X4_put
theorem dX4_comesAs_0 : decode cX4_comesAs 0 = .ok (.aload_n 0, 1) := by decide +kernel
theorem dX4_comesAs_1 : decode cX4_comesAs 1 = .ok (.getfield 9, 3) := by decide +kernel
theorem dX4_comesAs_4 : decode cX4_comesAs 4 = .ok (.iconst 4, 1) := by decide +kernel
theorem dX4_comesAs_5 : decode cX4_comesAs 5 = .ok (.iaload, 1) := by decide +kernel
theorem dX4_comesAs_6 : decode cX4_comesAs 6 = .ok (.istore_n 3, 1) := by decide +kernel
theorem dX4_comesAs_7 : decode cX4_comesAs 7 = .ok (.aload_n 0, 1) := by decide +kernel
theorem dX4_comesAs_8 : decode cX4_comesAs 8 = .ok (.getfield 9, 3) := by decide +kernel
theorem dX4_comesAs_11 : decode cX4_comesAs 11 = .ok (.iconst 4, 1) := by decide +kernel
theorem dX4_comesAs_12 : decode cX4_comesAs 12 = .ok (.dup2, 1) := by decide +kernel
theorem dX4_comesAs_13 : decode cX4_comesAs 13 = .ok (.iaload, 1) := by decide +kernel
theorem dX4_comesAs_14 : decode cX4_comesAs 14 = .ok (.iconst 1, 1) := by decide +kernel
theorem dX4_comesAs_15 : decode cX4_comesAs 15 = .ok (.iadd, 1) := by decide +kernel
theorem dX4_comesAs_16 : decode cX4_comesAs 16 = .ok (.iastore, 1) := by decide +kernel
theorem dX4_comesAs_17 : decode cX4_comesAs 17 = .ok (.aload_n 0, 1) := by decide +kernel
theorem dX4_comesAs_18 : decode cX4_comesAs 18 = .ok (.iload_n 3, 1) := by decide +kernel
theorem dX4_comesAs_19 : decode cX4_comesAs 19 = .ok (.iconst 0, 1) := by decide +kernel
theorem dX4_comesAs_20 : decode cX4_comesAs 20 = .ok (.iload_n 1, 1) := by decide +kernel
theorem dX4_comesAs_21 : decode cX4_comesAs 21 = .ok (.invokevirtual 92, 3) := by decide +kernel
theorem dX4_comesAs_24 : decode cX4_comesAs 24 = .ok (.aload_n 0, 1) := by decide +kernel
theorem dX4_comesAs_25 : decode cX4_comesAs 25 = .ok (.iload_n 3, 1) := by decide +kernel
theorem dX4_comesAs_26 : decode cX4_comesAs 26 = .ok (.iconst 1, 1) := by decide +kernel
theorem dX4_comesAs_27 : decode cX4_comesAs 27 = .ok (.iload_n 2, 1) := by decide +kernel
theorem dX4_comesAs_28 : decode cX4_comesAs 28 = .ok (.invokevirtual 92, 3) := by decide +kernel
theorem dX4_comesAs_31 : decode cX4_comesAs 31 = .ok (.aload_n 0, 1) := by decide +kernel
theorem dX4_comesAs_32 : decode cX4_comesAs 32 = .ok (.iload_n 3, 1) := by decide +kernel
theorem dX4_comesAs_33 : decode cX4_comesAs 33 = .ok (.iconst 2, 1) := by decide +kernel
theorem dX4_comesAs_34 : decode cX4_comesAs 34 = .ok (.iconst 0, 1) := by decide +kernel
theorem dX4_comesAs_35 : decode cX4_comesAs 35 = .ok (.invokevirtual 92, 3) := by decide +kernel
theorem dX4_comesAs_38 : decode cX4_comesAs 38 = .ok (.aload_n 0, 1) := by decide +kernel
theorem dX4_comesAs_39 : decode cX4_comesAs 39 = .ok (.iload_n 3, 1) := by decide +kernel
theorem dX4_comesAs_40 : decode cX4_comesAs 40 = .ok (.iconst 3, 1) := by decide +kernel
theorem dX4_comesAs_41 : decode cX4_comesAs 41 = .ok (.iconst 0, 1) := by decide +kernel
theorem dX4_comesAs_42 : decode cX4_comesAs 42 = .ok (.invokevirtual 92, 3) := by decide +kernel
theorem dX4_comesAs_45 : decode cX4_comesAs 45 = .ok (.aload_n 0, 1) := by decide +kernel
theorem dX4_comesAs_46 : decode cX4_comesAs 46 = .ok (.iload_n 3, 1) := by decide +kernel
theorem dX4_comesAs_47 : decode cX4_comesAs 47 = .ok (.iconst 4, 1) := by decide +kernel
theorem dX4_comesAs_48 : decode cX4_comesAs 48 = .ok (.iconst 0, 1) := by decide +kernel
theorem dX4_comesAs_49 : decode cX4_comesAs 49 = .ok (.invokevirtual 92, 3) := by decide +kernel
theorem dX4_comesAs_52 : decode cX4_comesAs 52 = .ok (.iload_n 3, 1) := by decide +kernel
theorem dX4_comesAs_53 : decode cX4_comesAs 53 = .ok (.ireturn, 1) := by decide +kernel
set_option maxRecDepth 20000 in
theorem ggX4_person_X4_in : GoodIn wsX4_person wsX4_in := goodIn_r _ [7] (by decide +kernel) (by decide +kernel)
set_option maxRecDepth 20000 in
theorem gX4_person_X4_in : GoodIn wsX4_person (va_wsS RX4 41 yX4_in wsX4_in) := goodIn_app (goodIn_of _ (by decide +kernel)) ggX4_person_X4_in
set_option maxRecDepth 20000 in
theorem ggX4_person_X4_isHouse : GoodIn wsX4_person wsX4_isHouse := goodIn_r _ [10, 4, 5, 6, 7] (by decide +kernel) (by decide +kernel)
set_option maxRecDepth 20000 in
theorem gX4_person_X4_isHouse : GoodIn wsX4_person (va_wsS RX4 74 yX4_isHouse wsX4_isHouse) := goodIn_app (goodIn_of _ (by decide +kernel)) ggX4_person_X4_isHouse
set_option maxRecDepth 20000 in
theorem ggX4_person_X4_finds : GoodIn wsX4_person wsX4_finds := goodIn_r _ [14, 15, 1, 24, 25, 26, 27, 28, 29, 30, 31, 32, 33, 34, 35, 36, 37, 38] (by decide +kernel) (by decide +kernel)
set_option maxRecDepth 20000 in
theorem gX4_person_X4_finds : GoodIn wsX4_person (wsV RX4 37 RX4 yX4_finds wsX4_finds) := goodIn_app (goodIn_of _ (by decide +kernel)) ggX4_person_X4_finds
set_option maxRecDepth 20000 in
theorem ggX4_person_X4_comesAs : GoodIn wsX4_person wsX4_comesAs := goodIn_r _ [19, 2, 20, 21, 22, 6, 23, 24, 25, 26, 27, 28, 29, 30, 31, 32, 33, 34, 35, 36, 37, 38] (by decide +kernel) (by decide +kernel)
set_option maxRecDepth 20000 in
theorem gX4_person_X4_comesAs : GoodIn wsX4_person (wsV RX4 97 RX4 yX4_comesAs wsX4_comesAs) := goodIn_app (goodIn_of _ (by decide +kernel)) ggX4_person_X4_comesAs
theorem dX4_person_0 : decode cX4_person 0 = .ok (.iload_n 1, 1) := by decide +kernel
theorem dX4_person_1 : decode cX4_person 1 = .ok (.i2l, 1) := by decide +kernel
theorem dX4_person_2 : decode cX4_person 2 = .ok (.iconst 0, 1) := by decide +kernel
theorem dX4_person_3 : decode cX4_person 3 = .ok (.iconst 5, 1) := by decide +kernel
theorem dX4_person_4 : decode cX4_person 4 = .ok (.invokestatic 41, 3) := by decide +kernel
theorem dX4_person_7 : decode cX4_person 7 = .ok (.ifCond .eq 10, 3) := by decide +kernel
theorem dX4_person_10 : decode cX4_person 10 = .ok (.iload_n 2, 1) := by decide +kernel
theorem dX4_person_11 : decode cX4_person 11 = .ok (.invokestatic 74, 3) := by decide +kernel
theorem dX4_person_14 : decode cX4_person 14 = .ok (.ifCond .ne 10, 3) := by decide +kernel
theorem dX4_person_17 : decode cX4_person 17 = .ok (.aload_n 0, 1) := by decide +kernel
theorem dX4_person_18 : decode cX4_person 18 = .ok (.ldc 35, 2) := by decide +kernel
theorem dX4_person_20 : decode cX4_person 20 = .ok (.invokevirtual 37, 3) := by decide +kernel
theorem dX4_person_23 : decode cX4_person 23 = .ok (.ireturn, 1) := by decide +kernel
theorem dX4_person_24 : decode cX4_person 24 = .ok (.aload_n 0, 1) := by decide +kernel
theorem dX4_person_25 : decode cX4_person 25 = .ok (.getfield 9, 3) := by decide +kernel
theorem dX4_person_28 : decode cX4_person 28 = .ok (.iconst 4, 1) := by decide +kernel
theorem dX4_person_29 : decode cX4_person 29 = .ok (.iaload, 1) := by decide +kernel
theorem dX4_person_30 : decode cX4_person 30 = .ok (.bipush 8, 2) := by decide +kernel
theorem dX4_person_32 : decode cX4_person 32 = .ok (.if_icmp .ne 12, 3) := by decide +kernel
theorem dX4_person_35 : decode cX4_person 35 = .ok (.aload_n 0, 1) := by decide +kernel
theorem dX4_person_36 : decode cX4_person 36 = .ok (.ldc 96, 2) := by decide +kernel
theorem dX4_person_38 : decode cX4_person 38 = .ok (.invokevirtual 37, 3) := by decide +kernel
theorem dX4_person_41 : decode cX4_person 41 = .ok (.goto 9, 3) := by decide +kernel
theorem dX4_person_44 : decode cX4_person 44 = .ok (.aload_n 0, 1) := by decide +kernel
theorem dX4_person_45 : decode cX4_person 45 = .ok (.iload_n 1, 1) := by decide +kernel
theorem dX4_person_46 : decode cX4_person 46 = .ok (.iload_n 2, 1) := by decide +kernel
theorem dX4_person_47 : decode cX4_person 47 = .ok (.invokevirtual 97, 3) := by decide +kernel
theorem dX4_person_50 : decode cX4_person 50 = .ok (.ireturn, 1) := by decide +kernel
set_option maxRecDepth 20000 in
theorem ggX4_of_X4_isPerson : GoodIn wsX4_of wsX4_isPerson := goodIn_r _ [6, 7, 8, 9, 5, 10, 59, 60, 61, 62, 63, 64, 65, 66, 67, 68, 69, 70, 71, 72, 73] (by decide +kernel) (by decide +kernel)
set_option maxRecDepth 20000 in
theorem gX4_of_X4_isPerson : GoodIn wsX4_of (wsV RX4 100 RX4 yX4_isPerson wsX4_isPerson) := goodIn_app (goodIn_of _ (by decide +kernel)) ggX4_of_X4_isPerson
set_option maxRecDepth 20000 in
theorem ggX4_of_X4_in : GoodIn wsX4_of wsX4_in := goodIn_r _ [10] (by decide +kernel) (by decide +kernel)
set_option maxRecDepth 20000 in
theorem gX4_of_X4_in : GoodIn wsX4_of (va_wsS RX4 41 yX4_in wsX4_in) := goodIn_app (goodIn_of _ (by decide +kernel)) ggX4_of_X4_in
set_option maxRecDepth 20000 in
theorem ggX4_of_X4_finds : GoodIn wsX4_of wsX4_finds := goodIn_r _ [14, 15, 1, 59, 60, 61, 62, 63, 64, 65, 66, 67, 68, 69, 70, 71, 72, 73] (by decide +kernel) (by decide +kernel)
set_option maxRecDepth 20000 in
theorem gX4_of_X4_finds : GoodIn wsX4_of (wsV RX4 37 RX4 yX4_finds wsX4_finds) := goodIn_app (goodIn_of _ (by decide +kernel)) ggX4_of_X4_finds
set_option maxRecDepth 20000 in
theorem ggX4_of_X4_goesBy : GoodIn wsX4_of wsX4_goesBy := goodIn_r _ [19, 7, 20, 21, 22, 5, 23, 24, 25, 26, 27, 28, 29, 30, 31, 32, 33, 34, 35, 36, 37, 38, 39, 40, 41, 42, 43, 8, 9, 10, 44, 45, 46, 47, 48, 49, 50, 59, 60, 61, 62, 63, 64, 65, 66, 67, 68, 69, 70, 71, 72, 73] (by decide +kernel) (by decide +kernel)
set_option maxRecDepth 20000 in
theorem gX4_of_X4_goesBy : GoodIn wsX4_of (wsV RX4 103 RX4 yX4_goesBy wsX4_goesBy) := goodIn_app (goodIn_of _ (by decide +kernel)) ggX4_of_X4_goesBy
set_option maxRecDepth 20000 in
theorem ggX4_of_X4_talks : GoodIn wsX4_of wsX4_talks := goodIn_r _ [54, 28, 29, 30, 5, 31, 7, 47, 48, 49, 50, 24, 25, 26, 27, 32, 33, 34, 35, 36, 37, 38, 39, 40, 41, 42, 43, 20, 21, 22, 23, 59, 60, 61, 62, 63, 64, 65, 66, 67, 68, 69, 70, 71, 72, 73] (by decide +kernel) (by decide +kernel)
set_option maxRecDepth 20000 in
theorem gX4_of_X4_talks : GoodIn wsX4_of (wsV RX4 83 RX4 yX4_talks wsX4_talks) := goodIn_app (goodIn_of _ (by decide +kernel)) ggX4_of_X4_talks
set_option maxRecDepth 20000 in
theorem ggX4_of_X4_stepsOver : GoodIn wsX4_of wsX4_stepsOver := goodIn_r _ [58, 28, 29, 30, 5, 31, 7, 59, 60, 61, 62, 63, 64, 65, 66, 67, 68, 69, 70, 71, 72, 73] (by decide +kernel) (by decide +kernel)
set_option maxRecDepth 20000 in
theorem gX4_of_X4_stepsOver : GoodIn wsX4_of (wsV RX4 106 RX4 yX4_stepsOver wsX4_stepsOver) := goodIn_app (goodIn_of _ (by decide +kernel)) ggX4_of_X4_stepsOver
set_option maxRecDepth 20000 in
theorem ggX4_of_X4_it : GoodIn wsX4_of wsX4_it := goodIn_r _ [31, 7, 59, 60, 61, 62, 63, 64, 65, 66, 67, 68, 69, 70, 71, 72, 73] (by decide +kernel) (by decide +kernel)
set_option maxRecDepth 20000 in
theorem gX4_of_X4_it : GoodIn wsX4_of (wsV RX4 56 RX4 yX4_it wsX4_it) := goodIn_app (goodIn_of _ (by decide +kernel)) ggX4_of_X4_it
theorem dX4_of_0 : decode cX4_of 0 = .ok (.aload_n 0, 1) := by decide +kernel
theorem dX4_of_1 : decode cX4_of 1 = .ok (.iload_n 1, 1) := by decide +kernel
theorem dX4_of_2 : decode cX4_of 2 = .ok (.invokevirtual 100, 3) := by decide +kernel
theorem dX4_of_5 : decode cX4_of 5 = .ok (.ifCond .eq 14, 3) := by decide +kernel
theorem dX4_of_8 : decode cX4_of 8 = .ok (.iload_n 2, 1) := by decide +kernel
theorem dX4_of_9 : decode cX4_of 9 = .ok (.i2l, 1) := by decide +kernel
theorem dX4_of_10 : decode cX4_of 10 = .ok (.iconst 0, 1) := by decide +kernel
theorem dX4_of_11 : decode cX4_of 11 = .ok (.bipush 7, 2) := by decide +kernel
theorem dX4_of_13 : decode cX4_of 13 = .ok (.invokestatic 41, 3) := by decide +kernel
theorem dX4_of_16 : decode cX4_of 16 = .ok (.ifCond .ne 10, 3) := by decide +kernel
theorem dX4_of_19 : decode cX4_of 19 = .ok (.aload_n 0, 1) := by decide +kernel
theorem dX4_of_20 : decode cX4_of 20 = .ok (.ldc 35, 2) := by decide +kernel
theorem dX4_of_22 : decode cX4_of 22 = .ok (.invokevirtual 37, 3) := by decide +kernel
theorem dX4_of_25 : decode cX4_of 25 = .ok (.ireturn, 1) := by decide +kernel
theorem dX4_of_26 : decode cX4_of 26 = .ok (.iload_n 2, 1) := by decide +kernel
theorem dX4_of_27 : decode cX4_of 27 = .ok (.tableswitch 65 4 7 #[29, 38, 44, 58], 29) := by decide +kernel
theorem dX4_of_56 : decode cX4_of 56 = .ok (.bipush 100, 2) := by decide +kernel
theorem dX4_of_58 : decode cX4_of 58 = .ok (.aload_n 0, 1) := by decide +kernel
theorem dX4_of_59 : decode cX4_of 59 = .ok (.iload_n 1, 1) := by decide +kernel
theorem dX4_of_60 : decode cX4_of 60 = .ok (.invokevirtual 103, 3) := by decide +kernel
theorem dX4_of_63 : decode cX4_of 63 = .ok (.iadd, 1) := by decide +kernel
theorem dX4_of_64 : decode cX4_of 64 = .ok (.ireturn, 1) := by decide +kernel
theorem dX4_of_65 : decode cX4_of 65 = .ok (.aload_n 0, 1) := by decide +kernel
theorem dX4_of_66 : decode cX4_of 66 = .ok (.iload_n 1, 1) := by decide +kernel
theorem dX4_of_67 : decode cX4_of 67 = .ok (.invokevirtual 83, 3) := by decide +kernel
theorem dX4_of_70 : decode cX4_of 70 = .ok (.ireturn, 1) := by decide +kernel
theorem dX4_of_71 : decode cX4_of 71 = .ok (.aload_n 0, 1) := by decide +kernel
theorem dX4_of_72 : decode cX4_of 72 = .ok (.iload_n 1, 1) := by decide +kernel
theorem dX4_of_73 : decode cX4_of 73 = .ok (.invokevirtual 106, 3) := by decide +kernel
theorem dX4_of_76 : decode cX4_of 76 = .ok (.ifCond .eq 7, 3) := by decide +kernel
theorem dX4_of_79 : decode cX4_of 79 = .ok (.iconst 1, 1) := by decide +kernel
theorem dX4_of_80 : decode cX4_of 80 = .ok (.goto 4, 3) := by decide +kernel
theorem dX4_of_83 : decode cX4_of 83 = .ok (.iconst 0, 1) := by decide +kernel
theorem dX4_of_84 : decode cX4_of 84 = .ok (.ireturn, 1) := by decide +kernel
theorem dX4_of_85 : decode cX4_of 85 = .ok (.aload_n 0, 1) := by decide +kernel
theorem dX4_of_86 : decode cX4_of 86 = .ok (.iload_n 1, 1) := by decide +kernel
theorem dX4_of_87 : decode cX4_of 87 = .ok (.iconst 4, 1) := by decide +kernel
theorem dX4_of_88 : decode cX4_of 88 = .ok (.invokevirtual 56, 3) := by decide +kernel
theorem dX4_of_91 : decode cX4_of 91 = .ok (.ireturn, 1) := by decide +kernel
theorem dX4_of_92 : decode cX4_of 92 = .ok (.aload_n 0, 1) := by decide +kernel
theorem dX4_of_93 : decode cX4_of 93 = .ok (.iload_n 1, 1) := by decide +kernel
theorem dX4_of_94 : decode cX4_of 94 = .ok (.iload_n 2, 1) := by decide +kernel
theorem dX4_of_95 : decode cX4_of 95 = .ok (.invokevirtual 56, 3) := by decide +kernel
theorem dX4_of_98 : decode cX4_of 98 = .ok (.ireturn, 1) := by decide +kernel
set_option maxRecDepth 20000 in
theorem ggX4_set_X4_isPerson : GoodIn wsX4_set wsX4_isPerson := goodIn_r _ [6, 7, 8, 9, 5, 10, 20, 21, 22, 23, 24, 25, 26, 27, 28, 29, 30, 31, 32, 33, 34] (by decide +kernel) (by decide +kernel)
set_option maxRecDepth 20000 in
theorem gX4_set_X4_isPerson : GoodIn wsX4_set (wsV RX4 100 RX4 yX4_isPerson wsX4_isPerson) := goodIn_app (goodIn_of _ (by decide +kernel)) ggX4_set_X4_isPerson
set_option maxRecDepth 20000 in
theorem ggX4_set_X4_in : GoodIn wsX4_set wsX4_in := goodIn_r _ [10] (by decide +kernel) (by decide +kernel)
set_option maxRecDepth 20000 in
theorem gX4_set_X4_in : GoodIn wsX4_set (va_wsS RX4 41 yX4_in wsX4_in) := goodIn_app (goodIn_of _ (by decide +kernel)) ggX4_set_X4_in
set_option maxRecDepth 20000 in
theorem ggX4_set_X4_becomes : GoodIn wsX4_set wsX4_becomes := goodIn_r _ [14, 7, 20, 21, 22, 23, 24, 25, 26, 27, 28, 29, 30, 31, 32, 33, 34] (by decide +kernel) (by decide +kernel)
set_option maxRecDepth 20000 in
theorem gX4_set_X4_becomes : GoodIn wsX4_set (wsV RX4 77 RX4 yX4_becomes wsX4_becomes) := goodIn_app (goodIn_of _ (by decide +kernel)) ggX4_set_X4_becomes
set_option maxRecDepth 20000 in
theorem ggX4_set_X4_finds : GoodIn wsX4_set wsX4_finds := goodIn_r _ [18, 19, 1, 20, 21, 22, 23, 24, 25, 26, 27, 28, 29, 30, 31, 32, 33, 34] (by decide +kernel) (by decide +kernel)
set_option maxRecDepth 20000 in
theorem gX4_set_X4_finds : GoodIn wsX4_set (wsV RX4 37 RX4 yX4_finds wsX4_finds) := goodIn_app (goodIn_of _ (by decide +kernel)) ggX4_set_X4_finds
theorem dX4_set_0 : decode cX4_set 0 = .ok (.aload_n 0, 1) := by decide +kernel
theorem dX4_set_1 : decode cX4_set 1 = .ok (.iload_n 1, 1) := by decide +kernel
theorem dX4_set_2 : decode cX4_set 2 = .ok (.invokevirtual 100, 3) := by decide +kernel
theorem dX4_set_5 : decode cX4_set 5 = .ok (.ifCond .eq 39, 3) := by decide +kernel
theorem dX4_set_8 : decode cX4_set 8 = .ok (.iload_n 2, 1) := by decide +kernel
theorem dX4_set_9 : decode cX4_set 9 = .ok (.i2l, 1) := by decide +kernel
theorem dX4_set_10 : decode cX4_set 10 = .ok (.iconst 1, 1) := by decide +kernel
theorem dX4_set_11 : decode cX4_set 11 = .ok (.iconst 3, 1) := by decide +kernel
theorem dX4_set_12 : decode cX4_set 12 = .ok (.invokestatic 41, 3) := by decide +kernel
theorem dX4_set_15 : decode cX4_set 15 = .ok (.ifCond .eq 29, 3) := by decide +kernel
theorem dX4_set_18 : decode cX4_set 18 = .ok (.iload_n 3, 1) := by decide +kernel
theorem dX4_set_19 : decode cX4_set 19 = .ok (.i2l, 1) := by decide +kernel
theorem dX4_set_20 : decode cX4_set 20 = .ok (.iconst 0, 1) := by decide +kernel
theorem dX4_set_21 : decode cX4_set 21 = .ok (.iload_n 2, 1) := by decide +kernel
theorem dX4_set_22 : decode cX4_set 22 = .ok (.iconst 1, 1) := by decide +kernel
theorem dX4_set_23 : decode cX4_set 23 = .ok (.if_icmp .ne 8, 3) := by decide +kernel
theorem dX4_set_26 : decode cX4_set 26 = .ok (.bipush 29, 2) := by decide +kernel
theorem dX4_set_28 : decode cX4_set 28 = .ok (.goto 6, 3) := by decide +kernel
theorem dX4_set_31 : decode cX4_set 31 = .ok (.sipush 9999, 3) := by decide +kernel
theorem dX4_set_34 : decode cX4_set 34 = .ok (.invokestatic 41, 3) := by decide +kernel
theorem dX4_set_37 : decode cX4_set 37 = .ok (.ifCond .eq 7, 3) := by decide +kernel
theorem dX4_set_40 : decode cX4_set 40 = .ok (.iconst 1, 1) := by decide +kernel
theorem dX4_set_41 : decode cX4_set 41 = .ok (.goto 4, 3) := by decide +kernel
theorem dX4_set_44 : decode cX4_set 44 = .ok (.iconst 0, 1) := by decide +kernel
theorem dX4_set_45 : decode cX4_set 45 = .ok (.istore 4, 2) := by decide +kernel
theorem dX4_set_47 : decode cX4_set 47 = .ok (.iload 4, 2) := by decide +kernel
theorem dX4_set_49 : decode cX4_set 49 = .ok (.ifCond .eq 19, 3) := by decide +kernel
theorem dX4_set_52 : decode cX4_set 52 = .ok (.aload_n 0, 1) := by decide +kernel
theorem dX4_set_53 : decode cX4_set 53 = .ok (.bipush 35, 2) := by decide +kernel
theorem dX4_set_55 : decode cX4_set 55 = .ok (.iconst 5, 1) := by decide +kernel
theorem dX4_set_56 : decode cX4_set 56 = .ok (.iload_n 1, 1) := by decide +kernel
theorem dX4_set_57 : decode cX4_set 57 = .ok (.imul, 1) := by decide +kernel
theorem dX4_set_58 : decode cX4_set 58 = .ok (.iadd, 1) := by decide +kernel
theorem dX4_set_59 : decode cX4_set 59 = .ok (.iload_n 2, 1) := by decide +kernel
theorem dX4_set_60 : decode cX4_set 60 = .ok (.iadd, 1) := by decide +kernel
theorem dX4_set_61 : decode cX4_set 61 = .ok (.iload_n 3, 1) := by decide +kernel
theorem dX4_set_62 : decode cX4_set 62 = .ok (.invokevirtual 77, 3) := by decide +kernel
theorem dX4_set_65 : decode cX4_set 65 = .ok (.goto 9, 3) := by decide +kernel
theorem dX4_set_68 : decode cX4_set 68 = .ok (.aload_n 0, 1) := by decide +kernel
theorem dX4_set_69 : decode cX4_set 69 = .ok (.ldc 35, 2) := by decide +kernel
theorem dX4_set_71 : decode cX4_set 71 = .ok (.invokevirtual 37, 3) := by decide +kernel
theorem dX4_set_74 : decode cX4_set 74 = .ok (.ireturn, 1) := by decide +kernel
set_option maxRecDepth 20000 in
theorem ggX4_turn_X4_isPerson : GoodIn wsX4_turn wsX4_isPerson := goodIn_r _ [6, 7, 8, 9, 5, 10, 20, 21, 22, 23, 24, 25, 26, 27, 28, 29, 30, 31, 32, 33, 34] (by decide +kernel) (by decide +kernel)
set_option maxRecDepth 20000 in
theorem gX4_turn_X4_isPerson : GoodIn wsX4_turn (wsV RX4 100 RX4 yX4_isPerson wsX4_isPerson) := goodIn_app (goodIn_of _ (by decide +kernel)) ggX4_turn_X4_isPerson
set_option maxRecDepth 20000 in
theorem ggX4_turn_X4_in : GoodIn wsX4_turn wsX4_in := goodIn_r _ [10] (by decide +kernel) (by decide +kernel)
set_option maxRecDepth 20000 in
theorem gX4_turn_X4_in : GoodIn wsX4_turn (va_wsS RX4 41 yX4_in wsX4_in) := goodIn_app (goodIn_of _ (by decide +kernel)) ggX4_turn_X4_in
set_option maxRecDepth 20000 in
theorem ggX4_turn_X4_becomes : GoodIn wsX4_turn wsX4_becomes := goodIn_r _ [14, 7, 20, 21, 22, 23, 24, 25, 26, 27, 28, 29, 30, 31, 32, 33, 34] (by decide +kernel) (by decide +kernel)
set_option maxRecDepth 20000 in
theorem gX4_turn_X4_becomes : GoodIn wsX4_turn (wsV RX4 77 RX4 yX4_becomes wsX4_becomes) := goodIn_app (goodIn_of _ (by decide +kernel)) ggX4_turn_X4_becomes
set_option maxRecDepth 20000 in
theorem ggX4_turn_X4_finds : GoodIn wsX4_turn wsX4_finds := goodIn_r _ [18, 19, 1, 20, 21, 22, 23, 24, 25, 26, 27, 28, 29, 30, 31, 32, 33, 34] (by decide +kernel) (by decide +kernel)
set_option maxRecDepth 20000 in
theorem gX4_turn_X4_finds : GoodIn wsX4_turn (wsV RX4 37 RX4 yX4_finds wsX4_finds) := goodIn_app (goodIn_of _ (by decide +kernel)) ggX4_turn_X4_finds
theorem dX4_turn_0 : decode cX4_turn 0 = .ok (.aload_n 0, 1) := by decide +kernel
theorem dX4_turn_1 : decode cX4_turn 1 = .ok (.iload_n 1, 1) := by decide +kernel
theorem dX4_turn_2 : decode cX4_turn 2 = .ok (.invokevirtual 100, 3) := by decide +kernel
theorem dX4_turn_5 : decode cX4_turn 5 = .ok (.ifCond .eq 27, 3) := by decide +kernel
theorem dX4_turn_8 : decode cX4_turn 8 = .ok (.iload_n 2, 1) := by decide +kernel
theorem dX4_turn_9 : decode cX4_turn 9 = .ok (.i2l, 1) := by decide +kernel
theorem dX4_turn_10 : decode cX4_turn 10 = .ok (.iconst 0, 1) := by decide +kernel
theorem dX4_turn_11 : decode cX4_turn 11 = .ok (.iconst 5, 1) := by decide +kernel
theorem dX4_turn_12 : decode cX4_turn 12 = .ok (.invokestatic 41, 3) := by decide +kernel
theorem dX4_turn_15 : decode cX4_turn 15 = .ok (.ifCond .eq 17, 3) := by decide +kernel
theorem dX4_turn_18 : decode cX4_turn 18 = .ok (.aload_n 0, 1) := by decide +kernel
theorem dX4_turn_19 : decode cX4_turn 19 = .ok (.bipush 35, 2) := by decide +kernel
theorem dX4_turn_21 : decode cX4_turn 21 = .ok (.iconst 5, 1) := by decide +kernel
theorem dX4_turn_22 : decode cX4_turn 22 = .ok (.iload_n 1, 1) := by decide +kernel
theorem dX4_turn_23 : decode cX4_turn 23 = .ok (.imul, 1) := by decide +kernel
theorem dX4_turn_24 : decode cX4_turn 24 = .ok (.iadd, 1) := by decide +kernel
theorem dX4_turn_25 : decode cX4_turn 25 = .ok (.iload_n 2, 1) := by decide +kernel
theorem dX4_turn_26 : decode cX4_turn 26 = .ok (.invokevirtual 77, 3) := by decide +kernel
theorem dX4_turn_29 : decode cX4_turn 29 = .ok (.goto 9, 3) := by decide +kernel
theorem dX4_turn_32 : decode cX4_turn 32 = .ok (.aload_n 0, 1) := by decide +kernel
theorem dX4_turn_33 : decode cX4_turn 33 = .ok (.ldc 35, 2) := by decide +kernel
theorem dX4_turn_35 : decode cX4_turn 35 = .ok (.invokevirtual 37, 3) := by decide +kernel
theorem dX4_turn_38 : decode cX4_turn 38 = .ok (.ireturn, 1) := by decide +kernel
set_option maxRecDepth 20000 in
theorem ggX4_as_X4_isPerson : GoodIn wsX4_as wsX4_isPerson := goodIn_r _ [7, 8, 9, 10, 6, 11, 21, 22, 23, 24, 25, 26, 27, 28, 29, 30, 31, 32, 33, 34, 35] (by decide +kernel) (by decide +kernel)
set_option maxRecDepth 20000 in
theorem gX4_as_X4_isPerson : GoodIn wsX4_as (wsV RX4 100 RX4 yX4_isPerson wsX4_isPerson) := goodIn_app (goodIn_of _ (by decide +kernel)) ggX4_as_X4_isPerson
set_option maxRecDepth 20000 in
theorem ggX4_as_X4_in : GoodIn wsX4_as wsX4_in := goodIn_r _ [11] (by decide +kernel) (by decide +kernel)
set_option maxRecDepth 20000 in
theorem gX4_as_X4_in : GoodIn wsX4_as (va_wsS RX4 41 yX4_in wsX4_in) := goodIn_app (goodIn_of _ (by decide +kernel)) ggX4_as_X4_in
set_option maxRecDepth 20000 in
theorem ggX4_as_X4_finds : GoodIn wsX4_as wsX4_finds := goodIn_r _ [15, 16, 1, 21, 22, 23, 24, 25, 26, 27, 28, 29, 30, 31, 32, 33, 34, 35] (by decide +kernel) (by decide +kernel)
set_option maxRecDepth 20000 in
theorem gX4_as_X4_finds : GoodIn wsX4_as (wsV RX4 37 RX4 yX4_finds wsX4_finds) := goodIn_app (goodIn_of _ (by decide +kernel)) ggX4_as_X4_finds
set_option maxRecDepth 20000 in
theorem ggX4_as_X4_it : GoodIn wsX4_as wsX4_it := goodIn_r _ [20, 8, 21, 22, 23, 24, 25, 26, 27, 28, 29, 30, 31, 32, 33, 34, 35] (by decide +kernel) (by decide +kernel)
set_option maxRecDepth 20000 in
theorem gX4_as_X4_it : GoodIn wsX4_as (wsV RX4 56 RX4 yX4_it wsX4_it) := goodIn_app (goodIn_of _ (by decide +kernel)) ggX4_as_X4_it
theorem dX4_as_0 : decode cX4_as 0 = .ok (.aload_n 0, 1) := by decide +kernel
theorem dX4_as_1 : decode cX4_as 1 = .ok (.iload_n 1, 1) := by decide +kernel
theorem dX4_as_2 : decode cX4_as 2 = .ok (.invokevirtual 100, 3) := by decide +kernel
theorem dX4_as_5 : decode cX4_as 5 = .ok (.ifCond .eq 13, 3) := by decide +kernel
theorem dX4_as_8 : decode cX4_as 8 = .ok (.iload_n 2, 1) := by decide +kernel
theorem dX4_as_9 : decode cX4_as 9 = .ok (.i2l, 1) := by decide +kernel
theorem dX4_as_10 : decode cX4_as 10 = .ok (.iconst 0, 1) := by decide +kernel
theorem dX4_as_11 : decode cX4_as 11 = .ok (.iconst 5, 1) := by decide +kernel
theorem dX4_as_12 : decode cX4_as 12 = .ok (.invokestatic 41, 3) := by decide +kernel
theorem dX4_as_15 : decode cX4_as 15 = .ok (.ifCond .ne 10, 3) := by decide +kernel
theorem dX4_as_18 : decode cX4_as 18 = .ok (.aload_n 0, 1) := by decide +kernel
theorem dX4_as_19 : decode cX4_as 19 = .ok (.ldc 35, 2) := by decide +kernel
theorem dX4_as_21 : decode cX4_as 21 = .ok (.invokevirtual 37, 3) := by decide +kernel
theorem dX4_as_24 : decode cX4_as 24 = .ok (.ireturn, 1) := by decide +kernel
theorem dX4_as_25 : decode cX4_as 25 = .ok (.aload_n 0, 1) := by decide +kernel
theorem dX4_as_26 : decode cX4_as 26 = .ok (.iload_n 1, 1) := by decide +kernel
theorem dX4_as_27 : decode cX4_as 27 = .ok (.iconst 0, 1) := by decide +kernel
theorem dX4_as_28 : decode cX4_as 28 = .ok (.invokevirtual 56, 3) := by decide +kernel
theorem dX4_as_31 : decode cX4_as 31 = .ok (.istore_n 3, 1) := by decide +kernel
theorem dX4_as_32 : decode cX4_as 32 = .ok (.iload_n 2, 1) := by decide +kernel
theorem dX4_as_33 : decode cX4_as 33 = .ok (.ifCond .eq 28, 3) := by decide +kernel
theorem dX4_as_36 : decode cX4_as 36 = .ok (.iload_n 2, 1) := by decide +kernel
theorem dX4_as_37 : decode cX4_as 37 = .ok (.iload_n 3, 1) := by decide +kernel
theorem dX4_as_38 : decode cX4_as 38 = .ok (.if_icmp .eq 23, 3) := by decide +kernel
theorem dX4_as_41 : decode cX4_as 41 = .ok (.iload_n 2, 1) := by decide +kernel
theorem dX4_as_42 : decode cX4_as 42 = .ok (.iconst 1, 1) := by decide +kernel
theorem dX4_as_43 : decode cX4_as 43 = .ok (.if_icmp .ne 8, 3) := by decide +kernel
theorem dX4_as_46 : decode cX4_as 46 = .ok (.iload_n 3, 1) := by decide +kernel
theorem dX4_as_47 : decode cX4_as 47 = .ok (.iconst 4, 1) := by decide +kernel
theorem dX4_as_48 : decode cX4_as 48 = .ok (.if_icmp .eq 13, 3) := by decide +kernel
theorem dX4_as_51 : decode cX4_as 51 = .ok (.iload_n 2, 1) := by decide +kernel
theorem dX4_as_52 : decode cX4_as 52 = .ok (.iconst 2, 1) := by decide +kernel
theorem dX4_as_53 : decode cX4_as 53 = .ok (.if_icmp .ne 12, 3) := by decide +kernel
theorem dX4_as_56 : decode cX4_as 56 = .ok (.iload_n 3, 1) := by decide +kernel
theorem dX4_as_57 : decode cX4_as 57 = .ok (.iconst 5, 1) := by decide +kernel
theorem dX4_as_58 : decode cX4_as 58 = .ok (.if_icmp .ne 7, 3) := by decide +kernel
theorem dX4_as_61 : decode cX4_as 61 = .ok (.iconst 1, 1) := by decide +kernel
theorem dX4_as_62 : decode cX4_as 62 = .ok (.goto 4, 3) := by decide +kernel
theorem dX4_as_65 : decode cX4_as 65 = .ok (.iconst 0, 1) := by decide +kernel
theorem dX4_as_66 : decode cX4_as 66 = .ok (.istore 4, 2) := by decide +kernel
theorem dX4_as_68 : decode cX4_as 68 = .ok (.iload 4, 2) := by decide +kernel
theorem dX4_as_70 : decode cX4_as 70 = .ok (.ifCond .eq 12, 3) := by decide +kernel
theorem dX4_as_73 : decode cX4_as 73 = .ok (.aload_n 0, 1) := by decide +kernel
theorem dX4_as_74 : decode cX4_as 74 = .ok (.iload_n 1, 1) := by decide +kernel
theorem dX4_as_75 : decode cX4_as 75 = .ok (.iconst 2, 1) := by decide +kernel
theorem dX4_as_76 : decode cX4_as 76 = .ok (.invokevirtual 56, 3) := by decide +kernel
theorem dX4_as_79 : decode cX4_as 79 = .ok (.goto 9, 3) := by decide +kernel
theorem dX4_as_82 : decode cX4_as 82 = .ok (.aload_n 0, 1) := by decide +kernel
theorem dX4_as_83 : decode cX4_as 83 = .ok (.ldc 109, 2) := by decide +kernel
theorem dX4_as_85 : decode cX4_as 85 = .ok (.invokevirtual 37, 3) := by decide +kernel
theorem dX4_as_88 : decode cX4_as 88 = .ok (.ireturn, 1) := by decide +kernel
set_option maxRecDepth 20000 in
theorem ggX4_isHushed_X4_isIn : GoodIn wsX4_isHushed wsX4_isIn := goodIn_r _ [5, 6, 7, 8, 4, 9, 10, 11, 12, 13, 14, 15, 16, 17, 18, 19, 20, 21, 22, 23, 24, 25, 26, 38, 39, 40, 41, 42, 43, 44, 45, 46, 47, 48, 49, 50, 51, 52] (by decide +kernel) (by decide +kernel)
set_option maxRecDepth 20000 in
theorem gX4_isHushed_X4_isIn : GoodIn wsX4_isHushed (wsV RX4 64 RX4 yX4_isIn wsX4_isIn) := goodIn_app (goodIn_of _ (by decide +kernel)) ggX4_isHushed_X4_isIn
set_option maxRecDepth 20000 in
theorem ggX4_isHushed_X4_it : GoodIn wsX4_isHushed wsX4_it := goodIn_r _ [9, 10, 38, 39, 40, 41, 42, 43, 44, 45, 46, 47, 48, 49, 50, 51, 52] (by decide +kernel) (by decide +kernel)
set_option maxRecDepth 20000 in
theorem gX4_isHushed_X4_it : GoodIn wsX4_isHushed (wsV RX4 56 RX4 yX4_it wsX4_it) := goodIn_app (goodIn_of _ (by decide +kernel)) ggX4_isHushed_X4_it
set_option maxRecDepth 20000 in
theorem ggX4_isHushed_X4_stepsOver : GoodIn wsX4_isHushed wsX4_stepsOver := goodIn_r _ [30, 6, 7, 8, 4, 9, 10, 38, 39, 40, 41, 42, 43, 44, 45, 46, 47, 48, 49, 50, 51, 52] (by decide +kernel) (by decide +kernel)
set_option maxRecDepth 20000 in
theorem gX4_isHushed_X4_stepsOver : GoodIn wsX4_isHushed (wsV RX4 106 RX4 yX4_stepsOver wsX4_stepsOver) := goodIn_app (goodIn_of _ (by decide +kernel)) ggX4_isHushed_X4_stepsOver
set_option maxRecDepth 20000 in
theorem ggX4_isHushed_X4_held : GoodIn wsX4_isHushed wsX4_held := goodIn_r _ [33] (by decide +kernel) (by decide +kernel)
set_option maxRecDepth 20000 in
theorem gX4_isHushed_X4_held : GoodIn wsX4_isHushed (va_wsS RX4 67 yX4_held wsX4_held) := goodIn_app (goodIn_of _ (by decide +kernel)) ggX4_isHushed_X4_held
set_option maxRecDepth 20000 in
theorem ggX4_isHushed_X4_put : GoodIn wsX4_isHushed wsX4_put := goodIn_r _ [37, 10, 38, 39, 40, 41, 42, 43, 44, 45, 46, 47, 48, 49, 50, 51, 52] (by decide +kernel) (by decide +kernel)
set_option maxRecDepth 20000 in
theorem gX4_isHushed_X4_put : GoodIn wsX4_isHushed (wsV RX4 92 RX4 yX4_put wsX4_put) := goodIn_app (goodIn_of _ (by decide +kernel)) ggX4_isHushed_X4_put
theorem dX4_isHushed_0 : decode cX4_isHushed 0 = .ok (.aload_n 0, 1) := by decide +kernel
theorem dX4_isHushed_1 : decode cX4_isHushed 1 = .ok (.iload_n 1, 1) := by decide +kernel
theorem dX4_isHushed_2 : decode cX4_isHushed 2 = .ok (.invokevirtual 64, 3) := by decide +kernel
theorem dX4_isHushed_5 : decode cX4_isHushed 5 = .ok (.istore_n 2, 1) := by decide +kernel
theorem dX4_isHushed_6 : decode cX4_isHushed 6 = .ok (.iload_n 2, 1) := by decide +kernel
theorem dX4_isHushed_7 : decode cX4_isHushed 7 = .ok (.ifCond .eq 24, 3) := by decide +kernel
theorem dX4_isHushed_10 : decode cX4_isHushed 10 = .ok (.aload_n 0, 1) := by decide +kernel
theorem dX4_isHushed_11 : decode cX4_isHushed 11 = .ok (.iload_n 1, 1) := by decide +kernel
theorem dX4_isHushed_12 : decode cX4_isHushed 12 = .ok (.iconst 4, 1) := by decide +kernel
theorem dX4_isHushed_13 : decode cX4_isHushed 13 = .ok (.invokevirtual 56, 3) := by decide +kernel
theorem dX4_isHushed_16 : decode cX4_isHushed 16 = .ok (.ifCond .ne 15, 3) := by decide +kernel
theorem dX4_isHushed_19 : decode cX4_isHushed 19 = .ok (.aload_n 0, 1) := by decide +kernel
theorem dX4_isHushed_20 : decode cX4_isHushed 20 = .ok (.iload_n 1, 1) := by decide +kernel
theorem dX4_isHushed_21 : decode cX4_isHushed 21 = .ok (.invokevirtual 106, 3) := by decide +kernel
theorem dX4_isHushed_24 : decode cX4_isHushed 24 = .ok (.ifCond .ne 7, 3) := by decide +kernel
theorem dX4_isHushed_27 : decode cX4_isHushed 27 = .ok (.iconst 1, 1) := by decide +kernel
theorem dX4_isHushed_28 : decode cX4_isHushed 28 = .ok (.goto 4, 3) := by decide +kernel
theorem dX4_isHushed_31 : decode cX4_isHushed 31 = .ok (.iconst 0, 1) := by decide +kernel
theorem dX4_isHushed_32 : decode cX4_isHushed 32 = .ok (.istore_n 3, 1) := by decide +kernel
theorem dX4_isHushed_33 : decode cX4_isHushed 33 = .ok (.aload_n 0, 1) := by decide +kernel
theorem dX4_isHushed_34 : decode cX4_isHushed 34 = .ok (.iload_n 1, 1) := by decide +kernel
theorem dX4_isHushed_35 : decode cX4_isHushed 35 = .ok (.iconst 2, 1) := by decide +kernel
theorem dX4_isHushed_36 : decode cX4_isHushed 36 = .ok (.aload_n 0, 1) := by decide +kernel
theorem dX4_isHushed_37 : decode cX4_isHushed 37 = .ok (.iload_n 1, 1) := by decide +kernel
theorem dX4_isHushed_38 : decode cX4_isHushed 38 = .ok (.iconst 2, 1) := by decide +kernel
theorem dX4_isHushed_39 : decode cX4_isHushed 39 = .ok (.invokevirtual 56, 3) := by decide +kernel
theorem dX4_isHushed_42 : decode cX4_isHushed 42 = .ok (.iload_n 2, 1) := by decide +kernel
theorem dX4_isHushed_43 : decode cX4_isHushed 43 = .ok (.ifCond .eq 7, 3) := by decide +kernel
theorem dX4_isHushed_46 : decode cX4_isHushed 46 = .ok (.iconst 1, 1) := by decide +kernel
theorem dX4_isHushed_47 : decode cX4_isHushed 47 = .ok (.goto 4, 3) := by decide +kernel
theorem dX4_isHushed_50 : decode cX4_isHushed 50 = .ok (.iconst 0, 1) := by decide +kernel
theorem dX4_isHushed_51 : decode cX4_isHushed 51 = .ok (.iadd, 1) := by decide +kernel
theorem dX4_isHushed_52 : decode cX4_isHushed 52 = .ok (.iconst 0, 1) := by decide +kernel
theorem dX4_isHushed_53 : decode cX4_isHushed 53 = .ok (.sipush 9999, 3) := by decide +kernel
theorem dX4_isHushed_56 : decode cX4_isHushed 56 = .ok (.invokestatic 67, 3) := by decide +kernel
theorem dX4_isHushed_59 : decode cX4_isHushed 59 = .ok (.invokevirtual 92, 3) := by decide +kernel
theorem dX4_isHushed_62 : decode cX4_isHushed 62 = .ok (.aload_n 0, 1) := by decide +kernel
theorem dX4_isHushed_63 : decode cX4_isHushed 63 = .ok (.iload_n 1, 1) := by decide +kernel
theorem dX4_isHushed_64 : decode cX4_isHushed 64 = .ok (.iconst 3, 1) := by decide +kernel
theorem dX4_isHushed_65 : decode cX4_isHushed 65 = .ok (.aload_n 0, 1) := by decide +kernel
theorem dX4_isHushed_66 : decode cX4_isHushed 66 = .ok (.iload_n 1, 1) := by decide +kernel
theorem dX4_isHushed_67 : decode cX4_isHushed 67 = .ok (.iconst 3, 1) := by decide +kernel
theorem dX4_isHushed_68 : decode cX4_isHushed 68 = .ok (.invokevirtual 56, 3) := by decide +kernel
theorem dX4_isHushed_71 : decode cX4_isHushed 71 = .ok (.iload_n 3, 1) := by decide +kernel
theorem dX4_isHushed_72 : decode cX4_isHushed 72 = .ok (.ifCond .eq 7, 3) := by decide +kernel
theorem dX4_isHushed_75 : decode cX4_isHushed 75 = .ok (.iconst 1, 1) := by decide +kernel
theorem dX4_isHushed_76 : decode cX4_isHushed 76 = .ok (.goto 4, 3) := by decide +kernel
theorem dX4_isHushed_79 : decode cX4_isHushed 79 = .ok (.iconst 0, 1) := by decide +kernel
theorem dX4_isHushed_80 : decode cX4_isHushed 80 = .ok (.iadd, 1) := by decide +kernel
theorem dX4_isHushed_81 : decode cX4_isHushed 81 = .ok (.iconst 0, 1) := by decide +kernel
theorem dX4_isHushed_82 : decode cX4_isHushed 82 = .ok (.sipush 9999, 3) := by decide +kernel
theorem dX4_isHushed_85 : decode cX4_isHushed 85 = .ok (.invokestatic 67, 3) := by decide +kernel
theorem dX4_isHushed_88 : decode cX4_isHushed 88 = .ok (.invokevirtual 92, 3) := by decide +kernel
theorem dX4_isHushed_91 : decode cX4_isHushed 91 = .ok (.aload_n 0, 1) := by decide +kernel
theorem dX4_isHushed_92 : decode cX4_isHushed 92 = .ok (.iload_n 1, 1) := by decide +kernel
theorem dX4_isHushed_93 : decode cX4_isHushed 93 = .ok (.iconst 4, 1) := by decide +kernel
theorem dX4_isHushed_94 : decode cX4_isHushed 94 = .ok (.iload_n 2, 1) := by decide +kernel
theorem dX4_isHushed_95 : decode cX4_isHushed 95 = .ok (.ifCond .eq 7, 3) := by decide +kernel
theorem dX4_isHushed_98 : decode cX4_isHushed 98 = .ok (.iconst 1, 1) := by decide +kernel
theorem dX4_isHushed_99 : decode cX4_isHushed 99 = .ok (.goto 4, 3) := by decide +kernel
theorem dX4_isHushed_102 : decode cX4_isHushed 102 = .ok (.iconst 0, 1) := by decide +kernel
theorem dX4_isHushed_103 : decode cX4_isHushed 103 = .ok (.invokevirtual 92, 3) := by decide +kernel
theorem dX4_isHushed_106 : decode cX4_isHushed 106 = .ok (.return_, 1) := by decide +kernel
set_option maxRecDepth 20000 in
theorem ggX4_goes_X4_isHushed : GoodIn wsX4_goes wsX4_isHushed := goodIn_r _ [6, 7, 8, 9, 5, 10, 11, 12, 13, 14, 1, 15, 16, 17, 18, 19, 20, 21, 22, 23, 24, 25, 26, 27, 28, 29, 30, 31, 32, 33, 34, 35, 36, 37, 38, 39, 40, 41, 53, 54, 55, 56, 57, 58, 59, 60, 61, 62, 63, 64, 65, 66, 67] (by decide +kernel) (by decide +kernel)
set_option maxRecDepth 20000 in
theorem gX4_goes_X4_isHushed : GoodIn wsX4_goes (wsV RX4 110 RX4 yX4_isHushed wsX4_isHushed) := goodIn_app (goodIn_of _ (by decide +kernel)) ggX4_goes_X4_isHushed
set_option maxRecDepth 20000 in
theorem ggX4_goes_X4_it : GoodIn wsX4_goes wsX4_it := goodIn_r _ [14, 1, 53, 54, 55, 56, 57, 58, 59, 60, 61, 62, 63, 64, 65, 66, 67] (by decide +kernel) (by decide +kernel)
set_option maxRecDepth 20000 in
theorem gX4_goes_X4_it : GoodIn wsX4_goes (wsV RX4 56 RX4 yX4_it wsX4_it) := goodIn_app (goodIn_of _ (by decide +kernel)) ggX4_goes_X4_it
set_option maxRecDepth 20000 in
theorem ggX4_goes_X4_goesBy : GoodIn wsX4_goes wsX4_goesBy := goodIn_r _ [45, 1, 27, 28, 29, 5, 30, 23, 24, 25, 26, 11, 12, 13, 14, 7, 8, 9, 10, 15, 16, 17, 18, 19, 20, 21, 22, 46, 47, 48, 35, 36, 37, 49, 50, 51, 52, 53, 54, 55, 56, 57, 58, 59, 60, 61, 62, 63, 64, 65, 66, 67] (by decide +kernel) (by decide +kernel)
set_option maxRecDepth 20000 in
theorem gX4_goes_X4_goesBy : GoodIn wsX4_goes (wsV RX4 103 RX4 yX4_goesBy wsX4_goesBy) := goodIn_app (goodIn_of _ (by decide +kernel)) ggX4_goes_X4_goesBy
set_option maxRecDepth 20000 in
theorem ggX4_goes_X4_held : GoodIn wsX4_goes wsX4_held := goodIn_r _ [37] (by decide +kernel) (by decide +kernel)
set_option maxRecDepth 20000 in
theorem gX4_goes_X4_held : GoodIn wsX4_goes (va_wsS RX4 67 yX4_held wsX4_held) := goodIn_app (goodIn_of _ (by decide +kernel)) ggX4_goes_X4_held
set_option maxRecDepth 20000 in
theorem ggX4_goes_X4_put : GoodIn wsX4_goes wsX4_put := goodIn_r _ [41, 1, 53, 54, 55, 56, 57, 58, 59, 60, 61, 62, 63, 64, 65, 66, 67] (by decide +kernel) (by decide +kernel)
set_option maxRecDepth 20000 in
theorem gX4_goes_X4_put : GoodIn wsX4_goes (wsV RX4 92 RX4 yX4_put wsX4_put) := goodIn_app (goodIn_of _ (by decide +kernel)) ggX4_goes_X4_put
theorem dX4_goes_0 : decode cX4_goes 0 = .ok (.iconst 0, 1) := by decide +kernel
theorem dX4_goes_1 : decode cX4_goes 1 = .ok (.istore_n 1, 1) := by decide +kernel
theorem dX4_goes_2 : decode cX4_goes 2 = .ok (.iload_n 1, 1) := by decide +kernel
theorem dX4_goes_3 : decode cX4_goes 3 = .ok (.aload_n 0, 1) := by decide +kernel
theorem dX4_goes_4 : decode cX4_goes 4 = .ok (.getfield 9, 3) := by decide +kernel
theorem dX4_goes_7 : decode cX4_goes 7 = .ok (.iconst 4, 1) := by decide +kernel
theorem dX4_goes_8 : decode cX4_goes 8 = .ok (.iaload, 1) := by decide +kernel
theorem dX4_goes_9 : decode cX4_goes 9 = .ok (.if_icmp .ge 14, 3) := by decide +kernel
theorem dX4_goes_12 : decode cX4_goes 12 = .ok (.aload_n 0, 1) := by decide +kernel
theorem dX4_goes_13 : decode cX4_goes 13 = .ok (.iload_n 1, 1) := by decide +kernel
theorem dX4_goes_14 : decode cX4_goes 14 = .ok (.invokevirtual 110, 3) := by decide +kernel
theorem dX4_goes_17 : decode cX4_goes 17 = .ok (.iinc 1 1, 3) := by decide +kernel
theorem dX4_goes_20 : decode cX4_goes 20 = .ok (.goto (-18), 3) := by decide +kernel
theorem dX4_goes_23 : decode cX4_goes 23 = .ok (.iconst 0, 1) := by decide +kernel
theorem dX4_goes_24 : decode cX4_goes 24 = .ok (.istore_n 1, 1) := by decide +kernel
theorem dX4_goes_25 : decode cX4_goes 25 = .ok (.iload_n 1, 1) := by decide +kernel
theorem dX4_goes_26 : decode cX4_goes 26 = .ok (.aload_n 0, 1) := by decide +kernel
theorem dX4_goes_27 : decode cX4_goes 27 = .ok (.getfield 9, 3) := by decide +kernel
theorem dX4_goes_30 : decode cX4_goes 30 = .ok (.iconst 4, 1) := by decide +kernel
theorem dX4_goes_31 : decode cX4_goes 31 = .ok (.iaload, 1) := by decide +kernel
theorem dX4_goes_32 : decode cX4_goes 32 = .ok (.if_icmp .ge 33, 3) := by decide +kernel
theorem dX4_goes_35 : decode cX4_goes 35 = .ok (.aload_n 0, 1) := by decide +kernel
theorem dX4_goes_36 : decode cX4_goes 36 = .ok (.iload_n 1, 1) := by decide +kernel
theorem dX4_goes_37 : decode cX4_goes 37 = .ok (.iconst 1, 1) := by decide +kernel
theorem dX4_goes_38 : decode cX4_goes 38 = .ok (.aload_n 0, 1) := by decide +kernel
theorem dX4_goes_39 : decode cX4_goes 39 = .ok (.iload_n 1, 1) := by decide +kernel
theorem dX4_goes_40 : decode cX4_goes 40 = .ok (.iconst 1, 1) := by decide +kernel
theorem dX4_goes_41 : decode cX4_goes 41 = .ok (.invokevirtual 56, 3) := by decide +kernel
theorem dX4_goes_44 : decode cX4_goes 44 = .ok (.aload_n 0, 1) := by decide +kernel
theorem dX4_goes_45 : decode cX4_goes 45 = .ok (.iload_n 1, 1) := by decide +kernel
theorem dX4_goes_46 : decode cX4_goes 46 = .ok (.invokevirtual 103, 3) := by decide +kernel
theorem dX4_goes_49 : decode cX4_goes 49 = .ok (.iadd, 1) := by decide +kernel
theorem dX4_goes_50 : decode cX4_goes 50 = .ok (.iconst 0, 1) := by decide +kernel
theorem dX4_goes_51 : decode cX4_goes 51 = .ok (.bipush 29, 2) := by decide +kernel
theorem dX4_goes_53 : decode cX4_goes 53 = .ok (.invokestatic 67, 3) := by decide +kernel
theorem dX4_goes_56 : decode cX4_goes 56 = .ok (.invokevirtual 92, 3) := by decide +kernel
theorem dX4_goes_59 : decode cX4_goes 59 = .ok (.iinc 1 1, 3) := by decide +kernel
theorem dX4_goes_62 : decode cX4_goes 62 = .ok (.goto (-37), 3) := by decide +kernel
theorem dX4_goes_65 : decode cX4_goes 65 = .ok (.aload_n 0, 1) := by decide +kernel
theorem dX4_goes_66 : decode cX4_goes 66 = .ok (.getfield 9, 3) := by decide +kernel
theorem dX4_goes_69 : decode cX4_goes 69 = .ok (.iconst 0, 1) := by decide +kernel
theorem dX4_goes_70 : decode cX4_goes 70 = .ok (.dup2, 1) := by decide +kernel
theorem dX4_goes_71 : decode cX4_goes 71 = .ok (.iaload, 1) := by decide +kernel
theorem dX4_goes_72 : decode cX4_goes 72 = .ok (.iconst 1, 1) := by decide +kernel
theorem dX4_goes_73 : decode cX4_goes 73 = .ok (.iadd, 1) := by decide +kernel
theorem dX4_goes_74 : decode cX4_goes 74 = .ok (.iastore, 1) := by decide +kernel
theorem dX4_goes_75 : decode cX4_goes 75 = .ok (.return_, 1) := by decide +kernel
set_option maxRecDepth 20000 in
theorem ggX4_goesFor_X4_goes : GoodIn wsX4_goesFor wsX4_goes := goodIn_r _ [5, 6, 7, 8, 9, 4, 10, 11, 12, 13, 14, 15, 16, 17, 18, 19, 20, 21, 22, 23, 24, 25, 26, 27, 28, 29, 30, 31, 32, 33, 34, 35, 36, 37, 38, 39, 40, 41, 42, 43, 44, 45, 46, 47, 48, 49, 50, 51, 52, 53, 54, 55, 56, 57, 58, 59, 60, 61, 62, 63, 64, 65, 66, 67, 68, 69, 70, 71] (by decide +kernel) (by decide +kernel)
set_option maxRecDepth 20000 in
theorem gX4_goesFor_X4_goes : GoodIn wsX4_goesFor (wsV RX4 114 RX4 yX4_goes wsX4_goes) := goodIn_app (goodIn_of _ (by decide +kernel)) ggX4_goesFor_X4_goes
theorem dX4_goesFor_0 : decode cX4_goesFor 0 = .ok (.iconst 0, 1) := by decide +kernel
theorem dX4_goesFor_1 : decode cX4_goesFor 1 = .ok (.istore_n 2, 1) := by decide +kernel
theorem dX4_goesFor_2 : decode cX4_goesFor 2 = .ok (.iload_n 2, 1) := by decide +kernel
theorem dX4_goesFor_3 : decode cX4_goesFor 3 = .ok (.iload_n 1, 1) := by decide +kernel
theorem dX4_goesFor_4 : decode cX4_goesFor 4 = .ok (.if_icmp .ge 13, 3) := by decide +kernel
theorem dX4_goesFor_7 : decode cX4_goesFor 7 = .ok (.aload_n 0, 1) := by decide +kernel
theorem dX4_goesFor_8 : decode cX4_goesFor 8 = .ok (.invokevirtual 114, 3) := by decide +kernel
theorem dX4_goesFor_11 : decode cX4_goesFor 11 = .ok (.iinc 2 1, 3) := by decide +kernel
theorem dX4_goesFor_14 : decode cX4_goesFor 14 = .ok (.goto (-12), 3) := by decide +kernel
theorem dX4_goesFor_17 : decode cX4_goesFor 17 = .ok (.return_, 1) := by decide +kernel
set_option maxRecDepth 20000 in
theorem ggX4_minutes_X4_in : GoodIn wsX4_minutes wsX4_in := goodIn_r _ [8] (by decide +kernel) (by decide +kernel)
set_option maxRecDepth 20000 in
theorem gX4_minutes_X4_in : GoodIn wsX4_minutes (va_wsS RX4 41 yX4_in wsX4_in) := goodIn_app (goodIn_of _ (by decide +kernel)) ggX4_minutes_X4_in
set_option maxRecDepth 20000 in
theorem ggX4_minutes_X4_finds : GoodIn wsX4_minutes wsX4_finds := goodIn_r _ [12, 13, 1, 73, 74, 75, 76, 77, 78, 79, 80, 81, 82, 83, 84, 85, 86, 87] (by decide +kernel) (by decide +kernel)
set_option maxRecDepth 20000 in
theorem gX4_minutes_X4_finds : GoodIn wsX4_minutes (wsV RX4 37 RX4 yX4_finds wsX4_finds) := goodIn_app (goodIn_of _ (by decide +kernel)) ggX4_minutes_X4_finds
set_option maxRecDepth 20000 in
theorem ggX4_minutes_X4_goesFor : GoodIn wsX4_minutes wsX4_goesFor := goodIn_r _ [17, 18, 19, 20, 7, 21, 2, 22, 23, 24, 25, 26, 27, 28, 29, 30, 31, 32, 33, 34, 35, 36, 37, 38, 39, 40, 41, 42, 43, 44, 45, 46, 47, 48, 49, 50, 51, 52, 53, 54, 55, 56, 57, 58, 59, 60, 61, 62, 63, 64, 5, 6, 8, 65, 66, 67, 68, 73, 74, 75, 76, 77, 78, 79, 80, 81, 82, 83, 84, 85, 86, 87] (by decide +kernel) (by decide +kernel)
set_option maxRecDepth 20000 in
theorem gX4_minutes_X4_goesFor : GoodIn wsX4_minutes (wsV RX4 119 RX4 yX4_goesFor wsX4_goesFor) := goodIn_app (goodIn_of _ (by decide +kernel)) ggX4_minutes_X4_goesFor
set_option maxRecDepth 20000 in
theorem ggX4_minutes_X4_insiders : GoodIn wsX4_minutes wsX4_insiders := goodIn_r _ [72, 2, 26, 27, 28, 7, 29, 30, 31, 32, 33, 34, 35, 36, 37, 38, 39, 40, 41, 42, 43, 44, 45, 46, 47, 48, 49, 73, 74, 75, 76, 77, 78, 79, 80, 81, 82, 83, 84, 85, 86, 87] (by decide +kernel) (by decide +kernel)
set_option maxRecDepth 20000 in
theorem gX4_minutes_X4_insiders : GoodIn wsX4_minutes (wsV RX4 89 RX4 yX4_insiders wsX4_insiders) := goodIn_app (goodIn_of _ (by decide +kernel)) ggX4_minutes_X4_insiders
theorem dX4_minutes_0 : decode cX4_minutes 0 = .ok (.iload_n 1, 1) := by decide +kernel
theorem dX4_minutes_1 : decode cX4_minutes 1 = .ok (.i2l, 1) := by decide +kernel
theorem dX4_minutes_2 : decode cX4_minutes 2 = .ok (.iconst 1, 1) := by decide +kernel
theorem dX4_minutes_3 : decode cX4_minutes 3 = .ok (.sipush 200, 3) := by decide +kernel
theorem dX4_minutes_6 : decode cX4_minutes 6 = .ok (.invokestatic 41, 3) := by decide +kernel
theorem dX4_minutes_9 : decode cX4_minutes 9 = .ok (.ifCond .ne 10, 3) := by decide +kernel
theorem dX4_minutes_12 : decode cX4_minutes 12 = .ok (.aload_n 0, 1) := by decide +kernel
theorem dX4_minutes_13 : decode cX4_minutes 13 = .ok (.ldc 35, 2) := by decide +kernel
theorem dX4_minutes_15 : decode cX4_minutes 15 = .ok (.invokevirtual 37, 3) := by decide +kernel
theorem dX4_minutes_18 : decode cX4_minutes 18 = .ok (.ireturn, 1) := by decide +kernel
theorem dX4_minutes_19 : decode cX4_minutes 19 = .ok (.aload_n 0, 1) := by decide +kernel
theorem dX4_minutes_20 : decode cX4_minutes 20 = .ok (.getfield 9, 3) := by decide +kernel
theorem dX4_minutes_23 : decode cX4_minutes 23 = .ok (.iconst 0, 1) := by decide +kernel
theorem dX4_minutes_24 : decode cX4_minutes 24 = .ok (.iaload, 1) := by decide +kernel
theorem dX4_minutes_25 : decode cX4_minutes 25 = .ok (.iload_n 1, 1) := by decide +kernel
theorem dX4_minutes_26 : decode cX4_minutes 26 = .ok (.iadd, 1) := by decide +kernel
theorem dX4_minutes_27 : decode cX4_minutes 27 = .ok (.ldc 117, 2) := by decide +kernel
theorem dX4_minutes_29 : decode cX4_minutes 29 = .ok (.if_icmp .le 10, 3) := by decide +kernel
theorem dX4_minutes_32 : decode cX4_minutes 32 = .ok (.aload_n 0, 1) := by decide +kernel
theorem dX4_minutes_33 : decode cX4_minutes 33 = .ok (.ldc 118, 2) := by decide +kernel
theorem dX4_minutes_35 : decode cX4_minutes 35 = .ok (.invokevirtual 37, 3) := by decide +kernel
theorem dX4_minutes_38 : decode cX4_minutes 38 = .ok (.ireturn, 1) := by decide +kernel
theorem dX4_minutes_39 : decode cX4_minutes 39 = .ok (.aload_n 0, 1) := by decide +kernel
theorem dX4_minutes_40 : decode cX4_minutes 40 = .ok (.iload_n 1, 1) := by decide +kernel
theorem dX4_minutes_41 : decode cX4_minutes 41 = .ok (.invokevirtual 119, 3) := by decide +kernel
theorem dX4_minutes_44 : decode cX4_minutes 44 = .ok (.aload_n 0, 1) := by decide +kernel
theorem dX4_minutes_45 : decode cX4_minutes 45 = .ok (.invokevirtual 89, 3) := by decide +kernel
theorem dX4_minutes_48 : decode cX4_minutes 48 = .ok (.ireturn, 1) := by decide +kernel
set_option maxRecDepth 20000 in
theorem ggX4_sums_X4_it : GoodIn wsX4_sums wsX4_it := goodIn_r _ [6, 1, 7, 8, 9, 10, 11, 12, 13, 14, 15, 16, 17, 18, 19, 20, 21] (by decide +kernel) (by decide +kernel)
set_option maxRecDepth 20000 in
theorem gX4_sums_X4_it : GoodIn wsX4_sums (wsV RX4 56 RX4 yX4_it wsX4_it) := goodIn_app (goodIn_of _ (by decide +kernel)) ggX4_sums_X4_it
theorem dX4_sums_0 : decode cX4_sums 0 = .ok (.iconst 0, 1) := by decide +kernel
theorem dX4_sums_1 : decode cX4_sums 1 = .ok (.istore_n 2, 1) := by decide +kernel
theorem dX4_sums_2 : decode cX4_sums 2 = .ok (.iconst 0, 1) := by decide +kernel
theorem dX4_sums_3 : decode cX4_sums 3 = .ok (.istore_n 3, 1) := by decide +kernel
theorem dX4_sums_4 : decode cX4_sums 4 = .ok (.iload_n 3, 1) := by decide +kernel
theorem dX4_sums_5 : decode cX4_sums 5 = .ok (.aload_n 0, 1) := by decide +kernel
theorem dX4_sums_6 : decode cX4_sums 6 = .ok (.getfield 9, 3) := by decide +kernel
theorem dX4_sums_9 : decode cX4_sums 9 = .ok (.iconst 4, 1) := by decide +kernel
theorem dX4_sums_10 : decode cX4_sums 10 = .ok (.iaload, 1) := by decide +kernel
theorem dX4_sums_11 : decode cX4_sums 11 = .ok (.if_icmp .ge 18, 3) := by decide +kernel
theorem dX4_sums_14 : decode cX4_sums 14 = .ok (.iload_n 2, 1) := by decide +kernel
theorem dX4_sums_15 : decode cX4_sums 15 = .ok (.aload_n 0, 1) := by decide +kernel
theorem dX4_sums_16 : decode cX4_sums 16 = .ok (.iload_n 3, 1) := by decide +kernel
theorem dX4_sums_17 : decode cX4_sums 17 = .ok (.iload_n 1, 1) := by decide +kernel
theorem dX4_sums_18 : decode cX4_sums 18 = .ok (.invokevirtual 56, 3) := by decide +kernel
theorem dX4_sums_21 : decode cX4_sums 21 = .ok (.iadd, 1) := by decide +kernel
theorem dX4_sums_22 : decode cX4_sums 22 = .ok (.istore_n 2, 1) := by decide +kernel
theorem dX4_sums_23 : decode cX4_sums 23 = .ok (.iinc 3 1, 3) := by decide +kernel
theorem dX4_sums_26 : decode cX4_sums 26 = .ok (.goto (-22), 3) := by decide +kernel
theorem dX4_sums_29 : decode cX4_sums 29 = .ok (.iload_n 2, 1) := by decide +kernel
theorem dX4_sums_30 : decode cX4_sums 30 = .ok (.ireturn, 1) := by decide +kernel
set_option maxRecDepth 20000 in
theorem ggX4_thinks_X4_copyAll : GoodIn wsX4_thinks wsX4_copyAll := goodIn_r _ [6] (by decide +kernel) (by decide +kernel)
set_option maxRecDepth 20000 in
theorem gX4_thinks_X4_copyAll : GoodIn wsX4_thinks (va_wsS RX4 122 yX4_copyAll wsX4_copyAll) := goodIn_app (goodIn_of _ (by decide +kernel)) ggX4_thinks_X4_copyAll
theorem dX4_thinks_0 : decode cX4_thinks 0 = .ok (.aload_n 0, 1) := by decide +kernel
theorem dX4_thinks_1 : decode cX4_thinks 1 = .ok (.getfield 9, 3) := by decide +kernel
theorem dX4_thinks_4 : decode cX4_thinks 4 = .ok (.aload_n 0, 1) := by decide +kernel
theorem dX4_thinks_5 : decode cX4_thinks 5 = .ok (.getfield 16, 3) := by decide +kernel
theorem dX4_thinks_8 : decode cX4_thinks 8 = .ok (.invokestatic 122, 3) := by decide +kernel
theorem dX4_thinks_11 : decode cX4_thinks 11 = .ok (.return_, 1) := by decide +kernel
set_option maxRecDepth 20000 in
theorem ggX4_putsBack_X4_copyAll : GoodIn wsX4_putsBack wsX4_copyAll := goodIn_r _ [6] (by decide +kernel) (by decide +kernel)
set_option maxRecDepth 20000 in
theorem gX4_putsBack_X4_copyAll : GoodIn wsX4_putsBack (va_wsS RX4 122 yX4_copyAll wsX4_copyAll) := goodIn_app (goodIn_of _ (by decide +kernel)) ggX4_putsBack_X4_copyAll
theorem dX4_putsBack_0 : decode cX4_putsBack 0 = .ok (.aload_n 0, 1) := by decide +kernel
theorem dX4_putsBack_1 : decode cX4_putsBack 1 = .ok (.getfield 16, 3) := by decide +kernel
theorem dX4_putsBack_4 : decode cX4_putsBack 4 = .ok (.aload_n 0, 1) := by decide +kernel
theorem dX4_putsBack_5 : decode cX4_putsBack 5 = .ok (.getfield 9, 3) := by decide +kernel
theorem dX4_putsBack_8 : decode cX4_putsBack 8 = .ok (.invokestatic 122, 3) := by decide +kernel
theorem dX4_putsBack_11 : decode cX4_putsBack 11 = .ok (.return_, 1) := by decide +kernel
set_option maxRecDepth 20000 in
theorem ggX4_on_X4_isPerson : GoodIn wsX4_on wsX4_isPerson := goodIn_r _ [6, 7, 8, 9, 5, 10, 83, 84, 85, 86, 87, 88, 89, 90, 91, 92, 93, 94, 95, 96, 97] (by decide +kernel) (by decide +kernel)
set_option maxRecDepth 20000 in
theorem gX4_on_X4_isPerson : GoodIn wsX4_on (wsV RX4 100 RX4 yX4_isPerson wsX4_isPerson) := goodIn_app (goodIn_of _ (by decide +kernel)) ggX4_on_X4_isPerson
set_option maxRecDepth 20000 in
theorem ggX4_on_X4_in : GoodIn wsX4_on wsX4_in := goodIn_r _ [10] (by decide +kernel) (by decide +kernel)
set_option maxRecDepth 20000 in
theorem gX4_on_X4_in : GoodIn wsX4_on (va_wsS RX4 41 yX4_in wsX4_in) := goodIn_app (goodIn_of _ (by decide +kernel)) ggX4_on_X4_in
set_option maxRecDepth 20000 in
theorem ggX4_on_X4_finds : GoodIn wsX4_on wsX4_finds := goodIn_r _ [14, 15, 1, 83, 84, 85, 86, 87, 88, 89, 90, 91, 92, 93, 94, 95, 96, 97] (by decide +kernel) (by decide +kernel)
set_option maxRecDepth 20000 in
theorem gX4_on_X4_finds : GoodIn wsX4_on (wsV RX4 37 RX4 yX4_finds wsX4_finds) := goodIn_app (goodIn_of _ (by decide +kernel)) ggX4_on_X4_finds
set_option maxRecDepth 20000 in
theorem ggX4_on_X4_thinks : GoodIn wsX4_on wsX4_thinks := goodIn_r _ [19, 7, 20, 21, 22, 5, 23, 83, 84, 85, 86, 87, 88, 89, 90, 91, 92, 93, 94, 95, 96, 97] (by decide +kernel) (by decide +kernel)
set_option maxRecDepth 20000 in
theorem gX4_on_X4_thinks : GoodIn wsX4_on (wsV RX4 126 RX4 yX4_thinks wsX4_thinks) := goodIn_app (goodIn_of _ (by decide +kernel)) ggX4_on_X4_thinks
set_option maxRecDepth 20000 in
theorem ggX4_on_X4_goesFor : GoodIn wsX4_on wsX4_goesFor := goodIn_r _ [27, 28, 29, 30, 5, 31, 7, 32, 33, 34, 35, 36, 37, 38, 39, 40, 41, 42, 43, 44, 45, 46, 47, 48, 49, 50, 51, 52, 53, 54, 55, 56, 57, 58, 59, 60, 61, 62, 63, 64, 65, 66, 67, 68, 69, 70, 71, 72, 73, 74, 8, 9, 10, 75, 76, 77, 78, 83, 84, 85, 86, 87, 88, 89, 90, 91, 92, 93, 94, 95, 96, 97] (by decide +kernel) (by decide +kernel)
set_option maxRecDepth 20000 in
theorem gX4_on_X4_goesFor : GoodIn wsX4_on (wsV RX4 119 RX4 yX4_goesFor wsX4_goesFor) := goodIn_app (goodIn_of _ (by decide +kernel)) ggX4_on_X4_goesFor
set_option maxRecDepth 20000 in
theorem ggX4_on_X4_it : GoodIn wsX4_on wsX4_it := goodIn_r _ [43, 7, 83, 84, 85, 86, 87, 88, 89, 90, 91, 92, 93, 94, 95, 96, 97] (by decide +kernel) (by decide +kernel)
set_option maxRecDepth 20000 in
theorem gX4_on_X4_it : GoodIn wsX4_on (wsV RX4 56 RX4 yX4_it wsX4_it) := goodIn_app (goodIn_of _ (by decide +kernel)) ggX4_on_X4_it
set_option maxRecDepth 20000 in
theorem ggX4_on_X4_putsBack : GoodIn wsX4_on wsX4_putsBack := goodIn_r _ [82, 20, 7, 21, 22, 5, 23, 83, 84, 85, 86, 87, 88, 89, 90, 91, 92, 93, 94, 95, 96, 97] (by decide +kernel) (by decide +kernel)
set_option maxRecDepth 20000 in
theorem gX4_on_X4_putsBack : GoodIn wsX4_on (wsV RX4 129 RX4 yX4_putsBack wsX4_putsBack) := goodIn_app (goodIn_of _ (by decide +kernel)) ggX4_on_X4_putsBack
theorem dX4_on_0 : decode cX4_on 0 = .ok (.aload_n 0, 1) := by decide +kernel
theorem dX4_on_1 : decode cX4_on 1 = .ok (.iload_n 1, 1) := by decide +kernel
theorem dX4_on_2 : decode cX4_on 2 = .ok (.invokevirtual 100, 3) := by decide +kernel
theorem dX4_on_5 : decode cX4_on 5 = .ok (.ifCond .eq 25, 3) := by decide +kernel
