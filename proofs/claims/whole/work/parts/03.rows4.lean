theorem dX4_on_8 : decode cX4_on 8 = .ok (.iload_n 2, 1) := by decide +kernel
theorem dX4_on_9 : decode cX4_on 9 = .ok (.i2l, 1) := by decide +kernel
theorem dX4_on_10 : decode cX4_on 10 = .ok (.iconst 0, 1) := by decide +kernel
theorem dX4_on_11 : decode cX4_on 11 = .ok (.sipush 400, 3) := by decide +kernel
theorem dX4_on_14 : decode cX4_on 14 = .ok (.invokestatic 41, 3) := by decide +kernel
theorem dX4_on_17 : decode cX4_on 17 = .ok (.ifCond .eq 13, 3) := by decide +kernel
theorem dX4_on_20 : decode cX4_on 20 = .ok (.iload_n 3, 1) := by decide +kernel
theorem dX4_on_21 : decode cX4_on 21 = .ok (.i2l, 1) := by decide +kernel
theorem dX4_on_22 : decode cX4_on 22 = .ok (.iconst 0, 1) := by decide +kernel
theorem dX4_on_23 : decode cX4_on 23 = .ok (.iconst 2, 1) := by decide +kernel
theorem dX4_on_24 : decode cX4_on 24 = .ok (.invokestatic 41, 3) := by decide +kernel
theorem dX4_on_27 : decode cX4_on 27 = .ok (.ifCond .ne 10, 3) := by decide +kernel
theorem dX4_on_30 : decode cX4_on 30 = .ok (.aload_n 0, 1) := by decide +kernel
theorem dX4_on_31 : decode cX4_on 31 = .ok (.ldc 35, 2) := by decide +kernel
theorem dX4_on_33 : decode cX4_on 33 = .ok (.invokevirtual 37, 3) := by decide +kernel
theorem dX4_on_36 : decode cX4_on 36 = .ok (.ireturn, 1) := by decide +kernel
theorem dX4_on_37 : decode cX4_on 37 = .ok (.aload_n 0, 1) := by decide +kernel
theorem dX4_on_38 : decode cX4_on 38 = .ok (.invokevirtual 126, 3) := by decide +kernel
theorem dX4_on_41 : decode cX4_on 41 = .ok (.aload_n 0, 1) := by decide +kernel
theorem dX4_on_42 : decode cX4_on 42 = .ok (.iload_n 2, 1) := by decide +kernel
theorem dX4_on_43 : decode cX4_on 43 = .ok (.invokevirtual 119, 3) := by decide +kernel
theorem dX4_on_46 : decode cX4_on 46 = .ok (.aload_n 0, 1) := by decide +kernel
theorem dX4_on_47 : decode cX4_on 47 = .ok (.iload_n 1, 1) := by decide +kernel
theorem dX4_on_48 : decode cX4_on 48 = .ok (.iconst 1, 1) := by decide +kernel
theorem dX4_on_49 : decode cX4_on 49 = .ok (.iload_n 3, 1) := by decide +kernel
theorem dX4_on_50 : decode cX4_on 50 = .ok (.iadd, 1) := by decide +kernel
theorem dX4_on_51 : decode cX4_on 51 = .ok (.invokevirtual 56, 3) := by decide +kernel
theorem dX4_on_54 : decode cX4_on 54 = .ok (.istore 4, 2) := by decide +kernel
theorem dX4_on_56 : decode cX4_on 56 = .ok (.aload_n 0, 1) := by decide +kernel
theorem dX4_on_57 : decode cX4_on 57 = .ok (.invokevirtual 129, 3) := by decide +kernel
theorem dX4_on_60 : decode cX4_on 60 = .ok (.iload 4, 2) := by decide +kernel
theorem dX4_on_62 : decode cX4_on 62 = .ok (.ireturn, 1) := by decide +kernel
set_option maxRecDepth 20000 in
theorem ggX4_heard_X4_in : GoodIn wsX4_heard wsX4_in := goodIn_r _ [5] (by decide +kernel) (by decide +kernel)
set_option maxRecDepth 20000 in
theorem gX4_heard_X4_in : GoodIn wsX4_heard (va_wsS RX4 41 yX4_in wsX4_in) := goodIn_app (goodIn_of _ (by decide +kernel)) ggX4_heard_X4_in
set_option maxRecDepth 20000 in
theorem ggX4_heard_X4_finds : GoodIn wsX4_heard wsX4_finds := goodIn_r _ [9, 10, 1, 91, 92, 93, 94, 95, 96, 97, 98, 99, 100, 101, 102, 103, 104, 105] (by decide +kernel) (by decide +kernel)
set_option maxRecDepth 20000 in
theorem gX4_heard_X4_finds : GoodIn wsX4_heard (wsV RX4 37 RX4 yX4_finds wsX4_finds) := goodIn_app (goodIn_of _ (by decide +kernel)) ggX4_heard_X4_finds
set_option maxRecDepth 20000 in
theorem ggX4_heard_X4_thinks : GoodIn wsX4_heard wsX4_thinks := goodIn_r _ [14, 15, 16, 17, 18, 4, 19, 91, 92, 93, 94, 95, 96, 97, 98, 99, 100, 101, 102, 103, 104, 105] (by decide +kernel) (by decide +kernel)
set_option maxRecDepth 20000 in
theorem gX4_heard_X4_thinks : GoodIn wsX4_heard (wsV RX4 126 RX4 yX4_thinks wsX4_thinks) := goodIn_app (goodIn_of _ (by decide +kernel)) ggX4_heard_X4_thinks
set_option maxRecDepth 20000 in
theorem ggX4_heard_X4_heardOn : GoodIn wsX4_heard wsX4_heardOn := goodIn_r _ [23, 24, 25, 26, 4, 27, 28, 29, 30, 31, 15, 32, 33, 34, 35, 36, 37, 38, 39, 40, 41, 42, 43, 44, 45, 46, 47, 48, 49, 50, 51, 52, 53, 54, 55, 56, 57, 58, 59, 60, 61, 62, 63, 64, 65, 66, 67, 68, 69, 70, 71, 72, 73, 74, 2, 3, 5, 75, 76, 77, 78, 79, 80, 81, 82, 83, 84, 85, 86, 87, 88, 89, 90, 16, 17, 18, 19, 91, 92, 93, 94, 95, 96, 97, 98, 99, 100, 101, 102, 103, 104, 105] (by decide +kernel) (by decide +kernel)
set_option maxRecDepth 20000 in
theorem gX4_heard_X4_heardOn : GoodIn wsX4_heard (wsV RX4 132 RX4 yX4_heardOn wsX4_heardOn) := goodIn_app (goodIn_of _ (by decide +kernel)) ggX4_heard_X4_heardOn
theorem dX4_heard_0 : decode cX4_heard 0 = .ok (.iload_n 1, 1) := by decide +kernel
theorem dX4_heard_1 : decode cX4_heard 1 = .ok (.i2l, 1) := by decide +kernel
theorem dX4_heard_2 : decode cX4_heard 2 = .ok (.iconst 0, 1) := by decide +kernel
theorem dX4_heard_3 : decode cX4_heard 3 = .ok (.sipush 400, 3) := by decide +kernel
theorem dX4_heard_6 : decode cX4_heard 6 = .ok (.invokestatic 41, 3) := by decide +kernel
theorem dX4_heard_9 : decode cX4_heard 9 = .ok (.ifCond .ne 10, 3) := by decide +kernel
theorem dX4_heard_12 : decode cX4_heard 12 = .ok (.aload_n 0, 1) := by decide +kernel
theorem dX4_heard_13 : decode cX4_heard 13 = .ok (.ldc 35, 2) := by decide +kernel
theorem dX4_heard_15 : decode cX4_heard 15 = .ok (.invokevirtual 37, 3) := by decide +kernel
theorem dX4_heard_18 : decode cX4_heard 18 = .ok (.ireturn, 1) := by decide +kernel
theorem dX4_heard_19 : decode cX4_heard 19 = .ok (.aload_n 0, 1) := by decide +kernel
theorem dX4_heard_20 : decode cX4_heard 20 = .ok (.invokevirtual 126, 3) := by decide +kernel
theorem dX4_heard_23 : decode cX4_heard 23 = .ok (.aload_n 0, 1) := by decide +kernel
theorem dX4_heard_24 : decode cX4_heard 24 = .ok (.iload_n 1, 1) := by decide +kernel
theorem dX4_heard_25 : decode cX4_heard 25 = .ok (.invokevirtual 132, 3) := by decide +kernel
theorem dX4_heard_28 : decode cX4_heard 28 = .ok (.ireturn, 1) := by decide +kernel
set_option maxRecDepth 20000 in
theorem ggX4_reaches_X4_isHouse : GoodIn wsX4_reaches wsX4_isHouse := goodIn_r _ [6, 7, 8, 5, 9] (by decide +kernel) (by decide +kernel)
set_option maxRecDepth 20000 in
theorem gX4_reaches_X4_isHouse : GoodIn wsX4_reaches (va_wsS RX4 74 yX4_isHouse wsX4_isHouse) := goodIn_app (goodIn_of _ (by decide +kernel)) ggX4_reaches_X4_isHouse
set_option maxRecDepth 20000 in
theorem ggX4_reaches_X4_finds : GoodIn wsX4_reaches wsX4_finds := goodIn_r _ [13, 14, 1, 79, 80, 81, 82, 83, 84, 85, 86, 87, 88, 89, 90, 91, 92, 93] (by decide +kernel) (by decide +kernel)
set_option maxRecDepth 20000 in
theorem gX4_reaches_X4_finds : GoodIn wsX4_reaches (wsV RX4 37 RX4 yX4_finds wsX4_finds) := goodIn_app (goodIn_of _ (by decide +kernel)) ggX4_reaches_X4_finds
set_option maxRecDepth 20000 in
theorem ggX4_reaches_X4_thinks : GoodIn wsX4_reaches wsX4_thinks := goodIn_r _ [18, 19, 20, 21, 22, 5, 23, 79, 80, 81, 82, 83, 84, 85, 86, 87, 88, 89, 90, 91, 92, 93] (by decide +kernel) (by decide +kernel)
set_option maxRecDepth 20000 in
theorem gX4_reaches_X4_thinks : GoodIn wsX4_reaches (wsV RX4 126 RX4 yX4_thinks wsX4_thinks) := goodIn_app (goodIn_of _ (by decide +kernel)) ggX4_reaches_X4_thinks
set_option maxRecDepth 20000 in
theorem ggX4_reaches_X4_isTaken : GoodIn wsX4_reaches wsX4_isTaken := goodIn_r _ [27, 19, 28, 29, 30, 5, 31, 32, 33, 34, 35, 36, 37, 38, 39, 79, 80, 81, 82, 83, 84, 85, 86, 87, 88, 89, 90, 91, 92, 93] (by decide +kernel) (by decide +kernel)
set_option maxRecDepth 20000 in
theorem gX4_reaches_X4_isTaken : GoodIn wsX4_reaches (wsV RX4 60 RX4 yX4_isTaken wsX4_isTaken) := goodIn_app (goodIn_of _ (by decide +kernel)) ggX4_reaches_X4_isTaken
set_option maxRecDepth 20000 in
theorem ggX4_reaches_X4_goes : GoodIn wsX4_reaches wsX4_goes := goodIn_r _ [43, 19, 44, 45, 46, 5, 47, 48, 49, 50, 51, 52, 53, 54, 55, 24, 25, 26, 27, 28, 29, 30, 31, 32, 33, 34, 35, 36, 37, 38, 39, 56, 57, 58, 59, 60, 61, 62, 63, 64, 65, 66, 67, 68, 69, 70, 7, 8, 9, 71, 72, 73, 74, 79, 80, 81, 82, 83, 84, 85, 86, 87, 88, 89, 90, 91, 92, 93] (by decide +kernel) (by decide +kernel)
set_option maxRecDepth 20000 in
theorem gX4_reaches_X4_goes : GoodIn wsX4_reaches (wsV RX4 114 RX4 yX4_goes wsX4_goes) := goodIn_app (goodIn_of _ (by decide +kernel)) ggX4_reaches_X4_goes
set_option maxRecDepth 20000 in
theorem ggX4_reaches_X4_putsBack : GoodIn wsX4_reaches wsX4_putsBack := goodIn_r _ [78, 20, 19, 21, 22, 5, 23, 79, 80, 81, 82, 83, 84, 85, 86, 87, 88, 89, 90, 91, 92, 93] (by decide +kernel) (by decide +kernel)
set_option maxRecDepth 20000 in
theorem gX4_reaches_X4_putsBack : GoodIn wsX4_reaches (wsV RX4 129 RX4 yX4_putsBack wsX4_putsBack) := goodIn_app (goodIn_of _ (by decide +kernel)) ggX4_reaches_X4_putsBack
theorem dX4_reaches_0 : decode cX4_reaches 0 = .ok (.iload_n 1, 1) := by decide +kernel
theorem dX4_reaches_1 : decode cX4_reaches 1 = .ok (.invokestatic 74, 3) := by decide +kernel
theorem dX4_reaches_4 : decode cX4_reaches 4 = .ok (.ifCond .ne 10, 3) := by decide +kernel
theorem dX4_reaches_7 : decode cX4_reaches 7 = .ok (.aload_n 0, 1) := by decide +kernel
theorem dX4_reaches_8 : decode cX4_reaches 8 = .ok (.ldc 35, 2) := by decide +kernel
theorem dX4_reaches_10 : decode cX4_reaches 10 = .ok (.invokevirtual 37, 3) := by decide +kernel
theorem dX4_reaches_13 : decode cX4_reaches 13 = .ok (.ireturn, 1) := by decide +kernel
theorem dX4_reaches_14 : decode cX4_reaches 14 = .ok (.aload_n 0, 1) := by decide +kernel
theorem dX4_reaches_15 : decode cX4_reaches 15 = .ok (.invokevirtual 126, 3) := by decide +kernel
theorem dX4_reaches_18 : decode cX4_reaches 18 = .ok (.iconst 0, 1) := by decide +kernel
theorem dX4_reaches_19 : decode cX4_reaches 19 = .ok (.istore_n 2, 1) := by decide +kernel
theorem dX4_reaches_20 : decode cX4_reaches 20 = .ok (.iload_n 2, 1) := by decide +kernel
theorem dX4_reaches_21 : decode cX4_reaches 21 = .ok (.sipush 400, 3) := by decide +kernel
theorem dX4_reaches_24 : decode cX4_reaches 24 = .ok (.if_icmp .gt 21, 3) := by decide +kernel
theorem dX4_reaches_27 : decode cX4_reaches 27 = .ok (.aload_n 0, 1) := by decide +kernel
theorem dX4_reaches_28 : decode cX4_reaches 28 = .ok (.iload_n 1, 1) := by decide +kernel
theorem dX4_reaches_29 : decode cX4_reaches 29 = .ok (.invokevirtual 60, 3) := by decide +kernel
theorem dX4_reaches_32 : decode cX4_reaches 32 = .ok (.ifCond .ne 13, 3) := by decide +kernel
theorem dX4_reaches_35 : decode cX4_reaches 35 = .ok (.aload_n 0, 1) := by decide +kernel
theorem dX4_reaches_36 : decode cX4_reaches 36 = .ok (.invokevirtual 114, 3) := by decide +kernel
theorem dX4_reaches_39 : decode cX4_reaches 39 = .ok (.iinc 2 1, 3) := by decide +kernel
theorem dX4_reaches_42 : decode cX4_reaches 42 = .ok (.goto (-22), 3) := by decide +kernel
theorem dX4_reaches_45 : decode cX4_reaches 45 = .ok (.aload_n 0, 1) := by decide +kernel
theorem dX4_reaches_46 : decode cX4_reaches 46 = .ok (.invokevirtual 129, 3) := by decide +kernel
theorem dX4_reaches_49 : decode cX4_reaches 49 = .ok (.iload_n 2, 1) := by decide +kernel
theorem dX4_reaches_50 : decode cX4_reaches 50 = .ok (.sipush 400, 3) := by decide +kernel
theorem dX4_reaches_53 : decode cX4_reaches 53 = .ok (.if_icmp .le 12, 3) := by decide +kernel
theorem dX4_reaches_56 : decode cX4_reaches 56 = .ok (.aload_n 0, 1) := by decide +kernel
theorem dX4_reaches_57 : decode cX4_reaches 57 = .ok (.ldc 36, 2) := by decide +kernel
theorem dX4_reaches_59 : decode cX4_reaches 59 = .ok (.invokevirtual 37, 3) := by decide +kernel
theorem dX4_reaches_62 : decode cX4_reaches 62 = .ok (.goto 4, 3) := by decide +kernel
theorem dX4_reaches_65 : decode cX4_reaches 65 = .ok (.iload_n 2, 1) := by decide +kernel
theorem dX4_reaches_66 : decode cX4_reaches 66 = .ok (.ireturn, 1) := by decide +kernel
set_option maxRecDepth 20000 in
theorem ggX4_catches_X4_isPerson : GoodIn wsX4_catches wsX4_isPerson := goodIn_r _ [7, 8, 9, 10, 6, 11, 80, 81, 82, 83, 84, 85, 86, 87, 88, 89, 90, 91, 92, 93, 94] (by decide +kernel) (by decide +kernel)
set_option maxRecDepth 20000 in
theorem gX4_catches_X4_isPerson : GoodIn wsX4_catches (wsV RX4 100 RX4 yX4_isPerson wsX4_isPerson) := goodIn_app (goodIn_of _ (by decide +kernel)) ggX4_catches_X4_isPerson
set_option maxRecDepth 20000 in
theorem ggX4_catches_X4_finds : GoodIn wsX4_catches wsX4_finds := goodIn_r _ [15, 16, 1, 80, 81, 82, 83, 84, 85, 86, 87, 88, 89, 90, 91, 92, 93, 94] (by decide +kernel) (by decide +kernel)
set_option maxRecDepth 20000 in
theorem gX4_catches_X4_finds : GoodIn wsX4_catches (wsV RX4 37 RX4 yX4_finds wsX4_finds) := goodIn_app (goodIn_of _ (by decide +kernel)) ggX4_catches_X4_finds
set_option maxRecDepth 20000 in
theorem ggX4_catches_X4_thinks : GoodIn wsX4_catches wsX4_thinks := goodIn_r _ [20, 8, 21, 22, 23, 6, 24, 80, 81, 82, 83, 84, 85, 86, 87, 88, 89, 90, 91, 92, 93, 94] (by decide +kernel) (by decide +kernel)
set_option maxRecDepth 20000 in
theorem gX4_catches_X4_thinks : GoodIn wsX4_catches (wsV RX4 126 RX4 yX4_thinks wsX4_thinks) := goodIn_app (goodIn_of _ (by decide +kernel)) ggX4_catches_X4_thinks
set_option maxRecDepth 20000 in
theorem ggX4_catches_X4_isIn : GoodIn wsX4_catches wsX4_isIn := goodIn_r _ [28, 29, 30, 31, 6, 32, 8, 33, 34, 35, 36, 37, 38, 39, 40, 41, 42, 43, 44, 45, 46, 47, 48, 80, 81, 82, 83, 84, 85, 86, 87, 88, 89, 90, 91, 92, 93, 94] (by decide +kernel) (by decide +kernel)
set_option maxRecDepth 20000 in
theorem gX4_catches_X4_isIn : GoodIn wsX4_catches (wsV RX4 64 RX4 yX4_isIn wsX4_isIn) := goodIn_app (goodIn_of _ (by decide +kernel)) ggX4_catches_X4_isIn
set_option maxRecDepth 20000 in
theorem ggX4_catches_X4_goes : GoodIn wsX4_catches wsX4_goes := goodIn_r _ [52, 8, 53, 54, 55, 6, 56, 25, 26, 27, 28, 29, 30, 31, 32, 33, 34, 35, 36, 37, 38, 39, 40, 41, 42, 43, 44, 45, 46, 47, 48, 57, 58, 59, 60, 61, 62, 63, 64, 65, 66, 67, 68, 69, 70, 71, 9, 10, 11, 72, 73, 74, 75, 80, 81, 82, 83, 84, 85, 86, 87, 88, 89, 90, 91, 92, 93, 94] (by decide +kernel) (by decide +kernel)
set_option maxRecDepth 20000 in
theorem gX4_catches_X4_goes : GoodIn wsX4_catches (wsV RX4 114 RX4 yX4_goes wsX4_goes) := goodIn_app (goodIn_of _ (by decide +kernel)) ggX4_catches_X4_goes
set_option maxRecDepth 20000 in
theorem ggX4_catches_X4_putsBack : GoodIn wsX4_catches wsX4_putsBack := goodIn_r _ [79, 21, 8, 22, 23, 6, 24, 80, 81, 82, 83, 84, 85, 86, 87, 88, 89, 90, 91, 92, 93, 94] (by decide +kernel) (by decide +kernel)
set_option maxRecDepth 20000 in
theorem gX4_catches_X4_putsBack : GoodIn wsX4_catches (wsV RX4 129 RX4 yX4_putsBack wsX4_putsBack) := goodIn_app (goodIn_of _ (by decide +kernel)) ggX4_catches_X4_putsBack
theorem dX4_catches_0 : decode cX4_catches 0 = .ok (.aload_n 0, 1) := by decide +kernel
theorem dX4_catches_1 : decode cX4_catches 1 = .ok (.iload_n 1, 1) := by decide +kernel
theorem dX4_catches_2 : decode cX4_catches 2 = .ok (.invokevirtual 100, 3) := by decide +kernel
theorem dX4_catches_5 : decode cX4_catches 5 = .ok (.ifCond .ne 10, 3) := by decide +kernel
theorem dX4_catches_8 : decode cX4_catches 8 = .ok (.aload_n 0, 1) := by decide +kernel
theorem dX4_catches_9 : decode cX4_catches 9 = .ok (.ldc 35, 2) := by decide +kernel
theorem dX4_catches_11 : decode cX4_catches 11 = .ok (.invokevirtual 37, 3) := by decide +kernel
theorem dX4_catches_14 : decode cX4_catches 14 = .ok (.ireturn, 1) := by decide +kernel
theorem dX4_catches_15 : decode cX4_catches 15 = .ok (.aload_n 0, 1) := by decide +kernel
theorem dX4_catches_16 : decode cX4_catches 16 = .ok (.invokevirtual 126, 3) := by decide +kernel
theorem dX4_catches_19 : decode cX4_catches 19 = .ok (.iconst 0, 1) := by decide +kernel
theorem dX4_catches_20 : decode cX4_catches 20 = .ok (.istore_n 2, 1) := by decide +kernel
theorem dX4_catches_21 : decode cX4_catches 21 = .ok (.iload_n 2, 1) := by decide +kernel
theorem dX4_catches_22 : decode cX4_catches 22 = .ok (.sipush 400, 3) := by decide +kernel
theorem dX4_catches_25 : decode cX4_catches 25 = .ok (.if_icmp .gt 21, 3) := by decide +kernel
theorem dX4_catches_28 : decode cX4_catches 28 = .ok (.aload_n 0, 1) := by decide +kernel
theorem dX4_catches_29 : decode cX4_catches 29 = .ok (.iload_n 1, 1) := by decide +kernel
theorem dX4_catches_30 : decode cX4_catches 30 = .ok (.invokevirtual 64, 3) := by decide +kernel
theorem dX4_catches_33 : decode cX4_catches 33 = .ok (.ifCond .ne 13, 3) := by decide +kernel
theorem dX4_catches_36 : decode cX4_catches 36 = .ok (.aload_n 0, 1) := by decide +kernel
theorem dX4_catches_37 : decode cX4_catches 37 = .ok (.invokevirtual 114, 3) := by decide +kernel
theorem dX4_catches_40 : decode cX4_catches 40 = .ok (.iinc 2 1, 3) := by decide +kernel
theorem dX4_catches_43 : decode cX4_catches 43 = .ok (.goto (-22), 3) := by decide +kernel
theorem dX4_catches_46 : decode cX4_catches 46 = .ok (.aload_n 0, 1) := by decide +kernel
theorem dX4_catches_47 : decode cX4_catches 47 = .ok (.invokevirtual 129, 3) := by decide +kernel
theorem dX4_catches_50 : decode cX4_catches 50 = .ok (.iload_n 2, 1) := by decide +kernel
theorem dX4_catches_51 : decode cX4_catches 51 = .ok (.sipush 400, 3) := by decide +kernel
theorem dX4_catches_54 : decode cX4_catches 54 = .ok (.if_icmp .le 12, 3) := by decide +kernel
theorem dX4_catches_57 : decode cX4_catches 57 = .ok (.aload_n 0, 1) := by decide +kernel
theorem dX4_catches_58 : decode cX4_catches 58 = .ok (.ldc 36, 2) := by decide +kernel
theorem dX4_catches_60 : decode cX4_catches 60 = .ok (.invokevirtual 37, 3) := by decide +kernel
theorem dX4_catches_63 : decode cX4_catches 63 = .ok (.goto 4, 3) := by decide +kernel
theorem dX4_catches_66 : decode cX4_catches 66 = .ok (.iload_n 2, 1) := by decide +kernel
theorem dX4_catches_67 : decode cX4_catches 67 = .ok (.ireturn, 1) := by decide +kernel
set_option maxRecDepth 20000 in
theorem ggX4_out_X4_thinks : GoodIn wsX4_out wsX4_thinks := goodIn_r _ [6, 7, 8, 9, 10, 5, 11, 76, 77, 78, 79, 80, 81, 82, 83, 84, 85, 86, 87, 88, 89, 90] (by decide +kernel) (by decide +kernel)
set_option maxRecDepth 20000 in
theorem gX4_out_X4_thinks : GoodIn wsX4_out (wsV RX4 126 RX4 yX4_thinks wsX4_thinks) := goodIn_app (goodIn_of _ (by decide +kernel)) ggX4_out_X4_thinks
set_option maxRecDepth 20000 in
theorem ggX4_out_X4_isHush : GoodIn wsX4_out wsX4_isHush := goodIn_r _ [15, 7, 16, 17, 18, 5, 19, 20, 21, 22, 23, 76, 77, 78, 79, 80, 81, 82, 83, 84, 85, 86, 87, 88, 89, 90] (by decide +kernel) (by decide +kernel)
set_option maxRecDepth 20000 in
theorem gX4_out_X4_isHush : GoodIn wsX4_out (wsV RX4 52 RX4 yX4_isHush wsX4_isHush) := goodIn_app (goodIn_of _ (by decide +kernel)) ggX4_out_X4_isHush
set_option maxRecDepth 20000 in
theorem ggX4_out_X4_goes : GoodIn wsX4_out wsX4_goes := goodIn_r _ [27, 7, 28, 29, 30, 5, 31, 32, 33, 34, 35, 36, 37, 38, 39, 40, 41, 42, 43, 12, 13, 14, 15, 16, 17, 18, 19, 20, 21, 22, 23, 44, 45, 46, 47, 48, 49, 50, 51, 52, 53, 54, 55, 56, 57, 58, 59, 60, 61, 62, 63, 64, 65, 76, 77, 78, 79, 80, 81, 82, 83, 84, 85, 86, 87, 88, 89, 90] (by decide +kernel) (by decide +kernel)
set_option maxRecDepth 20000 in
theorem gX4_out_X4_goes : GoodIn wsX4_out (wsV RX4 114 RX4 yX4_goes wsX4_goes) := goodIn_app (goodIn_of _ (by decide +kernel)) ggX4_out_X4_goes
set_option maxRecDepth 20000 in
theorem ggX4_out_X4_putsBack : GoodIn wsX4_out wsX4_putsBack := goodIn_r _ [69, 8, 7, 9, 10, 5, 11, 76, 77, 78, 79, 80, 81, 82, 83, 84, 85, 86, 87, 88, 89, 90] (by decide +kernel) (by decide +kernel)
set_option maxRecDepth 20000 in
theorem gX4_out_X4_putsBack : GoodIn wsX4_out (wsV RX4 129 RX4 yX4_putsBack wsX4_putsBack) := goodIn_app (goodIn_of _ (by decide +kernel)) ggX4_out_X4_putsBack
set_option maxRecDepth 20000 in
theorem ggX4_out_X4_finds : GoodIn wsX4_out wsX4_finds := goodIn_r _ [73, 74, 75, 76, 77, 78, 79, 80, 81, 82, 83, 84, 85, 86, 87, 88, 89, 90] (by decide +kernel) (by decide +kernel)
set_option maxRecDepth 20000 in
theorem gX4_out_X4_finds : GoodIn wsX4_out (wsV RX4 37 RX4 yX4_finds wsX4_finds) := goodIn_app (goodIn_of _ (by decide +kernel)) ggX4_out_X4_finds
theorem dX4_out_0 : decode cX4_out 0 = .ok (.aload_n 0, 1) := by decide +kernel
theorem dX4_out_1 : decode cX4_out 1 = .ok (.invokevirtual 126, 3) := by decide +kernel
theorem dX4_out_4 : decode cX4_out 4 = .ok (.iconst 0, 1) := by decide +kernel
theorem dX4_out_5 : decode cX4_out 5 = .ok (.istore_n 1, 1) := by decide +kernel
theorem dX4_out_6 : decode cX4_out 6 = .ok (.iload_n 1, 1) := by decide +kernel
theorem dX4_out_7 : decode cX4_out 7 = .ok (.sipush 400, 3) := by decide +kernel
theorem dX4_out_10 : decode cX4_out 10 = .ok (.if_icmp .gt 20, 3) := by decide +kernel
theorem dX4_out_13 : decode cX4_out 13 = .ok (.aload_n 0, 1) := by decide +kernel
theorem dX4_out_14 : decode cX4_out 14 = .ok (.invokevirtual 52, 3) := by decide +kernel
theorem dX4_out_17 : decode cX4_out 17 = .ok (.ifCond .eq 13, 3) := by decide +kernel
theorem dX4_out_20 : decode cX4_out 20 = .ok (.aload_n 0, 1) := by decide +kernel
theorem dX4_out_21 : decode cX4_out 21 = .ok (.invokevirtual 114, 3) := by decide +kernel
theorem dX4_out_24 : decode cX4_out 24 = .ok (.iinc 1 1, 3) := by decide +kernel
theorem dX4_out_27 : decode cX4_out 27 = .ok (.goto (-21), 3) := by decide +kernel
theorem dX4_out_30 : decode cX4_out 30 = .ok (.aload_n 0, 1) := by decide +kernel
theorem dX4_out_31 : decode cX4_out 31 = .ok (.invokevirtual 129, 3) := by decide +kernel
theorem dX4_out_34 : decode cX4_out 34 = .ok (.iload_n 1, 1) := by decide +kernel
theorem dX4_out_35 : decode cX4_out 35 = .ok (.sipush 400, 3) := by decide +kernel
theorem dX4_out_38 : decode cX4_out 38 = .ok (.if_icmp .le 12, 3) := by decide +kernel
theorem dX4_out_41 : decode cX4_out 41 = .ok (.aload_n 0, 1) := by decide +kernel
theorem dX4_out_42 : decode cX4_out 42 = .ok (.ldc 36, 2) := by decide +kernel
theorem dX4_out_44 : decode cX4_out 44 = .ok (.invokevirtual 37, 3) := by decide +kernel
theorem dX4_out_47 : decode cX4_out 47 = .ok (.goto 4, 3) := by decide +kernel
theorem dX4_out_50 : decode cX4_out 50 = .ok (.iload_n 1, 1) := by decide +kernel
theorem dX4_out_51 : decode cX4_out 51 = .ok (.ireturn, 1) := by decide +kernel
set_option maxRecDepth 20000 in
theorem ggX4_heardOn_X4_goesFor : GoodIn wsX4_heardOn wsX4_goesFor := goodIn_r _ [5, 6, 7, 8, 4, 9, 10, 11, 12, 13, 14, 15, 16, 17, 18, 19, 20, 21, 22, 23, 24, 25, 26, 27, 28, 29, 30, 31, 32, 33, 34, 35, 36, 37, 38, 39, 40, 41, 42, 43, 44, 45, 46, 47, 48, 49, 50, 51, 52, 53, 54, 55, 56, 57, 58, 59, 60, 77, 78, 79, 80, 81, 82, 83, 84, 85, 86, 87, 88, 89, 90, 91] (by decide +kernel) (by decide +kernel)
set_option maxRecDepth 20000 in
theorem gX4_heardOn_X4_goesFor : GoodIn wsX4_heardOn (wsV RX4 119 RX4 yX4_goesFor wsX4_goesFor) := goodIn_app (goodIn_of _ (by decide +kernel)) ggX4_heardOn_X4_goesFor
set_option maxRecDepth 20000 in
theorem ggX4_heardOn_X4_isHeard : GoodIn wsX4_heardOn wsX4_isHeard := goodIn_r _ [64, 10, 23, 24, 25, 4, 26, 27, 28, 29, 30, 31, 32, 33, 34, 35, 36, 37, 38, 65, 66, 67, 68, 19, 20, 21, 22, 57, 58, 59, 60, 15, 16, 17, 18, 77, 78, 79, 80, 81, 82, 83, 84, 85, 86, 87, 88, 89, 90, 91] (by decide +kernel) (by decide +kernel)
set_option maxRecDepth 20000 in
theorem gX4_heardOn_X4_isHeard : GoodIn wsX4_heardOn (wsV RX4 86 RX4 yX4_isHeard wsX4_isHeard) := goodIn_app (goodIn_of _ (by decide +kernel)) ggX4_heardOn_X4_isHeard
set_option maxRecDepth 20000 in
theorem ggX4_heardOn_X4_putsBack : GoodIn wsX4_heardOn wsX4_putsBack := goodIn_r _ [72, 73, 10, 74, 75, 4, 76, 77, 78, 79, 80, 81, 82, 83, 84, 85, 86, 87, 88, 89, 90, 91] (by decide +kernel) (by decide +kernel)
set_option maxRecDepth 20000 in
theorem gX4_heardOn_X4_putsBack : GoodIn wsX4_heardOn (wsV RX4 129 RX4 yX4_putsBack wsX4_putsBack) := goodIn_app (goodIn_of _ (by decide +kernel)) ggX4_heardOn_X4_putsBack
theorem dX4_heardOn_0 : decode cX4_heardOn 0 = .ok (.aload_n 0, 1) := by decide +kernel
theorem dX4_heardOn_1 : decode cX4_heardOn 1 = .ok (.iload_n 1, 1) := by decide +kernel
theorem dX4_heardOn_2 : decode cX4_heardOn 2 = .ok (.invokevirtual 119, 3) := by decide +kernel
theorem dX4_heardOn_5 : decode cX4_heardOn 5 = .ok (.aload_n 0, 1) := by decide +kernel
theorem dX4_heardOn_6 : decode cX4_heardOn 6 = .ok (.invokevirtual 86, 3) := by decide +kernel
theorem dX4_heardOn_9 : decode cX4_heardOn 9 = .ok (.istore_n 2, 1) := by decide +kernel
theorem dX4_heardOn_10 : decode cX4_heardOn 10 = .ok (.aload_n 0, 1) := by decide +kernel
theorem dX4_heardOn_11 : decode cX4_heardOn 11 = .ok (.invokevirtual 129, 3) := by decide +kernel
theorem dX4_heardOn_14 : decode cX4_heardOn 14 = .ok (.iload_n 2, 1) := by decide +kernel
theorem dX4_heardOn_15 : decode cX4_heardOn 15 = .ok (.ireturn, 1) := by decide +kernel
set_option maxRecDepth 20000 in
theorem ggX4_bestAt_X4_thinks : GoodIn wsX4_bestAt wsX4_thinks := goodIn_r _ [6, 1, 7, 8, 9, 5, 10, 77, 78, 79, 80, 81, 82, 83, 84, 85, 86, 87, 88, 89, 90, 91] (by decide +kernel) (by decide +kernel)
set_option maxRecDepth 20000 in
theorem gX4_bestAt_X4_thinks : GoodIn wsX4_bestAt (wsV RX4 126 RX4 yX4_thinks wsX4_thinks) := goodIn_app (goodIn_of _ (by decide +kernel)) ggX4_bestAt_X4_thinks
set_option maxRecDepth 20000 in
theorem ggX4_bestAt_X4_goesFor : GoodIn wsX4_bestAt wsX4_goesFor := goodIn_r _ [14, 15, 16, 17, 5, 18, 1, 19, 20, 21, 22, 23, 24, 25, 26, 27, 28, 29, 30, 31, 32, 33, 34, 35, 36, 37, 38, 39, 40, 41, 42, 43, 44, 45, 46, 47, 48, 49, 50, 51, 52, 53, 54, 55, 56, 57, 58, 59, 60, 61, 62, 63, 64, 65, 66, 67, 68, 77, 78, 79, 80, 81, 82, 83, 84, 85, 86, 87, 88, 89, 90, 91] (by decide +kernel) (by decide +kernel)
set_option maxRecDepth 20000 in
theorem gX4_bestAt_X4_goesFor : GoodIn wsX4_bestAt (wsV RX4 119 RX4 yX4_goesFor wsX4_goesFor) := goodIn_app (goodIn_of _ (by decide +kernel)) ggX4_bestAt_X4_goesFor
set_option maxRecDepth 20000 in
theorem ggX4_bestAt_X4_sums : GoodIn wsX4_bestAt wsX4_sums := goodIn_r _ [72, 1, 27, 28, 29, 5, 30, 77, 78, 79, 80, 81, 82, 83, 84, 85, 86, 87, 88, 89, 90, 91] (by decide +kernel) (by decide +kernel)
set_option maxRecDepth 20000 in
theorem gX4_bestAt_X4_sums : GoodIn wsX4_bestAt (wsV RX4 135 RX4 yX4_sums wsX4_sums) := goodIn_app (goodIn_of _ (by decide +kernel)) ggX4_bestAt_X4_sums
set_option maxRecDepth 20000 in
theorem ggX4_bestAt_X4_it : GoodIn wsX4_bestAt wsX4_it := goodIn_r _ [30, 1, 77, 78, 79, 80, 81, 82, 83, 84, 85, 86, 87, 88, 89, 90, 91] (by decide +kernel) (by decide +kernel)
set_option maxRecDepth 20000 in
theorem gX4_bestAt_X4_it : GoodIn wsX4_bestAt (wsV RX4 56 RX4 yX4_it wsX4_it) := goodIn_app (goodIn_of _ (by decide +kernel)) ggX4_bestAt_X4_it
set_option maxRecDepth 20000 in
theorem ggX4_bestAt_X4_putsBack : GoodIn wsX4_bestAt wsX4_putsBack := goodIn_r _ [76, 7, 1, 8, 9, 5, 10, 77, 78, 79, 80, 81, 82, 83, 84, 85, 86, 87, 88, 89, 90, 91] (by decide +kernel) (by decide +kernel)
set_option maxRecDepth 20000 in
theorem gX4_bestAt_X4_putsBack : GoodIn wsX4_bestAt (wsV RX4 129 RX4 yX4_putsBack wsX4_putsBack) := goodIn_app (goodIn_of _ (by decide +kernel)) ggX4_bestAt_X4_putsBack
theorem dX4_bestAt_0 : decode cX4_bestAt 0 = .ok (.aload_n 0, 1) := by decide +kernel
theorem dX4_bestAt_1 : decode cX4_bestAt 1 = .ok (.invokevirtual 126, 3) := by decide +kernel
theorem dX4_bestAt_4 : decode cX4_bestAt 4 = .ok (.iload_n 2, 1) := by decide +kernel
theorem dX4_bestAt_5 : decode cX4_bestAt 5 = .ok (.istore 6, 2) := by decide +kernel
theorem dX4_bestAt_7 : decode cX4_bestAt 7 = .ok (.iconst (-1), 1) := by decide +kernel
theorem dX4_bestAt_8 : decode cX4_bestAt 8 = .ok (.istore 7, 2) := by decide +kernel
theorem dX4_bestAt_10 : decode cX4_bestAt 10 = .ok (.iload_n 2, 1) := by decide +kernel
theorem dX4_bestAt_11 : decode cX4_bestAt 11 = .ok (.istore 8, 2) := by decide +kernel
theorem dX4_bestAt_13 : decode cX4_bestAt 13 = .ok (.iload 8, 2) := by decide +kernel
theorem dX4_bestAt_15 : decode cX4_bestAt 15 = .ok (.iload_n 3, 1) := by decide +kernel
theorem dX4_bestAt_16 : decode cX4_bestAt 16 = .ok (.if_icmp .gt 81, 3) := by decide +kernel
theorem dX4_bestAt_19 : decode cX4_bestAt 19 = .ok (.aload_n 0, 1) := by decide +kernel
theorem dX4_bestAt_20 : decode cX4_bestAt 20 = .ok (.getfield 9, 3) := by decide +kernel
theorem dX4_bestAt_23 : decode cX4_bestAt 23 = .ok (.iload_n 1, 1) := by decide +kernel
theorem dX4_bestAt_24 : decode cX4_bestAt 24 = .ok (.iload 8, 2) := by decide +kernel
theorem dX4_bestAt_26 : decode cX4_bestAt 26 = .ok (.iastore, 1) := by decide +kernel
theorem dX4_bestAt_27 : decode cX4_bestAt 27 = .ok (.aload_n 0, 1) := by decide +kernel
theorem dX4_bestAt_28 : decode cX4_bestAt 28 = .ok (.iload 5, 2) := by decide +kernel
theorem dX4_bestAt_30 : decode cX4_bestAt 30 = .ok (.invokevirtual 119, 3) := by decide +kernel
theorem dX4_bestAt_33 : decode cX4_bestAt 33 = .ok (.iload 4, 2) := by decide +kernel
theorem dX4_bestAt_35 : decode cX4_bestAt 35 = .ok (.ifCond .ge 11, 3) := by decide +kernel
theorem dX4_bestAt_38 : decode cX4_bestAt 38 = .ok (.aload_n 0, 1) := by decide +kernel
theorem dX4_bestAt_39 : decode cX4_bestAt 39 = .ok (.iconst 2, 1) := by decide +kernel
theorem dX4_bestAt_40 : decode cX4_bestAt 40 = .ok (.invokevirtual 135, 3) := by decide +kernel
theorem dX4_bestAt_43 : decode cX4_bestAt 43 = .ok (.goto 10, 3) := by decide +kernel
theorem dX4_bestAt_46 : decode cX4_bestAt 46 = .ok (.aload_n 0, 1) := by decide +kernel
theorem dX4_bestAt_47 : decode cX4_bestAt 47 = .ok (.iload 4, 2) := by decide +kernel
theorem dX4_bestAt_49 : decode cX4_bestAt 49 = .ok (.iconst 2, 1) := by decide +kernel
theorem dX4_bestAt_50 : decode cX4_bestAt 50 = .ok (.invokevirtual 56, 3) := by decide +kernel
theorem dX4_bestAt_53 : decode cX4_bestAt 53 = .ok (.istore 9, 2) := by decide +kernel
theorem dX4_bestAt_55 : decode cX4_bestAt 55 = .ok (.aload_n 0, 1) := by decide +kernel
theorem dX4_bestAt_56 : decode cX4_bestAt 56 = .ok (.invokevirtual 129, 3) := by decide +kernel
theorem dX4_bestAt_59 : decode cX4_bestAt 59 = .ok (.iload 9, 2) := by decide +kernel
theorem dX4_bestAt_61 : decode cX4_bestAt 61 = .ok (.iload 7, 2) := by decide +kernel
theorem dX4_bestAt_63 : decode cX4_bestAt 63 = .ok (.if_icmp .le 8, 3) := by decide +kernel
theorem dX4_bestAt_66 : decode cX4_bestAt 66 = .ok (.iload 8, 2) := by decide +kernel
theorem dX4_bestAt_68 : decode cX4_bestAt 68 = .ok (.goto 5, 3) := by decide +kernel
theorem dX4_bestAt_71 : decode cX4_bestAt 71 = .ok (.iload 6, 2) := by decide +kernel
theorem dX4_bestAt_73 : decode cX4_bestAt 73 = .ok (.istore 6, 2) := by decide +kernel
theorem dX4_bestAt_75 : decode cX4_bestAt 75 = .ok (.iload 9, 2) := by decide +kernel
theorem dX4_bestAt_77 : decode cX4_bestAt 77 = .ok (.iload 7, 2) := by decide +kernel
theorem dX4_bestAt_79 : decode cX4_bestAt 79 = .ok (.if_icmp .le 8, 3) := by decide +kernel
theorem dX4_bestAt_82 : decode cX4_bestAt 82 = .ok (.iload 9, 2) := by decide +kernel
theorem dX4_bestAt_84 : decode cX4_bestAt 84 = .ok (.goto 5, 3) := by decide +kernel
theorem dX4_bestAt_87 : decode cX4_bestAt 87 = .ok (.iload 7, 2) := by decide +kernel
theorem dX4_bestAt_89 : decode cX4_bestAt 89 = .ok (.istore 7, 2) := by decide +kernel
theorem dX4_bestAt_91 : decode cX4_bestAt 91 = .ok (.iinc 8 1, 3) := by decide +kernel
theorem dX4_bestAt_94 : decode cX4_bestAt 94 = .ok (.goto (-81), 3) := by decide +kernel
theorem dX4_bestAt_97 : decode cX4_bestAt 97 = .ok (.iload 6, 2) := by decide +kernel
theorem dX4_bestAt_99 : decode cX4_bestAt 99 = .ok (.ireturn, 1) := by decide +kernel
set_option maxRecDepth 20000 in
theorem ggX4_where_X4_isPerson : GoodIn wsX4_where wsX4_isPerson := goodIn_r _ [6, 7, 8, 9, 5, 10, 91, 92, 93, 94, 95, 96, 97, 98, 99, 100, 101, 102, 103, 104, 105] (by decide +kernel) (by decide +kernel)
set_option maxRecDepth 20000 in
theorem gX4_where_X4_isPerson : GoodIn wsX4_where (wsV RX4 100 RX4 yX4_isPerson wsX4_isPerson) := goodIn_app (goodIn_of _ (by decide +kernel)) ggX4_where_X4_isPerson
set_option maxRecDepth 20000 in
theorem ggX4_where_X4_in : GoodIn wsX4_where wsX4_in := goodIn_r _ [10] (by decide +kernel) (by decide +kernel)
set_option maxRecDepth 20000 in
theorem gX4_where_X4_in : GoodIn wsX4_where (va_wsS RX4 41 yX4_in wsX4_in) := goodIn_app (goodIn_of _ (by decide +kernel)) ggX4_where_X4_in
set_option maxRecDepth 20000 in
theorem ggX4_where_X4_bestAt : GoodIn wsX4_where wsX4_bestAt := goodIn_r _ [14, 7, 15, 16, 17, 5, 18, 19, 20, 21, 22, 23, 24, 25, 26, 27, 28, 29, 30, 31, 32, 33, 34, 35, 36, 37, 38, 39, 40, 41, 42, 43, 44, 45, 46, 47, 48, 49, 50, 51, 52, 53, 54, 55, 56, 57, 58, 59, 60, 61, 62, 63, 64, 65, 66, 67, 68, 69, 70, 71, 72, 73, 8, 9, 10, 74, 75, 76, 77, 78, 79, 80, 81, 82, 83, 84, 85, 91, 92, 93, 94, 95, 96, 97, 98, 99, 100, 101, 102, 103, 104, 105] (by decide +kernel) (by decide +kernel)
set_option maxRecDepth 20000 in
theorem gX4_where_X4_bestAt : GoodIn wsX4_where (wsV RX4 138 RX4 yX4_bestAt wsX4_bestAt) := goodIn_app (goodIn_of _ (by decide +kernel)) ggX4_where_X4_bestAt
set_option maxRecDepth 20000 in
theorem ggX4_where_X4_finds : GoodIn wsX4_where wsX4_finds := goodIn_r _ [89, 90, 1, 91, 92, 93, 94, 95, 96, 97, 98, 99, 100, 101, 102, 103, 104, 105] (by decide +kernel) (by decide +kernel)
set_option maxRecDepth 20000 in
theorem gX4_where_X4_finds : GoodIn wsX4_where (wsV RX4 37 RX4 yX4_finds wsX4_finds) := goodIn_app (goodIn_of _ (by decide +kernel)) ggX4_where_X4_finds
theorem dX4_where_0 : decode cX4_where 0 = .ok (.aload_n 0, 1) := by decide +kernel
theorem dX4_where_1 : decode cX4_where 1 = .ok (.iload_n 1, 1) := by decide +kernel
theorem dX4_where_2 : decode cX4_where 2 = .ok (.invokevirtual 100, 3) := by decide +kernel
theorem dX4_where_5 : decode cX4_where 5 = .ok (.ifCond .eq 35, 3) := by decide +kernel
theorem dX4_where_8 : decode cX4_where 8 = .ok (.iload_n 2, 1) := by decide +kernel
theorem dX4_where_9 : decode cX4_where 9 = .ok (.i2l, 1) := by decide +kernel
theorem dX4_where_10 : decode cX4_where 10 = .ok (.iconst 1, 1) := by decide +kernel
theorem dX4_where_11 : decode cX4_where 11 = .ok (.sipush 200, 3) := by decide +kernel
theorem dX4_where_14 : decode cX4_where 14 = .ok (.invokestatic 41, 3) := by decide +kernel
theorem dX4_where_17 : decode cX4_where 17 = .ok (.ifCond .eq 23, 3) := by decide +kernel
theorem dX4_where_20 : decode cX4_where 20 = .ok (.aload_n 0, 1) := by decide +kernel
theorem dX4_where_21 : decode cX4_where 21 = .ok (.bipush 35, 2) := by decide +kernel
theorem dX4_where_23 : decode cX4_where 23 = .ok (.iconst 5, 1) := by decide +kernel
theorem dX4_where_24 : decode cX4_where 24 = .ok (.iload_n 1, 1) := by decide +kernel
theorem dX4_where_25 : decode cX4_where 25 = .ok (.imul, 1) := by decide +kernel
theorem dX4_where_26 : decode cX4_where 26 = .ok (.iadd, 1) := by decide +kernel
theorem dX4_where_27 : decode cX4_where 27 = .ok (.iconst 1, 1) := by decide +kernel
theorem dX4_where_28 : decode cX4_where 28 = .ok (.iadd, 1) := by decide +kernel
theorem dX4_where_29 : decode cX4_where 29 = .ok (.iconst 0, 1) := by decide +kernel
theorem dX4_where_30 : decode cX4_where 30 = .ok (.bipush 29, 2) := by decide +kernel
theorem dX4_where_32 : decode cX4_where 32 = .ok (.iload_n 1, 1) := by decide +kernel
theorem dX4_where_33 : decode cX4_where 33 = .ok (.iload_n 2, 1) := by decide +kernel
theorem dX4_where_34 : decode cX4_where 34 = .ok (.invokevirtual 138, 3) := by decide +kernel
theorem dX4_where_37 : decode cX4_where 37 = .ok (.goto 9, 3) := by decide +kernel
theorem dX4_where_40 : decode cX4_where 40 = .ok (.aload_n 0, 1) := by decide +kernel
theorem dX4_where_41 : decode cX4_where 41 = .ok (.ldc 35, 2) := by decide +kernel
theorem dX4_where_43 : decode cX4_where 43 = .ok (.invokevirtual 37, 3) := by decide +kernel
theorem dX4_where_46 : decode cX4_where 46 = .ok (.ireturn, 1) := by decide +kernel
set_option maxRecDepth 20000 in
theorem ggX4_kind_X4_isPerson : GoodIn wsX4_kind wsX4_isPerson := goodIn_r _ [6, 7, 8, 9, 5, 10, 91, 92, 93, 94, 95, 96, 97, 98, 99, 100, 101, 102, 103, 104, 105] (by decide +kernel) (by decide +kernel)
set_option maxRecDepth 20000 in
theorem gX4_kind_X4_isPerson : GoodIn wsX4_kind (wsV RX4 100 RX4 yX4_isPerson wsX4_isPerson) := goodIn_app (goodIn_of _ (by decide +kernel)) ggX4_kind_X4_isPerson
set_option maxRecDepth 20000 in
theorem ggX4_kind_X4_in : GoodIn wsX4_kind wsX4_in := goodIn_r _ [10] (by decide +kernel) (by decide +kernel)
set_option maxRecDepth 20000 in
theorem gX4_kind_X4_in : GoodIn wsX4_kind (va_wsS RX4 41 yX4_in wsX4_in) := goodIn_app (goodIn_of _ (by decide +kernel)) ggX4_kind_X4_in
set_option maxRecDepth 20000 in
theorem ggX4_kind_X4_bestAt : GoodIn wsX4_kind wsX4_bestAt := goodIn_r _ [14, 7, 15, 16, 17, 5, 18, 19, 20, 21, 22, 23, 24, 25, 26, 27, 28, 29, 30, 31, 32, 33, 34, 35, 36, 37, 38, 39, 40, 41, 42, 43, 44, 45, 46, 47, 48, 49, 50, 51, 52, 53, 54, 55, 56, 57, 58, 59, 60, 61, 62, 63, 64, 65, 66, 67, 68, 69, 70, 71, 72, 73, 8, 9, 10, 74, 75, 76, 77, 78, 79, 80, 81, 82, 83, 84, 85, 91, 92, 93, 94, 95, 96, 97, 98, 99, 100, 101, 102, 103, 104, 105] (by decide +kernel) (by decide +kernel)
set_option maxRecDepth 20000 in
theorem gX4_kind_X4_bestAt : GoodIn wsX4_kind (wsV RX4 138 RX4 yX4_bestAt wsX4_bestAt) := goodIn_app (goodIn_of _ (by decide +kernel)) ggX4_kind_X4_bestAt
set_option maxRecDepth 20000 in
theorem ggX4_kind_X4_finds : GoodIn wsX4_kind wsX4_finds := goodIn_r _ [89, 90, 1, 91, 92, 93, 94, 95, 96, 97, 98, 99, 100, 101, 102, 103, 104, 105] (by decide +kernel) (by decide +kernel)
set_option maxRecDepth 20000 in
theorem gX4_kind_X4_finds : GoodIn wsX4_kind (wsV RX4 37 RX4 yX4_finds wsX4_finds) := goodIn_app (goodIn_of _ (by decide +kernel)) ggX4_kind_X4_finds
theorem dX4_kind_0 : decode cX4_kind 0 = .ok (.aload_n 0, 1) := by decide +kernel
theorem dX4_kind_1 : decode cX4_kind 1 = .ok (.iload_n 1, 1) := by decide +kernel
theorem dX4_kind_2 : decode cX4_kind 2 = .ok (.invokevirtual 100, 3) := by decide +kernel
theorem dX4_kind_5 : decode cX4_kind 5 = .ok (.ifCond .eq 32, 3) := by decide +kernel
theorem dX4_kind_8 : decode cX4_kind 8 = .ok (.iload_n 2, 1) := by decide +kernel
theorem dX4_kind_9 : decode cX4_kind 9 = .ok (.i2l, 1) := by decide +kernel
theorem dX4_kind_10 : decode cX4_kind 10 = .ok (.iconst 1, 1) := by decide +kernel
theorem dX4_kind_11 : decode cX4_kind 11 = .ok (.sipush 200, 3) := by decide +kernel
theorem dX4_kind_14 : decode cX4_kind 14 = .ok (.invokestatic 41, 3) := by decide +kernel
theorem dX4_kind_17 : decode cX4_kind 17 = .ok (.ifCond .eq 20, 3) := by decide +kernel
theorem dX4_kind_20 : decode cX4_kind 20 = .ok (.aload_n 0, 1) := by decide +kernel
theorem dX4_kind_21 : decode cX4_kind 21 = .ok (.bipush 35, 2) := by decide +kernel
theorem dX4_kind_23 : decode cX4_kind 23 = .ok (.iconst 5, 1) := by decide +kernel
theorem dX4_kind_24 : decode cX4_kind 24 = .ok (.iload_n 1, 1) := by decide +kernel
theorem dX4_kind_25 : decode cX4_kind 25 = .ok (.imul, 1) := by decide +kernel
theorem dX4_kind_26 : decode cX4_kind 26 = .ok (.iadd, 1) := by decide +kernel
theorem dX4_kind_27 : decode cX4_kind 27 = .ok (.iconst 0, 1) := by decide +kernel
theorem dX4_kind_28 : decode cX4_kind 28 = .ok (.iconst 5, 1) := by decide +kernel
theorem dX4_kind_29 : decode cX4_kind 29 = .ok (.iload_n 1, 1) := by decide +kernel
theorem dX4_kind_30 : decode cX4_kind 30 = .ok (.iload_n 2, 1) := by decide +kernel
theorem dX4_kind_31 : decode cX4_kind 31 = .ok (.invokevirtual 138, 3) := by decide +kernel
theorem dX4_kind_34 : decode cX4_kind 34 = .ok (.goto 9, 3) := by decide +kernel
theorem dX4_kind_37 : decode cX4_kind 37 = .ok (.aload_n 0, 1) := by decide +kernel
theorem dX4_kind_38 : decode cX4_kind 38 = .ok (.ldc 35, 2) := by decide +kernel
theorem dX4_kind_40 : decode cX4_kind 40 = .ok (.invokevirtual 37, 3) := by decide +kernel
theorem dX4_kind_43 : decode cX4_kind 43 = .ok (.ireturn, 1) := by decide +kernel
set_option maxRecDepth 20000 in
theorem ggX4_wide_X4_in : GoodIn wsX4_wide wsX4_in := goodIn_r _ [6] (by decide +kernel) (by decide +kernel)
set_option maxRecDepth 20000 in
theorem gX4_wide_X4_in : GoodIn wsX4_wide (va_wsS RX4 41 yX4_in wsX4_in) := goodIn_app (goodIn_of _ (by decide +kernel)) ggX4_wide_X4_in
set_option maxRecDepth 20000 in
theorem ggX4_wide_X4_finds : GoodIn wsX4_wide wsX4_finds := goodIn_r _ [10, 11, 1, 88, 89, 90, 91, 92, 93, 94, 95, 96, 97, 98, 99, 100, 101, 102] (by decide +kernel) (by decide +kernel)
set_option maxRecDepth 20000 in
theorem gX4_wide_X4_finds : GoodIn wsX4_wide (wsV RX4 37 RX4 yX4_finds wsX4_finds) := goodIn_app (goodIn_of _ (by decide +kernel)) ggX4_wide_X4_finds
set_option maxRecDepth 20000 in
theorem ggX4_wide_X4_thinks : GoodIn wsX4_wide wsX4_thinks := goodIn_r _ [15, 2, 16, 17, 18, 5, 19, 88, 89, 90, 91, 92, 93, 94, 95, 96, 97, 98, 99, 100, 101, 102] (by decide +kernel) (by decide +kernel)
set_option maxRecDepth 20000 in
theorem gX4_wide_X4_thinks : GoodIn wsX4_wide (wsV RX4 126 RX4 yX4_thinks wsX4_thinks) := goodIn_app (goodIn_of _ (by decide +kernel)) ggX4_wide_X4_thinks
set_option maxRecDepth 20000 in
theorem ggX4_wide_X4_sums : GoodIn wsX4_wide wsX4_sums := goodIn_r _ [23, 2, 24, 25, 26, 5, 27, 88, 89, 90, 91, 92, 93, 94, 95, 96, 97, 98, 99, 100, 101, 102] (by decide +kernel) (by decide +kernel)
set_option maxRecDepth 20000 in
theorem gX4_wide_X4_sums : GoodIn wsX4_wide (wsV RX4 135 RX4 yX4_sums wsX4_sums) := goodIn_app (goodIn_of _ (by decide +kernel)) ggX4_wide_X4_sums
set_option maxRecDepth 20000 in
theorem ggX4_wide_X4_goesFor : GoodIn wsX4_wide wsX4_goesFor := goodIn_r _ [31, 32, 33, 34, 5, 35, 2, 36, 37, 38, 39, 40, 41, 42, 43, 24, 25, 26, 27, 44, 45, 46, 47, 48, 49, 50, 51, 52, 53, 54, 55, 56, 57, 58, 59, 60, 61, 62, 63, 64, 65, 66, 67, 68, 69, 70, 71, 72, 73, 74, 3, 4, 6, 75, 76, 77, 78, 88, 89, 90, 91, 92, 93, 94, 95, 96, 97, 98, 99, 100, 101, 102] (by decide +kernel) (by decide +kernel)
set_option maxRecDepth 20000 in
theorem gX4_wide_X4_goesFor : GoodIn wsX4_wide (wsV RX4 119 RX4 yX4_goesFor wsX4_goesFor) := goodIn_app (goodIn_of _ (by decide +kernel)) ggX4_wide_X4_goesFor
set_option maxRecDepth 20000 in
theorem ggX4_wide_X4_putsBack : GoodIn wsX4_wide wsX4_putsBack := goodIn_r _ [82, 16, 2, 17, 18, 5, 19, 88, 89, 90, 91, 92, 93, 94, 95, 96, 97, 98, 99, 100, 101, 102] (by decide +kernel) (by decide +kernel)
set_option maxRecDepth 20000 in
theorem gX4_wide_X4_putsBack : GoodIn wsX4_wide (wsV RX4 129 RX4 yX4_putsBack wsX4_putsBack) := goodIn_app (goodIn_of _ (by decide +kernel)) ggX4_wide_X4_putsBack
set_option maxRecDepth 20000 in
theorem ggX4_wide_X4_orNone : GoodIn wsX4_wide wsX4_orNone := goodIn_r _ [86, 87, 7, 8, 9, 5, 10, 11, 1, 88, 89, 90, 91, 92, 93, 94, 95, 96, 97, 98, 99, 100, 101, 102] (by decide +kernel) (by decide +kernel)
set_option maxRecDepth 20000 in
theorem gX4_wide_X4_orNone : GoodIn wsX4_wide (wsV RX4 142 RX4 yX4_orNone wsX4_orNone) := goodIn_app (goodIn_of _ (by decide +kernel)) ggX4_wide_X4_orNone
theorem dX4_wide_0 : decode cX4_wide 0 = .ok (.iload_n 1, 1) := by decide +kernel
theorem dX4_wide_1 : decode cX4_wide 1 = .ok (.i2l, 1) := by decide +kernel
theorem dX4_wide_2 : decode cX4_wide 2 = .ok (.iconst 1, 1) := by decide +kernel
theorem dX4_wide_3 : decode cX4_wide 3 = .ok (.bipush 100, 2) := by decide +kernel
theorem dX4_wide_5 : decode cX4_wide 5 = .ok (.invokestatic 41, 3) := by decide +kernel
theorem dX4_wide_8 : decode cX4_wide 8 = .ok (.ifCond .ne 10, 3) := by decide +kernel
theorem dX4_wide_11 : decode cX4_wide 11 = .ok (.aload_n 0, 1) := by decide +kernel
theorem dX4_wide_12 : decode cX4_wide 12 = .ok (.ldc 35, 2) := by decide +kernel
theorem dX4_wide_14 : decode cX4_wide 14 = .ok (.invokevirtual 37, 3) := by decide +kernel
theorem dX4_wide_17 : decode cX4_wide 17 = .ok (.ireturn, 1) := by decide +kernel
theorem dX4_wide_18 : decode cX4_wide 18 = .ok (.aload_n 0, 1) := by decide +kernel
theorem dX4_wide_19 : decode cX4_wide 19 = .ok (.invokevirtual 126, 3) := by decide +kernel
theorem dX4_wide_22 : decode cX4_wide 22 = .ok (.aload_n 0, 1) := by decide +kernel
theorem dX4_wide_23 : decode cX4_wide 23 = .ok (.iconst 3, 1) := by decide +kernel
theorem dX4_wide_24 : decode cX4_wide 24 = .ok (.invokevirtual 135, 3) := by decide +kernel
theorem dX4_wide_27 : decode cX4_wide 27 = .ok (.istore_n 2, 1) := by decide +kernel
theorem dX4_wide_28 : decode cX4_wide 28 = .ok (.iconst (-1), 1) := by decide +kernel
theorem dX4_wide_29 : decode cX4_wide 29 = .ok (.istore_n 3, 1) := by decide +kernel
theorem dX4_wide_30 : decode cX4_wide 30 = .ok (.bipush 10, 2) := by decide +kernel
theorem dX4_wide_32 : decode cX4_wide 32 = .ok (.istore 4, 2) := by decide +kernel
theorem dX4_wide_34 : decode cX4_wide 34 = .ok (.iload 4, 2) := by decide +kernel
theorem dX4_wide_36 : decode cX4_wide 36 = .ok (.ifCond .lt 46, 3) := by decide +kernel
theorem dX4_wide_39 : decode cX4_wide 39 = .ok (.iload_n 3, 1) := by decide +kernel
theorem dX4_wide_40 : decode cX4_wide 40 = .ok (.ifCond .ge 42, 3) := by decide +kernel
theorem dX4_wide_43 : decode cX4_wide 43 = .ok (.aload_n 0, 1) := by decide +kernel
theorem dX4_wide_44 : decode cX4_wide 44 = .ok (.getfield 9, 3) := by decide +kernel
theorem dX4_wide_47 : decode cX4_wide 47 = .ok (.iconst 2, 1) := by decide +kernel
theorem dX4_wide_48 : decode cX4_wide 48 = .ok (.iload 4, 2) := by decide +kernel
theorem dX4_wide_50 : decode cX4_wide 50 = .ok (.iastore, 1) := by decide +kernel
theorem dX4_wide_51 : decode cX4_wide 51 = .ok (.aload_n 0, 1) := by decide +kernel
theorem dX4_wide_52 : decode cX4_wide 52 = .ok (.iload_n 1, 1) := by decide +kernel
theorem dX4_wide_53 : decode cX4_wide 53 = .ok (.invokevirtual 119, 3) := by decide +kernel
theorem dX4_wide_56 : decode cX4_wide 56 = .ok (.aload_n 0, 1) := by decide +kernel
theorem dX4_wide_57 : decode cX4_wide 57 = .ok (.iconst 3, 1) := by decide +kernel
theorem dX4_wide_58 : decode cX4_wide 58 = .ok (.invokevirtual 135, 3) := by decide +kernel
theorem dX4_wide_61 : decode cX4_wide 61 = .ok (.iload_n 2, 1) := by decide +kernel
theorem dX4_wide_62 : decode cX4_wide 62 = .ok (.if_icmp .gt 8, 3) := by decide +kernel
theorem dX4_wide_65 : decode cX4_wide 65 = .ok (.iload 4, 2) := by decide +kernel
theorem dX4_wide_67 : decode cX4_wide 67 = .ok (.goto 4, 3) := by decide +kernel
theorem dX4_wide_70 : decode cX4_wide 70 = .ok (.iconst (-1), 1) := by decide +kernel
theorem dX4_wide_71 : decode cX4_wide 71 = .ok (.istore_n 3, 1) := by decide +kernel
theorem dX4_wide_72 : decode cX4_wide 72 = .ok (.aload_n 0, 1) := by decide +kernel
theorem dX4_wide_73 : decode cX4_wide 73 = .ok (.invokevirtual 129, 3) := by decide +kernel
theorem dX4_wide_76 : decode cX4_wide 76 = .ok (.iinc 4 (-1), 3) := by decide +kernel
theorem dX4_wide_79 : decode cX4_wide 79 = .ok (.goto (-45), 3) := by decide +kernel
theorem dX4_wide_82 : decode cX4_wide 82 = .ok (.aload_n 0, 1) := by decide +kernel
theorem dX4_wide_83 : decode cX4_wide 83 = .ok (.iload_n 3, 1) := by decide +kernel
theorem dX4_wide_84 : decode cX4_wide 84 = .ok (.invokevirtual 142, 3) := by decide +kernel
theorem dX4_wide_87 : decode cX4_wide 87 = .ok (.ireturn, 1) := by decide +kernel
set_option maxRecDepth 20000 in
theorem ggX4_pace_X4_in : GoodIn wsX4_pace wsX4_in := goodIn_r _ [5] (by decide +kernel) (by decide +kernel)
set_option maxRecDepth 20000 in
theorem gX4_pace_X4_in : GoodIn wsX4_pace (va_wsS RX4 41 yX4_in wsX4_in) := goodIn_app (goodIn_of _ (by decide +kernel)) ggX4_pace_X4_in
set_option maxRecDepth 20000 in
theorem ggX4_pace_X4_bestAt : GoodIn wsX4_pace wsX4_bestAt := goodIn_r _ [9, 10, 11, 12, 13, 4, 14, 15, 16, 17, 18, 19, 20, 21, 22, 23, 24, 25, 26, 27, 28, 29, 30, 31, 32, 33, 34, 35, 36, 37, 38, 39, 40, 41, 42, 43, 44, 45, 46, 47, 48, 49, 50, 51, 52, 53, 54, 55, 56, 57, 58, 59, 60, 61, 62, 63, 64, 65, 66, 67, 68, 69, 2, 3, 5, 70, 71, 72, 73, 74, 75, 76, 77, 78, 79, 80, 81, 87, 88, 89, 90, 91, 92, 93, 94, 95, 96, 97, 98, 99, 100, 101] (by decide +kernel) (by decide +kernel)
set_option maxRecDepth 20000 in
theorem gX4_pace_X4_bestAt : GoodIn wsX4_pace (wsV RX4 138 RX4 yX4_bestAt wsX4_bestAt) := goodIn_app (goodIn_of _ (by decide +kernel)) ggX4_pace_X4_bestAt
set_option maxRecDepth 20000 in
theorem ggX4_pace_X4_finds : GoodIn wsX4_pace wsX4_finds := goodIn_r _ [85, 86, 1, 87, 88, 89, 90, 91, 92, 93, 94, 95, 96, 97, 98, 99, 100, 101] (by decide +kernel) (by decide +kernel)
set_option maxRecDepth 20000 in
theorem gX4_pace_X4_finds : GoodIn wsX4_pace (wsV RX4 37 RX4 yX4_finds wsX4_finds) := goodIn_app (goodIn_of _ (by decide +kernel)) ggX4_pace_X4_finds
theorem dX4_pace_0 : decode cX4_pace 0 = .ok (.iload_n 1, 1) := by decide +kernel
theorem dX4_pace_1 : decode cX4_pace 1 = .ok (.i2l, 1) := by decide +kernel
theorem dX4_pace_2 : decode cX4_pace 2 = .ok (.iconst 1, 1) := by decide +kernel
theorem dX4_pace_3 : decode cX4_pace 3 = .ok (.bipush 100, 2) := by decide +kernel
theorem dX4_pace_5 : decode cX4_pace 5 = .ok (.invokestatic 41, 3) := by decide +kernel
theorem dX4_pace_8 : decode cX4_pace 8 = .ok (.ifCond .eq 15, 3) := by decide +kernel
theorem dX4_pace_11 : decode cX4_pace 11 = .ok (.aload_n 0, 1) := by decide +kernel
theorem dX4_pace_12 : decode cX4_pace 12 = .ok (.iconst 3, 1) := by decide +kernel
theorem dX4_pace_13 : decode cX4_pace 13 = .ok (.iconst 1, 1) := by decide +kernel
theorem dX4_pace_14 : decode cX4_pace 14 = .ok (.iconst 5, 1) := by decide +kernel
theorem dX4_pace_15 : decode cX4_pace 15 = .ok (.iconst (-1), 1) := by decide +kernel
theorem dX4_pace_16 : decode cX4_pace 16 = .ok (.iload_n 1, 1) := by decide +kernel
theorem dX4_pace_17 : decode cX4_pace 17 = .ok (.invokevirtual 138, 3) := by decide +kernel
theorem dX4_pace_20 : decode cX4_pace 20 = .ok (.goto 9, 3) := by decide +kernel
theorem dX4_pace_23 : decode cX4_pace 23 = .ok (.aload_n 0, 1) := by decide +kernel
theorem dX4_pace_24 : decode cX4_pace 24 = .ok (.ldc 35, 2) := by decide +kernel
theorem dX4_pace_26 : decode cX4_pace 26 = .ok (.invokevirtual 37, 3) := by decide +kernel
theorem dX4_pace_29 : decode cX4_pace 29 = .ok (.ireturn, 1) := by decide +kernel
set_option maxRecDepth 20000 in
theorem ggX4_four_X4_in : GoodIn wsX4_four wsX4_in := goodIn_r _ [6] (by decide +kernel) (by decide +kernel)
set_option maxRecDepth 20000 in
theorem gX4_four_X4_in : GoodIn wsX4_four (va_wsS RX4 41 yX4_in wsX4_in) := goodIn_app (goodIn_of _ (by decide +kernel)) ggX4_four_X4_in
set_option maxRecDepth 20000 in
theorem ggX4_four_X4_finds : GoodIn wsX4_four wsX4_finds := goodIn_r _ [10, 11, 1, 91, 92, 93, 94, 95, 96, 97, 98, 99, 100, 101, 102, 103, 104, 105] (by decide +kernel) (by decide +kernel)
set_option maxRecDepth 20000 in
theorem gX4_four_X4_finds : GoodIn wsX4_four (wsV RX4 37 RX4 yX4_finds wsX4_finds) := goodIn_app (goodIn_of _ (by decide +kernel)) ggX4_four_X4_finds
set_option maxRecDepth 20000 in
theorem ggX4_four_X4_thinks : GoodIn wsX4_four wsX4_thinks := goodIn_r _ [15, 2, 16, 17, 18, 5, 19, 91, 92, 93, 94, 95, 96, 97, 98, 99, 100, 101, 102, 103, 104, 105] (by decide +kernel) (by decide +kernel)
set_option maxRecDepth 20000 in
theorem gX4_four_X4_thinks : GoodIn wsX4_four (wsV RX4 126 RX4 yX4_thinks wsX4_thinks) := goodIn_app (goodIn_of _ (by decide +kernel)) ggX4_four_X4_thinks
set_option maxRecDepth 20000 in
theorem ggX4_four_X4_heardOn : GoodIn wsX4_four wsX4_heardOn := goodIn_r _ [23, 24, 25, 26, 5, 27, 28, 29, 30, 31, 2, 32, 33, 34, 35, 36, 37, 38, 39, 40, 41, 42, 43, 44, 45, 46, 47, 48, 49, 50, 51, 52, 53, 54, 55, 56, 57, 58, 59, 60, 61, 62, 63, 64, 65, 66, 67, 68, 69, 70, 71, 72, 73, 74, 3, 4, 6, 75, 76, 77, 78, 79, 80, 81, 82, 83, 84, 85, 86, 87, 88, 89, 90, 16, 17, 18, 19, 91, 92, 93, 94, 95, 96, 97, 98, 99, 100, 101, 102, 103, 104, 105] (by decide +kernel) (by decide +kernel)
set_option maxRecDepth 20000 in
theorem gX4_four_X4_heardOn : GoodIn wsX4_four (wsV RX4 132 RX4 yX4_heardOn wsX4_heardOn) := goodIn_app (goodIn_of _ (by decide +kernel)) ggX4_four_X4_heardOn
theorem dX4_four_0 : decode cX4_four 0 = .ok (.iload_n 1, 1) := by decide +kernel
theorem dX4_four_1 : decode cX4_four 1 = .ok (.i2l, 1) := by decide +kernel
theorem dX4_four_2 : decode cX4_four 2 = .ok (.iconst 0, 1) := by decide +kernel
theorem dX4_four_3 : decode cX4_four 3 = .ok (.bipush 100, 2) := by decide +kernel
theorem dX4_four_5 : decode cX4_four 5 = .ok (.invokestatic 41, 3) := by decide +kernel
theorem dX4_four_8 : decode cX4_four 8 = .ok (.ifCond .ne 10, 3) := by decide +kernel
theorem dX4_four_11 : decode cX4_four 11 = .ok (.aload_n 0, 1) := by decide +kernel
theorem dX4_four_12 : decode cX4_four 12 = .ok (.ldc 35, 2) := by decide +kernel
theorem dX4_four_14 : decode cX4_four 14 = .ok (.invokevirtual 37, 3) := by decide +kernel
theorem dX4_four_17 : decode cX4_four 17 = .ok (.ireturn, 1) := by decide +kernel
theorem dX4_four_18 : decode cX4_four 18 = .ok (.aload_n 0, 1) := by decide +kernel
theorem dX4_four_19 : decode cX4_four 19 = .ok (.invokevirtual 126, 3) := by decide +kernel
theorem dX4_four_22 : decode cX4_four 22 = .ok (.iconst (-1), 1) := by decide +kernel
theorem dX4_four_23 : decode cX4_four 23 = .ok (.istore_n 2, 1) := by decide +kernel
theorem dX4_four_24 : decode cX4_four 24 = .ok (.iconst 0, 1) := by decide +kernel
theorem dX4_four_25 : decode cX4_four 25 = .ok (.istore_n 3, 1) := by decide +kernel
theorem dX4_four_26 : decode cX4_four 26 = .ok (.iconst 0, 1) := by decide +kernel
theorem dX4_four_27 : decode cX4_four 27 = .ok (.istore 4, 2) := by decide +kernel
theorem dX4_four_29 : decode cX4_four 29 = .ok (.iload 4, 2) := by decide +kernel
theorem dX4_four_31 : decode cX4_four 31 = .ok (.bipush 100, 2) := by decide +kernel
theorem dX4_four_33 : decode cX4_four 33 = .ok (.if_icmp .ge 65, 3) := by decide +kernel
theorem dX4_four_36 : decode cX4_four 36 = .ok (.aload_n 0, 1) := by decide +kernel
theorem dX4_four_37 : decode cX4_four 37 = .ok (.getfield 9, 3) := by decide +kernel
theorem dX4_four_40 : decode cX4_four 40 = .ok (.iconst 1, 1) := by decide +kernel
theorem dX4_four_41 : decode cX4_four 41 = .ok (.iload 4, 2) := by decide +kernel
theorem dX4_four_43 : decode cX4_four 43 = .ok (.iastore, 1) := by decide +kernel
theorem dX4_four_44 : decode cX4_four 44 = .ok (.aload_n 0, 1) := by decide +kernel
theorem dX4_four_45 : decode cX4_four 45 = .ok (.iload_n 1, 1) := by decide +kernel
theorem dX4_four_46 : decode cX4_four 46 = .ok (.invokevirtual 132, 3) := by decide +kernel
theorem dX4_four_49 : decode cX4_four 49 = .ok (.istore 5, 2) := by decide +kernel
theorem dX4_four_51 : decode cX4_four 51 = .ok (.iload_n 2, 1) := by decide +kernel
theorem dX4_four_52 : decode cX4_four 52 = .ok (.ifCond .lt 9, 3) := by decide +kernel
theorem dX4_four_55 : decode cX4_four 55 = .ok (.iload 5, 2) := by decide +kernel
theorem dX4_four_57 : decode cX4_four 57 = .ok (.iload_n 3, 1) := by decide +kernel
theorem dX4_four_58 : decode cX4_four 58 = .ok (.if_icmp .ge 7, 3) := by decide +kernel
theorem dX4_four_61 : decode cX4_four 61 = .ok (.iconst 1, 1) := by decide +kernel
theorem dX4_four_62 : decode cX4_four 62 = .ok (.goto 4, 3) := by decide +kernel
theorem dX4_four_65 : decode cX4_four 65 = .ok (.iconst 0, 1) := by decide +kernel
theorem dX4_four_66 : decode cX4_four 66 = .ok (.istore 6, 2) := by decide +kernel
theorem dX4_four_68 : decode cX4_four 68 = .ok (.iload 6, 2) := by decide +kernel
theorem dX4_four_70 : decode cX4_four 70 = .ok (.ifCond .eq 8, 3) := by decide +kernel
theorem dX4_four_73 : decode cX4_four 73 = .ok (.iload 4, 2) := by decide +kernel
theorem dX4_four_75 : decode cX4_four 75 = .ok (.goto 4, 3) := by decide +kernel
theorem dX4_four_78 : decode cX4_four 78 = .ok (.iload_n 2, 1) := by decide +kernel
theorem dX4_four_79 : decode cX4_four 79 = .ok (.istore_n 2, 1) := by decide +kernel
theorem dX4_four_80 : decode cX4_four 80 = .ok (.iload 6, 2) := by decide +kernel
theorem dX4_four_82 : decode cX4_four 82 = .ok (.ifCond .eq 8, 3) := by decide +kernel
theorem dX4_four_85 : decode cX4_four 85 = .ok (.iload 5, 2) := by decide +kernel
theorem dX4_four_87 : decode cX4_four 87 = .ok (.goto 4, 3) := by decide +kernel
theorem dX4_four_90 : decode cX4_four 90 = .ok (.iload_n 3, 1) := by decide +kernel
theorem dX4_four_91 : decode cX4_four 91 = .ok (.istore_n 3, 1) := by decide +kernel
theorem dX4_four_92 : decode cX4_four 92 = .ok (.iinc 4 1, 3) := by decide +kernel
theorem dX4_four_95 : decode cX4_four 95 = .ok (.goto (-66), 3) := by decide +kernel
theorem dX4_four_98 : decode cX4_four 98 = .ok (.iload_n 2, 1) := by decide +kernel
theorem dX4_four_99 : decode cX4_four 99 = .ok (.ireturn, 1) := by decide +kernel
set_option maxRecDepth 20000 in
theorem ggX4_still_X4_in : GoodIn wsX4_still wsX4_in := goodIn_r _ [6] (by decide +kernel) (by decide +kernel)
set_option maxRecDepth 20000 in
theorem gX4_still_X4_in : GoodIn wsX4_still (va_wsS RX4 41 yX4_in wsX4_in) := goodIn_app (goodIn_of _ (by decide +kernel)) ggX4_still_X4_in
set_option maxRecDepth 20000 in
theorem ggX4_still_X4_finds : GoodIn wsX4_still wsX4_finds := goodIn_r _ [10, 11, 1, 91, 92, 93, 94, 95, 96, 97, 98, 99, 100, 101, 102, 103, 104, 105] (by decide +kernel) (by decide +kernel)
set_option maxRecDepth 20000 in
theorem gX4_still_X4_finds : GoodIn wsX4_still (wsV RX4 37 RX4 yX4_finds wsX4_finds) := goodIn_app (goodIn_of _ (by decide +kernel)) ggX4_still_X4_finds
set_option maxRecDepth 20000 in
theorem ggX4_still_X4_thinks : GoodIn wsX4_still wsX4_thinks := goodIn_r _ [15, 2, 16, 17, 18, 5, 19, 91, 92, 93, 94, 95, 96, 97, 98, 99, 100, 101, 102, 103, 104, 105] (by decide +kernel) (by decide +kernel)
set_option maxRecDepth 20000 in
theorem gX4_still_X4_thinks : GoodIn wsX4_still (wsV RX4 126 RX4 yX4_thinks wsX4_thinks) := goodIn_app (goodIn_of _ (by decide +kernel)) ggX4_still_X4_thinks
set_option maxRecDepth 20000 in
theorem ggX4_still_X4_heardOn : GoodIn wsX4_still wsX4_heardOn := goodIn_r _ [23, 24, 25, 26, 5, 27, 28, 29, 30, 31, 2, 32, 33, 34, 35, 36, 37, 38, 39, 40, 41, 42, 43, 44, 45, 46, 47, 48, 49, 50, 51, 52, 53, 54, 55, 56, 57, 58, 59, 60, 61, 62, 63, 64, 65, 66, 67, 68, 69, 70, 71, 72, 73, 74, 3, 4, 6, 75, 76, 77, 78, 79, 80, 81, 82, 83, 84, 85, 86, 87, 88, 89, 90, 16, 17, 18, 19, 91, 92, 93, 94, 95, 96, 97, 98, 99, 100, 101, 102, 103, 104, 105] (by decide +kernel) (by decide +kernel)
set_option maxRecDepth 20000 in
theorem gX4_still_X4_heardOn : GoodIn wsX4_still (wsV RX4 132 RX4 yX4_heardOn wsX4_heardOn) := goodIn_app (goodIn_of _ (by decide +kernel)) ggX4_still_X4_heardOn
theorem dX4_still_0 : decode cX4_still 0 = .ok (.iload_n 1, 1) := by decide +kernel
theorem dX4_still_1 : decode cX4_still 1 = .ok (.i2l, 1) := by decide +kernel
theorem dX4_still_2 : decode cX4_still 2 = .ok (.iconst 0, 1) := by decide +kernel
theorem dX4_still_3 : decode cX4_still 3 = .ok (.bipush 100, 2) := by decide +kernel
theorem dX4_still_5 : decode cX4_still 5 = .ok (.invokestatic 41, 3) := by decide +kernel
theorem dX4_still_8 : decode cX4_still 8 = .ok (.ifCond .ne 10, 3) := by decide +kernel
theorem dX4_still_11 : decode cX4_still 11 = .ok (.aload_n 0, 1) := by decide +kernel
theorem dX4_still_12 : decode cX4_still 12 = .ok (.ldc 35, 2) := by decide +kernel
theorem dX4_still_14 : decode cX4_still 14 = .ok (.invokevirtual 37, 3) := by decide +kernel
theorem dX4_still_17 : decode cX4_still 17 = .ok (.ireturn, 1) := by decide +kernel
theorem dX4_still_18 : decode cX4_still 18 = .ok (.aload_n 0, 1) := by decide +kernel
theorem dX4_still_19 : decode cX4_still 19 = .ok (.invokevirtual 126, 3) := by decide +kernel
theorem dX4_still_22 : decode cX4_still 22 = .ok (.iconst (-1), 1) := by decide +kernel
theorem dX4_still_23 : decode cX4_still 23 = .ok (.istore_n 2, 1) := by decide +kernel
theorem dX4_still_24 : decode cX4_still 24 = .ok (.iconst 0, 1) := by decide +kernel
theorem dX4_still_25 : decode cX4_still 25 = .ok (.istore_n 3, 1) := by decide +kernel
theorem dX4_still_26 : decode cX4_still 26 = .ok (.iconst 0, 1) := by decide +kernel
theorem dX4_still_27 : decode cX4_still 27 = .ok (.istore 4, 2) := by decide +kernel
theorem dX4_still_29 : decode cX4_still 29 = .ok (.iload 4, 2) := by decide +kernel
theorem dX4_still_31 : decode cX4_still 31 = .ok (.bipush 30, 2) := by decide +kernel
theorem dX4_still_33 : decode cX4_still 33 = .ok (.if_icmp .ge 67, 3) := by decide +kernel
theorem dX4_still_36 : decode cX4_still 36 = .ok (.aload_n 0, 1) := by decide +kernel
theorem dX4_still_37 : decode cX4_still 37 = .ok (.getfield 9, 3) := by decide +kernel
theorem dX4_still_40 : decode cX4_still 40 = .ok (.iconst 5, 1) := by decide +kernel
theorem dX4_still_41 : decode cX4_still 41 = .ok (.iload 4, 2) := by decide +kernel
theorem dX4_still_43 : decode cX4_still 43 = .ok (.iadd, 1) := by decide +kernel
theorem dX4_still_44 : decode cX4_still 44 = .ok (.iconst 0, 1) := by decide +kernel
theorem dX4_still_45 : decode cX4_still 45 = .ok (.iastore, 1) := by decide +kernel
theorem dX4_still_46 : decode cX4_still 46 = .ok (.aload_n 0, 1) := by decide +kernel
theorem dX4_still_47 : decode cX4_still 47 = .ok (.iload_n 1, 1) := by decide +kernel
theorem dX4_still_48 : decode cX4_still 48 = .ok (.invokevirtual 132, 3) := by decide +kernel
theorem dX4_still_51 : decode cX4_still 51 = .ok (.istore 5, 2) := by decide +kernel
theorem dX4_still_53 : decode cX4_still 53 = .ok (.iload_n 2, 1) := by decide +kernel
theorem dX4_still_54 : decode cX4_still 54 = .ok (.ifCond .lt 9, 3) := by decide +kernel
theorem dX4_still_57 : decode cX4_still 57 = .ok (.iload 5, 2) := by decide +kernel
theorem dX4_still_59 : decode cX4_still 59 = .ok (.iload_n 3, 1) := by decide +kernel
theorem dX4_still_60 : decode cX4_still 60 = .ok (.if_icmp .ge 7, 3) := by decide +kernel
theorem dX4_still_63 : decode cX4_still 63 = .ok (.iconst 1, 1) := by decide +kernel
theorem dX4_still_64 : decode cX4_still 64 = .ok (.goto 4, 3) := by decide +kernel
theorem dX4_still_67 : decode cX4_still 67 = .ok (.iconst 0, 1) := by decide +kernel
theorem dX4_still_68 : decode cX4_still 68 = .ok (.istore 6, 2) := by decide +kernel
theorem dX4_still_70 : decode cX4_still 70 = .ok (.iload 6, 2) := by decide +kernel
theorem dX4_still_72 : decode cX4_still 72 = .ok (.ifCond .eq 8, 3) := by decide +kernel
theorem dX4_still_75 : decode cX4_still 75 = .ok (.iload 4, 2) := by decide +kernel
theorem dX4_still_77 : decode cX4_still 77 = .ok (.goto 4, 3) := by decide +kernel
theorem dX4_still_80 : decode cX4_still 80 = .ok (.iload_n 2, 1) := by decide +kernel
theorem dX4_still_81 : decode cX4_still 81 = .ok (.istore_n 2, 1) := by decide +kernel
theorem dX4_still_82 : decode cX4_still 82 = .ok (.iload 6, 2) := by decide +kernel
theorem dX4_still_84 : decode cX4_still 84 = .ok (.ifCond .eq 8, 3) := by decide +kernel
theorem dX4_still_87 : decode cX4_still 87 = .ok (.iload 5, 2) := by decide +kernel
theorem dX4_still_89 : decode cX4_still 89 = .ok (.goto 4, 3) := by decide +kernel
theorem dX4_still_92 : decode cX4_still 92 = .ok (.iload_n 3, 1) := by decide +kernel
theorem dX4_still_93 : decode cX4_still 93 = .ok (.istore_n 3, 1) := by decide +kernel
theorem dX4_still_94 : decode cX4_still 94 = .ok (.iinc 4 1, 3) := by decide +kernel
theorem dX4_still_97 : decode cX4_still 97 = .ok (.goto (-68), 3) := by decide +kernel
theorem dX4_still_100 : decode cX4_still 100 = .ok (.iload_n 2, 1) := by decide +kernel
theorem dX4_still_101 : decode cX4_still 101 = .ok (.ireturn, 1) := by decide +kernel
set_option maxRecDepth 20000 in
theorem ggX4_quietest_X4_in : GoodIn wsX4_quietest wsX4_in := goodIn_r _ [6] (by decide +kernel) (by decide +kernel)
set_option maxRecDepth 20000 in
theorem gX4_quietest_X4_in : GoodIn wsX4_quietest (va_wsS RX4 41 yX4_in wsX4_in) := goodIn_app (goodIn_of _ (by decide +kernel)) ggX4_quietest_X4_in
set_option maxRecDepth 20000 in
theorem ggX4_quietest_X4_finds : GoodIn wsX4_quietest wsX4_finds := goodIn_r _ [10, 11, 1, 84, 85, 86, 87, 88, 89, 90, 91, 92, 93, 94, 95, 96, 97, 98] (by decide +kernel) (by decide +kernel)
set_option maxRecDepth 20000 in
theorem gX4_quietest_X4_finds : GoodIn wsX4_quietest (wsV RX4 37 RX4 yX4_finds wsX4_finds) := goodIn_app (goodIn_of _ (by decide +kernel)) ggX4_quietest_X4_finds
set_option maxRecDepth 20000 in
theorem ggX4_quietest_X4_thinks : GoodIn wsX4_quietest wsX4_thinks := goodIn_r _ [15, 2, 16, 17, 18, 5, 19, 84, 85, 86, 87, 88, 89, 90, 91, 92, 93, 94, 95, 96, 97, 98] (by decide +kernel) (by decide +kernel)
set_option maxRecDepth 20000 in
theorem gX4_quietest_X4_thinks : GoodIn wsX4_quietest (wsV RX4 126 RX4 yX4_thinks wsX4_thinks) := goodIn_app (goodIn_of _ (by decide +kernel)) ggX4_quietest_X4_thinks
set_option maxRecDepth 20000 in
theorem ggX4_quietest_X4_goesFor : GoodIn wsX4_quietest wsX4_goesFor := goodIn_r _ [23, 24, 25, 26, 5, 27, 2, 28, 29, 30, 31, 32, 33, 34, 35, 36, 37, 38, 39, 40, 41, 42, 43, 44, 45, 46, 47, 48, 49, 50, 51, 52, 53, 54, 55, 56, 57, 58, 59, 60, 61, 62, 63, 64, 65, 66, 67, 68, 69, 70, 3, 4, 6, 71, 72, 73, 74, 84, 85, 86, 87, 88, 89, 90, 91, 92, 93, 94, 95, 96, 97, 98] (by decide +kernel) (by decide +kernel)
set_option maxRecDepth 20000 in
theorem gX4_quietest_X4_goesFor : GoodIn wsX4_quietest (wsV RX4 119 RX4 yX4_goesFor wsX4_goesFor) := goodIn_app (goodIn_of _ (by decide +kernel)) ggX4_quietest_X4_goesFor
set_option maxRecDepth 20000 in
theorem ggX4_quietest_X4_it : GoodIn wsX4_quietest wsX4_it := goodIn_r _ [39, 2, 84, 85, 86, 87, 88, 89, 90, 91, 92, 93, 94, 95, 96, 97, 98] (by decide +kernel) (by decide +kernel)
set_option maxRecDepth 20000 in
theorem gX4_quietest_X4_it : GoodIn wsX4_quietest (wsV RX4 56 RX4 yX4_it wsX4_it) := goodIn_app (goodIn_of _ (by decide +kernel)) ggX4_quietest_X4_it
set_option maxRecDepth 20000 in
theorem ggX4_quietest_X4_putsBack : GoodIn wsX4_quietest wsX4_putsBack := goodIn_r _ [78, 16, 2, 17, 18, 5, 19, 84, 85, 86, 87, 88, 89, 90, 91, 92, 93, 94, 95, 96, 97, 98] (by decide +kernel) (by decide +kernel)
set_option maxRecDepth 20000 in
theorem gX4_quietest_X4_putsBack : GoodIn wsX4_quietest (wsV RX4 129 RX4 yX4_putsBack wsX4_putsBack) := goodIn_app (goodIn_of _ (by decide +kernel)) ggX4_quietest_X4_putsBack
set_option maxRecDepth 20000 in
theorem ggX4_quietest_X4_orNone : GoodIn wsX4_quietest wsX4_orNone := goodIn_r _ [82, 83, 7, 8, 9, 5, 10, 11, 1, 84, 85, 86, 87, 88, 89, 90, 91, 92, 93, 94, 95, 96, 97, 98] (by decide +kernel) (by decide +kernel)
set_option maxRecDepth 20000 in
theorem gX4_quietest_X4_orNone : GoodIn wsX4_quietest (wsV RX4 142 RX4 yX4_orNone wsX4_orNone) := goodIn_app (goodIn_of _ (by decide +kernel)) ggX4_quietest_X4_orNone
theorem dX4_quietest_0 : decode cX4_quietest 0 = .ok (.iload_n 1, 1) := by decide +kernel
theorem dX4_quietest_1 : decode cX4_quietest 1 = .ok (.i2l, 1) := by decide +kernel
theorem dX4_quietest_2 : decode cX4_quietest 2 = .ok (.iconst 0, 1) := by decide +kernel
theorem dX4_quietest_3 : decode cX4_quietest 3 = .ok (.sipush 400, 3) := by decide +kernel
theorem dX4_quietest_6 : decode cX4_quietest 6 = .ok (.invokestatic 41, 3) := by decide +kernel
theorem dX4_quietest_9 : decode cX4_quietest 9 = .ok (.ifCond .ne 10, 3) := by decide +kernel
theorem dX4_quietest_12 : decode cX4_quietest 12 = .ok (.aload_n 0, 1) := by decide +kernel
theorem dX4_quietest_13 : decode cX4_quietest 13 = .ok (.ldc 35, 2) := by decide +kernel
theorem dX4_quietest_15 : decode cX4_quietest 15 = .ok (.invokevirtual 37, 3) := by decide +kernel
theorem dX4_quietest_18 : decode cX4_quietest 18 = .ok (.ireturn, 1) := by decide +kernel
theorem dX4_quietest_19 : decode cX4_quietest 19 = .ok (.aload_n 0, 1) := by decide +kernel
theorem dX4_quietest_20 : decode cX4_quietest 20 = .ok (.invokevirtual 126, 3) := by decide +kernel
theorem dX4_quietest_23 : decode cX4_quietest 23 = .ok (.aload_n 0, 1) := by decide +kernel
theorem dX4_quietest_24 : decode cX4_quietest 24 = .ok (.iload_n 1, 1) := by decide +kernel
theorem dX4_quietest_25 : decode cX4_quietest 25 = .ok (.invokevirtual 119, 3) := by decide +kernel
theorem dX4_quietest_28 : decode cX4_quietest 28 = .ok (.iconst (-1), 1) := by decide +kernel
theorem dX4_quietest_29 : decode cX4_quietest 29 = .ok (.istore_n 2, 1) := by decide +kernel
theorem dX4_quietest_30 : decode cX4_quietest 30 = .ok (.iconst 0, 1) := by decide +kernel
theorem dX4_quietest_31 : decode cX4_quietest 31 = .ok (.istore_n 3, 1) := by decide +kernel
theorem dX4_quietest_32 : decode cX4_quietest 32 = .ok (.iload_n 3, 1) := by decide +kernel
theorem dX4_quietest_33 : decode cX4_quietest 33 = .ok (.aload_n 0, 1) := by decide +kernel
theorem dX4_quietest_34 : decode cX4_quietest 34 = .ok (.getfield 9, 3) := by decide +kernel
theorem dX4_quietest_37 : decode cX4_quietest 37 = .ok (.iconst 4, 1) := by decide +kernel
theorem dX4_quietest_38 : decode cX4_quietest 38 = .ok (.iaload, 1) := by decide +kernel
theorem dX4_quietest_39 : decode cX4_quietest 39 = .ok (.if_icmp .ge 34, 3) := by decide +kernel
theorem dX4_quietest_42 : decode cX4_quietest 42 = .ok (.iload_n 2, 1) := by decide +kernel
theorem dX4_quietest_43 : decode cX4_quietest 43 = .ok (.ifCond .lt 18, 3) := by decide +kernel
theorem dX4_quietest_46 : decode cX4_quietest 46 = .ok (.aload_n 0, 1) := by decide +kernel
theorem dX4_quietest_47 : decode cX4_quietest 47 = .ok (.iload_n 3, 1) := by decide +kernel
theorem dX4_quietest_48 : decode cX4_quietest 48 = .ok (.iconst 2, 1) := by decide +kernel
theorem dX4_quietest_49 : decode cX4_quietest 49 = .ok (.invokevirtual 56, 3) := by decide +kernel
theorem dX4_quietest_52 : decode cX4_quietest 52 = .ok (.aload_n 0, 1) := by decide +kernel
theorem dX4_quietest_53 : decode cX4_quietest 53 = .ok (.iload_n 2, 1) := by decide +kernel
theorem dX4_quietest_54 : decode cX4_quietest 54 = .ok (.iconst 2, 1) := by decide +kernel
theorem dX4_quietest_55 : decode cX4_quietest 55 = .ok (.invokevirtual 56, 3) := by decide +kernel
theorem dX4_quietest_58 : decode cX4_quietest 58 = .ok (.if_icmp .le 7, 3) := by decide +kernel
theorem dX4_quietest_61 : decode cX4_quietest 61 = .ok (.iload_n 3, 1) := by decide +kernel
theorem dX4_quietest_62 : decode cX4_quietest 62 = .ok (.goto 4, 3) := by decide +kernel
theorem dX4_quietest_65 : decode cX4_quietest 65 = .ok (.iload_n 2, 1) := by decide +kernel
theorem dX4_quietest_66 : decode cX4_quietest 66 = .ok (.istore_n 2, 1) := by decide +kernel
theorem dX4_quietest_67 : decode cX4_quietest 67 = .ok (.iinc 3 1, 3) := by decide +kernel
theorem dX4_quietest_70 : decode cX4_quietest 70 = .ok (.goto (-38), 3) := by decide +kernel
theorem dX4_quietest_73 : decode cX4_quietest 73 = .ok (.aload_n 0, 1) := by decide +kernel
theorem dX4_quietest_74 : decode cX4_quietest 74 = .ok (.invokevirtual 129, 3) := by decide +kernel
theorem dX4_quietest_77 : decode cX4_quietest 77 = .ok (.aload_n 0, 1) := by decide +kernel
theorem dX4_quietest_78 : decode cX4_quietest 78 = .ok (.iload_n 2, 1) := by decide +kernel
theorem dX4_quietest_79 : decode cX4_quietest 79 = .ok (.invokevirtual 142, 3) := by decide +kernel
theorem dX4_quietest_82 : decode cX4_quietest 82 = .ok (.ireturn, 1) := by decide +kernel
set_option maxRecDepth 20000 in
theorem ggX4_feed_X4_in : GoodIn wsX4_feed wsX4_in := goodIn_r _ [8] (by decide +kernel) (by decide +kernel)
set_option maxRecDepth 20000 in
theorem gX4_feed_X4_in : GoodIn wsX4_feed (va_wsS RX4 41 yX4_in wsX4_in) := goodIn_app (goodIn_of _ (by decide +kernel)) ggX4_feed_X4_in
set_option maxRecDepth 20000 in
theorem ggX4_feed_X4_finds : GoodIn wsX4_feed wsX4_finds := goodIn_r _ [12, 13, 1, 14, 15, 16, 17, 18, 19, 20, 21, 22, 23, 24, 25, 26, 27, 28] (by decide +kernel) (by decide +kernel)
set_option maxRecDepth 20000 in
theorem gX4_feed_X4_finds : GoodIn wsX4_feed (wsV RX4 37 RX4 yX4_finds wsX4_finds) := goodIn_app (goodIn_of _ (by decide +kernel)) ggX4_feed_X4_finds
theorem dX4_feed_0 : decode cX4_feed 0 = .ok (.iload_n 2, 1) := by decide +kernel
theorem dX4_feed_1 : decode cX4_feed 1 = .ok (.i2l, 1) := by decide +kernel
theorem dX4_feed_2 : decode cX4_feed 2 = .ok (.iconst 1, 1) := by decide +kernel
theorem dX4_feed_3 : decode cX4_feed 3 = .ok (.iconst 4, 1) := by decide +kernel
theorem dX4_feed_4 : decode cX4_feed 4 = .ok (.invokestatic 41, 3) := by decide +kernel
theorem dX4_feed_7 : decode cX4_feed 7 = .ok (.ifCond .ne 10, 3) := by decide +kernel
theorem dX4_feed_10 : decode cX4_feed 10 = .ok (.aload_n 0, 1) := by decide +kernel
theorem dX4_feed_11 : decode cX4_feed 11 = .ok (.ldc 35, 2) := by decide +kernel
theorem dX4_feed_13 : decode cX4_feed 13 = .ok (.invokevirtual 37, 3) := by decide +kernel
theorem dX4_feed_16 : decode cX4_feed 16 = .ok (.ireturn, 1) := by decide +kernel
theorem dX4_feed_17 : decode cX4_feed 17 = .ok (.aload_n 0, 1) := by decide +kernel
theorem dX4_feed_18 : decode cX4_feed 18 = .ok (.getfield 145, 3) := by decide +kernel
theorem dX4_feed_21 : decode cX4_feed 21 = .ok (.iload_n 2, 1) := by decide +kernel
theorem dX4_feed_22 : decode cX4_feed 22 = .ok (.iadd, 1) := by decide +kernel
theorem dX4_feed_23 : decode cX4_feed 23 = .ok (.bipush 120, 2) := by decide +kernel
theorem dX4_feed_25 : decode cX4_feed 25 = .ok (.if_icmp .le 10, 3) := by decide +kernel
theorem dX4_feed_28 : decode cX4_feed 28 = .ok (.aload_n 0, 1) := by decide +kernel
theorem dX4_feed_29 : decode cX4_feed 29 = .ok (.ldc 96, 2) := by decide +kernel
theorem dX4_feed_31 : decode cX4_feed 31 = .ok (.invokevirtual 37, 3) := by decide +kernel
theorem dX4_feed_34 : decode cX4_feed 34 = .ok (.ireturn, 1) := by decide +kernel
theorem dX4_feed_35 : decode cX4_feed 35 = .ok (.iload_n 2, 1) := by decide +kernel
theorem dX4_feed_36 : decode cX4_feed 36 = .ok (.iconst 1, 1) := by decide +kernel
theorem dX4_feed_37 : decode cX4_feed 37 = .ok (.isub, 1) := by decide +kernel
theorem dX4_feed_38 : decode cX4_feed 38 = .ok (.istore_n 3, 1) := by decide +kernel
theorem dX4_feed_39 : decode cX4_feed 39 = .ok (.iload_n 3, 1) := by decide +kernel
theorem dX4_feed_40 : decode cX4_feed 40 = .ok (.ifCond .lt 38, 3) := by decide +kernel
theorem dX4_feed_43 : decode cX4_feed 43 = .ok (.aload_n 0, 1) := by decide +kernel
theorem dX4_feed_44 : decode cX4_feed 44 = .ok (.getfield 22, 3) := by decide +kernel
theorem dX4_feed_47 : decode cX4_feed 47 = .ok (.aload_n 0, 1) := by decide +kernel
theorem dX4_feed_48 : decode cX4_feed 48 = .ok (.getfield 145, 3) := by decide +kernel
theorem dX4_feed_51 : decode cX4_feed 51 = .ok (.iload_n 1, 1) := by decide +kernel
theorem dX4_feed_52 : decode cX4_feed 52 = .ok (.bipush 8, 2) := by decide +kernel
theorem dX4_feed_54 : decode cX4_feed 54 = .ok (.iload_n 3, 1) := by decide +kernel
theorem dX4_feed_55 : decode cX4_feed 55 = .ok (.imul, 1) := by decide +kernel
theorem dX4_feed_56 : decode cX4_feed 56 = .ok (.ishr, 1) := by decide +kernel
theorem dX4_feed_57 : decode cX4_feed 57 = .ok (.sipush 255, 3) := by decide +kernel
theorem dX4_feed_60 : decode cX4_feed 60 = .ok (.iand, 1) := by decide +kernel
theorem dX4_feed_61 : decode cX4_feed 61 = .ok (.iastore, 1) := by decide +kernel
theorem dX4_feed_62 : decode cX4_feed 62 = .ok (.aload_n 0, 1) := by decide +kernel
theorem dX4_feed_63 : decode cX4_feed 63 = .ok (.dup, 1) := by decide +kernel
theorem dX4_feed_64 : decode cX4_feed 64 = .ok (.getfield 145, 3) := by decide +kernel
theorem dX4_feed_67 : decode cX4_feed 67 = .ok (.iconst 1, 1) := by decide +kernel
theorem dX4_feed_68 : decode cX4_feed 68 = .ok (.iadd, 1) := by decide +kernel
theorem dX4_feed_69 : decode cX4_feed 69 = .ok (.putfield 145, 3) := by decide +kernel
theorem dX4_feed_72 : decode cX4_feed 72 = .ok (.iinc 3 (-1), 3) := by decide +kernel
theorem dX4_feed_75 : decode cX4_feed 75 = .ok (.goto (-36), 3) := by decide +kernel
theorem dX4_feed_78 : decode cX4_feed 78 = .ok (.aload_n 0, 1) := by decide +kernel
theorem dX4_feed_79 : decode cX4_feed 79 = .ok (.getfield 145, 3) := by decide +kernel
theorem dX4_feed_82 : decode cX4_feed 82 = .ok (.ireturn, 1) := by decide +kernel
theorem dX4_wipe_0 : decode cX4_wipe 0 = .ok (.aload_n 0, 1) := by decide +kernel
theorem dX4_wipe_1 : decode cX4_wipe 1 = .ok (.getfield 145, 3) := by decide +kernel
theorem dX4_wipe_4 : decode cX4_wipe 4 = .ok (.istore_n 1, 1) := by decide +kernel
theorem dX4_wipe_5 : decode cX4_wipe 5 = .ok (.aload_n 0, 1) := by decide +kernel
theorem dX4_wipe_6 : decode cX4_wipe 6 = .ok (.iconst 0, 1) := by decide +kernel
theorem dX4_wipe_7 : decode cX4_wipe 7 = .ok (.putfield 145, 3) := by decide +kernel
theorem dX4_wipe_10 : decode cX4_wipe 10 = .ok (.iload_n 1, 1) := by decide +kernel
theorem dX4_wipe_11 : decode cX4_wipe 11 = .ok (.ireturn, 1) := by decide +kernel
set_option maxRecDepth 20000 in
theorem ggX4_isByte_X4_in : GoodIn wsX4_isByte wsX4_in := goodIn_r _ [6] (by decide +kernel) (by decide +kernel)
set_option maxRecDepth 20000 in
theorem gX4_isByte_X4_in : GoodIn wsX4_isByte (va_wsS RX4 41 yX4_in wsX4_in) := goodIn_app (goodIn_of _ (by decide +kernel)) ggX4_isByte_X4_in
theorem dX4_isByte_0 : decode cX4_isByte 0 = .ok (.iload_n 1, 1) := by decide +kernel
theorem dX4_isByte_1 : decode cX4_isByte 1 = .ok (.aload_n 0, 1) := by decide +kernel
theorem dX4_isByte_2 : decode cX4_isByte 2 = .ok (.getfield 145, 3) := by decide +kernel
theorem dX4_isByte_5 : decode cX4_isByte 5 = .ok (.if_icmp .ge 22, 3) := by decide +kernel
theorem dX4_isByte_8 : decode cX4_isByte 8 = .ok (.aload_n 0, 1) := by decide +kernel
theorem dX4_isByte_9 : decode cX4_isByte 9 = .ok (.getfield 22, 3) := by decide +kernel
theorem dX4_isByte_12 : decode cX4_isByte 12 = .ok (.iload_n 1, 1) := by decide +kernel
theorem dX4_isByte_13 : decode cX4_isByte 13 = .ok (.iaload, 1) := by decide +kernel
theorem dX4_isByte_14 : decode cX4_isByte 14 = .ok (.i2l, 1) := by decide +kernel
theorem dX4_isByte_15 : decode cX4_isByte 15 = .ok (.iload_n 2, 1) := by decide +kernel
theorem dX4_isByte_16 : decode cX4_isByte 16 = .ok (.iload_n 3, 1) := by decide +kernel
theorem dX4_isByte_17 : decode cX4_isByte 17 = .ok (.invokestatic 41, 3) := by decide +kernel
theorem dX4_isByte_20 : decode cX4_isByte 20 = .ok (.ifCond .eq 7, 3) := by decide +kernel
theorem dX4_isByte_23 : decode cX4_isByte 23 = .ok (.iconst 1, 1) := by decide +kernel
theorem dX4_isByte_24 : decode cX4_isByte 24 = .ok (.goto 4, 3) := by decide +kernel
theorem dX4_isByte_27 : decode cX4_isByte 27 = .ok (.iconst 0, 1) := by decide +kernel
theorem dX4_isByte_28 : decode cX4_isByte 28 = .ok (.ireturn, 1) := by decide +kernel
theorem dX4_isName_0 : decode cX4_isName 0 = .ok (.iload_n 2, 1) := by decide +kernel
theorem dX4_isName_1 : decode cX4_isName 1 = .ok (.bipush 7, 2) := by decide +kernel
theorem dX4_isName_3 : decode cX4_isName 3 = .ok (.if_icmp .gt 26, 3) := by decide +kernel
theorem dX4_isName_6 : decode cX4_isName 6 = .ok (.iload_n 2, 1) := by decide +kernel
theorem dX4_isName_7 : decode cX4_isName 7 = .ok (.bipush 7, 2) := by decide +kernel
theorem dX4_isName_9 : decode cX4_isName 9 = .ok (.if_icmp .eq 16, 3) := by decide +kernel
theorem dX4_isName_12 : decode cX4_isName 12 = .ok (.getstatic 149, 3) := by decide +kernel
theorem dX4_isName_15 : decode cX4_isName 15 = .ok (.bipush 7, 2) := by decide +kernel
theorem dX4_isName_17 : decode cX4_isName 17 = .ok (.iload_n 1, 1) := by decide +kernel
theorem dX4_isName_18 : decode cX4_isName 18 = .ok (.imul, 1) := by decide +kernel
theorem dX4_isName_19 : decode cX4_isName 19 = .ok (.iload_n 2, 1) := by decide +kernel
theorem dX4_isName_20 : decode cX4_isName 20 = .ok (.iadd, 1) := by decide +kernel
theorem dX4_isName_21 : decode cX4_isName 21 = .ok (.iaload, 1) := by decide +kernel
theorem dX4_isName_22 : decode cX4_isName 22 = .ok (.ifCond .ne 7, 3) := by decide +kernel
theorem dX4_isName_25 : decode cX4_isName 25 = .ok (.iconst 1, 1) := by decide +kernel
theorem dX4_isName_26 : decode cX4_isName 26 = .ok (.goto 4, 3) := by decide +kernel
theorem dX4_isName_29 : decode cX4_isName 29 = .ok (.iconst 0, 1) := by decide +kernel
theorem dX4_isName_30 : decode cX4_isName 30 = .ok (.istore_n 3, 1) := by decide +kernel
theorem dX4_isName_31 : decode cX4_isName 31 = .ok (.iconst 0, 1) := by decide +kernel
theorem dX4_isName_32 : decode cX4_isName 32 = .ok (.istore 4, 2) := by decide +kernel
theorem dX4_isName_34 : decode cX4_isName 34 = .ok (.iload 4, 2) := by decide +kernel
theorem dX4_isName_36 : decode cX4_isName 36 = .ok (.iload_n 2, 1) := by decide +kernel
theorem dX4_isName_37 : decode cX4_isName 37 = .ok (.if_icmp .ge 45, 3) := by decide +kernel
theorem dX4_isName_40 : decode cX4_isName 40 = .ok (.iload_n 3, 1) := by decide +kernel
theorem dX4_isName_41 : decode cX4_isName 41 = .ok (.ifCond .eq 41, 3) := by decide +kernel
theorem dX4_isName_44 : decode cX4_isName 44 = .ok (.getstatic 149, 3) := by decide +kernel
theorem dX4_isName_47 : decode cX4_isName 47 = .ok (.bipush 7, 2) := by decide +kernel
theorem dX4_isName_49 : decode cX4_isName 49 = .ok (.iload_n 1, 1) := by decide +kernel
theorem dX4_isName_50 : decode cX4_isName 50 = .ok (.imul, 1) := by decide +kernel
theorem dX4_isName_51 : decode cX4_isName 51 = .ok (.iload 4, 2) := by decide +kernel
theorem dX4_isName_53 : decode cX4_isName 53 = .ok (.iadd, 1) := by decide +kernel
theorem dX4_isName_54 : decode cX4_isName 54 = .ok (.iaload, 1) := by decide +kernel
theorem dX4_isName_55 : decode cX4_isName 55 = .ok (.aload_n 0, 1) := by decide +kernel
theorem dX4_isName_56 : decode cX4_isName 56 = .ok (.getfield 22, 3) := by decide +kernel
theorem dX4_isName_59 : decode cX4_isName 59 = .ok (.aload_n 0, 1) := by decide +kernel
theorem dX4_isName_60 : decode cX4_isName 60 = .ok (.getfield 152, 3) := by decide +kernel
theorem dX4_isName_63 : decode cX4_isName 63 = .ok (.iload 4, 2) := by decide +kernel
theorem dX4_isName_65 : decode cX4_isName 65 = .ok (.iadd, 1) := by decide +kernel
theorem dX4_isName_66 : decode cX4_isName 66 = .ok (.iaload, 1) := by decide +kernel
theorem dX4_isName_67 : decode cX4_isName 67 = .ok (.if_icmp .ne 7, 3) := by decide +kernel
theorem dX4_isName_70 : decode cX4_isName 70 = .ok (.iconst 1, 1) := by decide +kernel
theorem dX4_isName_71 : decode cX4_isName 71 = .ok (.goto 4, 3) := by decide +kernel
theorem dX4_isName_74 : decode cX4_isName 74 = .ok (.iconst 0, 1) := by decide +kernel
theorem dX4_isName_75 : decode cX4_isName 75 = .ok (.istore_n 3, 1) := by decide +kernel
theorem dX4_isName_76 : decode cX4_isName 76 = .ok (.iinc 4 1, 3) := by decide +kernel
theorem dX4_isName_79 : decode cX4_isName 79 = .ok (.goto (-45), 3) := by decide +kernel
theorem dX4_isName_82 : decode cX4_isName 82 = .ok (.iload_n 3, 1) := by decide +kernel
theorem dX4_isName_83 : decode cX4_isName 83 = .ok (.ireturn, 1) := by decide +kernel
set_option maxRecDepth 20000 in
theorem ggX4_wordHere_X4_isName : GoodIn wsX4_wordHere wsX4_isName := goodIn_r _ [7, 8, 9, 2, 10, 11, 12, 13, 14, 15, 16, 17, 18, 19, 20, 21, 22, 23, 24] (by decide +kernel) (by decide +kernel)
set_option maxRecDepth 20000 in
theorem gX4_wordHere_X4_isName : GoodIn wsX4_wordHere (wsV RX4 158 RX4 yX4_isName wsX4_isName) := goodIn_app (goodIn_of _ (by decide +kernel)) ggX4_wordHere_X4_isName
theorem dX4_wordHere_0 : decode cX4_wordHere 0 = .ok (.iconst 0, 1) := by decide +kernel
theorem dX4_wordHere_1 : decode cX4_wordHere 1 = .ok (.istore_n 1, 1) := by decide +kernel
theorem dX4_wordHere_2 : decode cX4_wordHere 2 = .ok (.iload_n 1, 1) := by decide +kernel
theorem dX4_wordHere_3 : decode cX4_wordHere 3 = .ok (.bipush 11, 2) := by decide +kernel
theorem dX4_wordHere_5 : decode cX4_wordHere 5 = .ok (.if_icmp .ge 26, 3) := by decide +kernel
theorem dX4_wordHere_8 : decode cX4_wordHere 8 = .ok (.aload_n 0, 1) := by decide +kernel
theorem dX4_wordHere_9 : decode cX4_wordHere 9 = .ok (.iload_n 1, 1) := by decide +kernel
theorem dX4_wordHere_10 : decode cX4_wordHere 10 = .ok (.aload_n 0, 1) := by decide +kernel
theorem dX4_wordHere_11 : decode cX4_wordHere 11 = .ok (.getfield 155, 3) := by decide +kernel
theorem dX4_wordHere_14 : decode cX4_wordHere 14 = .ok (.aload_n 0, 1) := by decide +kernel
theorem dX4_wordHere_15 : decode cX4_wordHere 15 = .ok (.getfield 152, 3) := by decide +kernel
theorem dX4_wordHere_18 : decode cX4_wordHere 18 = .ok (.isub, 1) := by decide +kernel
theorem dX4_wordHere_19 : decode cX4_wordHere 19 = .ok (.invokevirtual 158, 3) := by decide +kernel
theorem dX4_wordHere_22 : decode cX4_wordHere 22 = .ok (.ifCond .ne 9, 3) := by decide +kernel
theorem dX4_wordHere_25 : decode cX4_wordHere 25 = .ok (.iinc 1 1, 3) := by decide +kernel
theorem dX4_wordHere_28 : decode cX4_wordHere 28 = .ok (.goto (-26), 3) := by decide +kernel
theorem dX4_wordHere_31 : decode cX4_wordHere 31 = .ok (.iload_n 1, 1) := by decide +kernel
theorem dX4_wordHere_32 : decode cX4_wordHere 32 = .ok (.bipush 11, 2) := by decide +kernel
theorem dX4_wordHere_34 : decode cX4_wordHere 34 = .ok (.if_icmp .ge 7, 3) := by decide +kernel
theorem dX4_wordHere_37 : decode cX4_wordHere 37 = .ok (.iload_n 1, 1) := by decide +kernel
theorem dX4_wordHere_38 : decode cX4_wordHere 38 = .ok (.goto 5, 3) := by decide +kernel
theorem dX4_wordHere_41 : decode cX4_wordHere 41 = .ok (.bipush 23, 2) := by decide +kernel
theorem dX4_wordHere_43 : decode cX4_wordHere 43 = .ok (.ireturn, 1) := by decide +kernel
set_option maxRecDepth 20000 in
theorem ggX4_reads_X4_isByte : GoodIn wsX4_reads wsX4_isByte := goodIn_r _ [11, 4, 6, 12, 13, 10, 14, 24, 25, 26, 27, 28, 29, 30, 31, 32, 33, 34, 35, 36, 37, 38] (by decide +kernel) (by decide +kernel)
set_option maxRecDepth 20000 in
theorem gX4_reads_X4_isByte : GoodIn wsX4_reads (wsV RX4 162 RX4 yX4_isByte wsX4_isByte) := goodIn_app (goodIn_of _ (by decide +kernel)) ggX4_reads_X4_isByte
set_option maxRecDepth 20000 in
theorem ggX4_reads_X4_wordHere : GoodIn wsX4_reads wsX4_wordHere := goodIn_r _ [18, 1, 2, 19, 20, 21, 10, 22, 23, 6, 24, 25, 26, 27, 28, 29, 30, 31, 32, 33, 34, 35, 36, 37, 38] (by decide +kernel) (by decide +kernel)
set_option maxRecDepth 20000 in
theorem gX4_reads_X4_wordHere : GoodIn wsX4_reads (wsV RX4 172 RX4 yX4_wordHere wsX4_wordHere) := goodIn_app (goodIn_of _ (by decide +kernel)) ggX4_reads_X4_wordHere
theorem dX4_reads_0 : decode cX4_reads 0 = .ok (.aload_n 0, 1) := by decide +kernel
theorem dX4_reads_1 : decode cX4_reads 1 = .ok (.aload_n 0, 1) := by decide +kernel
theorem dX4_reads_2 : decode cX4_reads 2 = .ok (.getfield 155, 3) := by decide +kernel
theorem dX4_reads_5 : decode cX4_reads 5 = .ok (.bipush 32, 2) := by decide +kernel
theorem dX4_reads_7 : decode cX4_reads 7 = .ok (.bipush 32, 2) := by decide +kernel
theorem dX4_reads_9 : decode cX4_reads 9 = .ok (.invokevirtual 162, 3) := by decide +kernel
theorem dX4_reads_12 : decode cX4_reads 12 = .ok (.ifCond .eq 16, 3) := by decide +kernel
theorem dX4_reads_15 : decode cX4_reads 15 = .ok (.aload_n 0, 1) := by decide +kernel
theorem dX4_reads_16 : decode cX4_reads 16 = .ok (.dup, 1) := by decide +kernel
theorem dX4_reads_17 : decode cX4_reads 17 = .ok (.getfield 155, 3) := by decide +kernel
theorem dX4_reads_20 : decode cX4_reads 20 = .ok (.iconst 1, 1) := by decide +kernel
theorem dX4_reads_21 : decode cX4_reads 21 = .ok (.iadd, 1) := by decide +kernel
theorem dX4_reads_22 : decode cX4_reads 22 = .ok (.putfield 155, 3) := by decide +kernel
theorem dX4_reads_25 : decode cX4_reads 25 = .ok (.goto (-25), 3) := by decide +kernel
theorem dX4_reads_28 : decode cX4_reads 28 = .ok (.aload_n 0, 1) := by decide +kernel
theorem dX4_reads_29 : decode cX4_reads 29 = .ok (.aload_n 0, 1) := by decide +kernel
theorem dX4_reads_30 : decode cX4_reads 30 = .ok (.getfield 155, 3) := by decide +kernel
theorem dX4_reads_33 : decode cX4_reads 33 = .ok (.putfield 152, 3) := by decide +kernel
theorem dX4_reads_36 : decode cX4_reads 36 = .ok (.aload_n 0, 1) := by decide +kernel
theorem dX4_reads_37 : decode cX4_reads 37 = .ok (.iconst 0, 1) := by decide +kernel
theorem dX4_reads_38 : decode cX4_reads 38 = .ok (.putfield 166, 3) := by decide +kernel
theorem dX4_reads_41 : decode cX4_reads 41 = .ok (.aload_n 0, 1) := by decide +kernel
theorem dX4_reads_42 : decode cX4_reads 42 = .ok (.getfield 155, 3) := by decide +kernel
theorem dX4_reads_45 : decode cX4_reads 45 = .ok (.aload_n 0, 1) := by decide +kernel
theorem dX4_reads_46 : decode cX4_reads 46 = .ok (.getfield 145, 3) := by decide +kernel
theorem dX4_reads_49 : decode cX4_reads 49 = .ok (.if_icmp .ne 12, 3) := by decide +kernel
theorem dX4_reads_52 : decode cX4_reads 52 = .ok (.aload_n 0, 1) := by decide +kernel
theorem dX4_reads_53 : decode cX4_reads 53 = .ok (.bipush 22, 2) := by decide +kernel
theorem dX4_reads_55 : decode cX4_reads 55 = .ok (.putfield 169, 3) := by decide +kernel
theorem dX4_reads_58 : decode cX4_reads 58 = .ok (.goto 186, 3) := by decide +kernel
theorem dX4_reads_61 : decode cX4_reads 61 = .ok (.aload_n 0, 1) := by decide +kernel
theorem dX4_reads_62 : decode cX4_reads 62 = .ok (.aload_n 0, 1) := by decide +kernel
theorem dX4_reads_63 : decode cX4_reads 63 = .ok (.getfield 155, 3) := by decide +kernel
theorem dX4_reads_66 : decode cX4_reads 66 = .ok (.bipush 97, 2) := by decide +kernel
theorem dX4_reads_68 : decode cX4_reads 68 = .ok (.bipush 122, 2) := by decide +kernel
theorem dX4_reads_70 : decode cX4_reads 70 = .ok (.invokevirtual 162, 3) := by decide +kernel
theorem dX4_reads_73 : decode cX4_reads 73 = .ok (.ifCond .eq 42, 3) := by decide +kernel
theorem dX4_reads_76 : decode cX4_reads 76 = .ok (.aload_n 0, 1) := by decide +kernel
theorem dX4_reads_77 : decode cX4_reads 77 = .ok (.aload_n 0, 1) := by decide +kernel
theorem dX4_reads_78 : decode cX4_reads 78 = .ok (.getfield 155, 3) := by decide +kernel
theorem dX4_reads_81 : decode cX4_reads 81 = .ok (.bipush 97, 2) := by decide +kernel
theorem dX4_reads_83 : decode cX4_reads 83 = .ok (.bipush 122, 2) := by decide +kernel
theorem dX4_reads_85 : decode cX4_reads 85 = .ok (.invokevirtual 162, 3) := by decide +kernel
theorem dX4_reads_88 : decode cX4_reads 88 = .ok (.ifCond .eq 16, 3) := by decide +kernel
theorem dX4_reads_91 : decode cX4_reads 91 = .ok (.aload_n 0, 1) := by decide +kernel
theorem dX4_reads_92 : decode cX4_reads 92 = .ok (.dup, 1) := by decide +kernel
theorem dX4_reads_93 : decode cX4_reads 93 = .ok (.getfield 155, 3) := by decide +kernel
theorem dX4_reads_96 : decode cX4_reads 96 = .ok (.iconst 1, 1) := by decide +kernel
theorem dX4_reads_97 : decode cX4_reads 97 = .ok (.iadd, 1) := by decide +kernel
theorem dX4_reads_98 : decode cX4_reads 98 = .ok (.putfield 155, 3) := by decide +kernel
theorem dX4_reads_101 : decode cX4_reads 101 = .ok (.goto (-25), 3) := by decide +kernel
theorem dX4_reads_104 : decode cX4_reads 104 = .ok (.aload_n 0, 1) := by decide +kernel
theorem dX4_reads_105 : decode cX4_reads 105 = .ok (.aload_n 0, 1) := by decide +kernel
theorem dX4_reads_106 : decode cX4_reads 106 = .ok (.invokevirtual 172, 3) := by decide +kernel
theorem dX4_reads_109 : decode cX4_reads 109 = .ok (.putfield 169, 3) := by decide +kernel
theorem dX4_reads_112 : decode cX4_reads 112 = .ok (.goto 132, 3) := by decide +kernel
theorem dX4_reads_115 : decode cX4_reads 115 = .ok (.aload_n 0, 1) := by decide +kernel
theorem dX4_reads_116 : decode cX4_reads 116 = .ok (.aload_n 0, 1) := by decide +kernel
theorem dX4_reads_117 : decode cX4_reads 117 = .ok (.getfield 155, 3) := by decide +kernel
theorem dX4_reads_120 : decode cX4_reads 120 = .ok (.bipush 48, 2) := by decide +kernel
theorem dX4_reads_122 : decode cX4_reads 122 = .ok (.bipush 57, 2) := by decide +kernel
theorem dX4_reads_124 : decode cX4_reads 124 = .ok (.invokevirtual 162, 3) := by decide +kernel
theorem dX4_reads_127 : decode cX4_reads 127 = .ok (.ifCond .eq 81, 3) := by decide +kernel
theorem dX4_reads_130 : decode cX4_reads 130 = .ok (.aload_n 0, 1) := by decide +kernel
theorem dX4_reads_131 : decode cX4_reads 131 = .ok (.aload_n 0, 1) := by decide +kernel
theorem dX4_reads_132 : decode cX4_reads 132 = .ok (.getfield 155, 3) := by decide +kernel
theorem dX4_reads_135 : decode cX4_reads 135 = .ok (.bipush 48, 2) := by decide +kernel
theorem dX4_reads_137 : decode cX4_reads 137 = .ok (.bipush 57, 2) := by decide +kernel
theorem dX4_reads_139 : decode cX4_reads 139 = .ok (.invokevirtual 162, 3) := by decide +kernel
theorem dX4_reads_142 : decode cX4_reads 142 = .ok (.ifCond .eq 57, 3) := by decide +kernel
theorem dX4_reads_145 : decode cX4_reads 145 = .ok (.aload_n 0, 1) := by decide +kernel
theorem dX4_reads_146 : decode cX4_reads 146 = .ok (.aload_n 0, 1) := by decide +kernel
theorem dX4_reads_147 : decode cX4_reads 147 = .ok (.getfield 166, 3) := by decide +kernel
theorem dX4_reads_150 : decode cX4_reads 150 = .ok (.sipush 999, 3) := by decide +kernel
theorem dX4_reads_153 : decode cX4_reads 153 = .ok (.if_icmp .le 10, 3) := by decide +kernel
theorem dX4_reads_156 : decode cX4_reads 156 = .ok (.aload_n 0, 1) := by decide +kernel
theorem dX4_reads_157 : decode cX4_reads 157 = .ok (.getfield 166, 3) := by decide +kernel
theorem dX4_reads_160 : decode cX4_reads 160 = .ok (.goto 23, 3) := by decide +kernel
theorem dX4_reads_163 : decode cX4_reads 163 = .ok (.bipush 10, 2) := by decide +kernel
theorem dX4_reads_165 : decode cX4_reads 165 = .ok (.aload_n 0, 1) := by decide +kernel
theorem dX4_reads_166 : decode cX4_reads 166 = .ok (.getfield 166, 3) := by decide +kernel
theorem dX4_reads_169 : decode cX4_reads 169 = .ok (.imul, 1) := by decide +kernel
theorem dX4_reads_170 : decode cX4_reads 170 = .ok (.aload_n 0, 1) := by decide +kernel
theorem dX4_reads_171 : decode cX4_reads 171 = .ok (.getfield 22, 3) := by decide +kernel
theorem dX4_reads_174 : decode cX4_reads 174 = .ok (.aload_n 0, 1) := by decide +kernel
theorem dX4_reads_175 : decode cX4_reads 175 = .ok (.getfield 155, 3) := by decide +kernel
theorem dX4_reads_178 : decode cX4_reads 178 = .ok (.iaload, 1) := by decide +kernel
theorem dX4_reads_179 : decode cX4_reads 179 = .ok (.iadd, 1) := by decide +kernel
theorem dX4_reads_180 : decode cX4_reads 180 = .ok (.bipush 48, 2) := by decide +kernel
theorem dX4_reads_182 : decode cX4_reads 182 = .ok (.isub, 1) := by decide +kernel
theorem dX4_reads_183 : decode cX4_reads 183 = .ok (.putfield 166, 3) := by decide +kernel
theorem dX4_reads_186 : decode cX4_reads 186 = .ok (.aload_n 0, 1) := by decide +kernel
theorem dX4_reads_187 : decode cX4_reads 187 = .ok (.dup, 1) := by decide +kernel
theorem dX4_reads_188 : decode cX4_reads 188 = .ok (.getfield 155, 3) := by decide +kernel
theorem dX4_reads_191 : decode cX4_reads 191 = .ok (.iconst 1, 1) := by decide +kernel
theorem dX4_reads_192 : decode cX4_reads 192 = .ok (.iadd, 1) := by decide +kernel
theorem dX4_reads_193 : decode cX4_reads 193 = .ok (.putfield 155, 3) := by decide +kernel
theorem dX4_reads_196 : decode cX4_reads 196 = .ok (.goto (-66), 3) := by decide +kernel
theorem dX4_reads_199 : decode cX4_reads 199 = .ok (.aload_n 0, 1) := by decide +kernel
theorem dX4_reads_200 : decode cX4_reads 200 = .ok (.bipush 20, 2) := by decide +kernel
theorem dX4_reads_202 : decode cX4_reads 202 = .ok (.putfield 169, 3) := by decide +kernel
theorem dX4_reads_205 : decode cX4_reads 205 = .ok (.goto 39, 3) := by decide +kernel
theorem dX4_reads_208 : decode cX4_reads 208 = .ok (.aload_n 0, 1) := by decide +kernel
theorem dX4_reads_209 : decode cX4_reads 209 = .ok (.aload_n 0, 1) := by decide +kernel
theorem dX4_reads_210 : decode cX4_reads 210 = .ok (.aload_n 0, 1) := by decide +kernel
theorem dX4_reads_211 : decode cX4_reads 211 = .ok (.getfield 155, 3) := by decide +kernel
theorem dX4_reads_214 : decode cX4_reads 214 = .ok (.bipush 59, 2) := by decide +kernel
theorem dX4_reads_216 : decode cX4_reads 216 = .ok (.bipush 59, 2) := by decide +kernel
theorem dX4_reads_218 : decode cX4_reads 218 = .ok (.invokevirtual 162, 3) := by decide +kernel
theorem dX4_reads_221 : decode cX4_reads 221 = .ok (.ifCond .eq 8, 3) := by decide +kernel
theorem dX4_reads_224 : decode cX4_reads 224 = .ok (.bipush 21, 2) := by decide +kernel
theorem dX4_reads_226 : decode cX4_reads 226 = .ok (.goto 5, 3) := by decide +kernel
theorem dX4_reads_229 : decode cX4_reads 229 = .ok (.bipush 23, 2) := by decide +kernel
theorem dX4_reads_231 : decode cX4_reads 231 = .ok (.putfield 169, 3) := by decide +kernel
theorem dX4_reads_234 : decode cX4_reads 234 = .ok (.aload_n 0, 1) := by decide +kernel
theorem dX4_reads_235 : decode cX4_reads 235 = .ok (.dup, 1) := by decide +kernel
theorem dX4_reads_236 : decode cX4_reads 236 = .ok (.getfield 155, 3) := by decide +kernel
theorem dX4_reads_239 : decode cX4_reads 239 = .ok (.iconst 1, 1) := by decide +kernel
theorem dX4_reads_240 : decode cX4_reads 240 = .ok (.iadd, 1) := by decide +kernel
theorem dX4_reads_241 : decode cX4_reads 241 = .ok (.putfield 155, 3) := by decide +kernel
theorem dX4_reads_244 : decode cX4_reads 244 = .ok (.return_, 1) := by decide +kernel
set_option maxRecDepth 20000 in
theorem ggX4_passes_X4_reads : GoodIn wsX4_passes wsX4_reads := goodIn_r _ [7, 8, 9, 10, 11, 2, 12, 13, 14, 15, 6, 16, 17, 18, 19, 20, 21, 22, 23, 24, 25, 26, 27, 28, 29, 30, 31, 32, 33, 34, 35, 36, 37, 38, 39, 40, 41, 42, 43] (by decide +kernel) (by decide +kernel)
set_option maxRecDepth 20000 in
theorem gX4_passes_X4_reads : GoodIn wsX4_passes (wsV RX4 179 RX4 yX4_reads wsX4_reads) := goodIn_app (goodIn_of _ (by decide +kernel)) ggX4_passes_X4_reads
theorem dX4_passes_0 : decode cX4_passes 0 = .ok (.aload_n 0, 1) := by decide +kernel
theorem dX4_passes_1 : decode cX4_passes 1 = .ok (.getfield 175, 3) := by decide +kernel
theorem dX4_passes_4 : decode cX4_passes 4 = .ok (.ifCond .ne 11, 3) := by decide +kernel
theorem dX4_passes_7 : decode cX4_passes 7 = .ok (.aload_n 0, 1) := by decide +kernel
theorem dX4_passes_8 : decode cX4_passes 8 = .ok (.getfield 169, 3) := by decide +kernel
theorem dX4_passes_11 : decode cX4_passes 11 = .ok (.iload_n 1, 1) := by decide +kernel
theorem dX4_passes_12 : decode cX4_passes 12 = .ok (.if_icmp .eq 5, 3) := by decide +kernel
theorem dX4_passes_15 : decode cX4_passes 15 = .ok (.iconst 0, 1) := by decide +kernel
theorem dX4_passes_16 : decode cX4_passes 16 = .ok (.ireturn, 1) := by decide +kernel
theorem dX4_passes_17 : decode cX4_passes 17 = .ok (.aload_n 0, 1) := by decide +kernel
theorem dX4_passes_18 : decode cX4_passes 18 = .ok (.invokevirtual 179, 3) := by decide +kernel
theorem dX4_passes_21 : decode cX4_passes 21 = .ok (.iconst 1, 1) := by decide +kernel
theorem dX4_passes_22 : decode cX4_passes 22 = .ok (.ireturn, 1) := by decide +kernel
set_option maxRecDepth 20000 in
theorem ggX4_number_X4_in : GoodIn wsX4_number wsX4_in := goodIn_r _ [7] (by decide +kernel) (by decide +kernel)
set_option maxRecDepth 20000 in
theorem gX4_number_X4_in : GoodIn wsX4_number (va_wsS RX4 41 yX4_in wsX4_in) := goodIn_app (goodIn_of _ (by decide +kernel)) ggX4_number_X4_in
set_option maxRecDepth 20000 in
theorem ggX4_number_X4_reads : GoodIn wsX4_number wsX4_reads := goodIn_r _ [11, 12, 13, 1, 14, 3, 15, 16, 17, 18, 6, 19, 4, 5, 7, 20, 21, 22, 23, 24, 25, 26, 27, 28, 29, 30, 31, 32, 33, 34, 35, 36, 37, 38, 39, 40, 41, 42, 43] (by decide +kernel) (by decide +kernel)
set_option maxRecDepth 20000 in
theorem gX4_number_X4_reads : GoodIn wsX4_number (wsV RX4 179 RX4 yX4_reads wsX4_reads) := goodIn_app (goodIn_of _ (by decide +kernel)) ggX4_number_X4_reads
theorem dX4_number_0 : decode cX4_number 0 = .ok (.aload_n 0, 1) := by decide +kernel
theorem dX4_number_1 : decode cX4_number 1 = .ok (.getfield 166, 3) := by decide +kernel
theorem dX4_number_4 : decode cX4_number 4 = .ok (.istore_n 3, 1) := by decide +kernel
theorem dX4_number_5 : decode cX4_number 5 = .ok (.aload_n 0, 1) := by decide +kernel
theorem dX4_number_6 : decode cX4_number 6 = .ok (.aload_n 0, 1) := by decide +kernel
theorem dX4_number_7 : decode cX4_number 7 = .ok (.getfield 175, 3) := by decide +kernel
theorem dX4_number_10 : decode cX4_number 10 = .ok (.ifCond .ne 22, 3) := by decide +kernel
theorem dX4_number_13 : decode cX4_number 13 = .ok (.aload_n 0, 1) := by decide +kernel
theorem dX4_number_14 : decode cX4_number 14 = .ok (.getfield 169, 3) := by decide +kernel
theorem dX4_number_17 : decode cX4_number 17 = .ok (.bipush 20, 2) := by decide +kernel
theorem dX4_number_19 : decode cX4_number 19 = .ok (.if_icmp .ne 13, 3) := by decide +kernel
theorem dX4_number_22 : decode cX4_number 22 = .ok (.iload_n 3, 1) := by decide +kernel
theorem dX4_number_23 : decode cX4_number 23 = .ok (.i2l, 1) := by decide +kernel
theorem dX4_number_24 : decode cX4_number 24 = .ok (.iload_n 1, 1) := by decide +kernel
theorem dX4_number_25 : decode cX4_number 25 = .ok (.iload_n 2, 1) := by decide +kernel
theorem dX4_number_26 : decode cX4_number 26 = .ok (.invokestatic 41, 3) := by decide +kernel
theorem dX4_number_29 : decode cX4_number 29 = .ok (.ifCond .ne 7, 3) := by decide +kernel
theorem dX4_number_32 : decode cX4_number 32 = .ok (.iconst 1, 1) := by decide +kernel
theorem dX4_number_33 : decode cX4_number 33 = .ok (.goto 4, 3) := by decide +kernel
theorem dX4_number_36 : decode cX4_number 36 = .ok (.iconst 0, 1) := by decide +kernel
theorem dX4_number_37 : decode cX4_number 37 = .ok (.putfield 175, 3) := by decide +kernel
theorem dX4_number_40 : decode cX4_number 40 = .ok (.aload_n 0, 1) := by decide +kernel
theorem dX4_number_41 : decode cX4_number 41 = .ok (.getfield 175, 3) := by decide +kernel
theorem dX4_number_44 : decode cX4_number 44 = .ok (.ifCond .ne 7, 3) := by decide +kernel
theorem dX4_number_47 : decode cX4_number 47 = .ok (.aload_n 0, 1) := by decide +kernel
theorem dX4_number_48 : decode cX4_number 48 = .ok (.invokevirtual 179, 3) := by decide +kernel
theorem dX4_number_51 : decode cX4_number 51 = .ok (.iload_n 3, 1) := by decide +kernel
theorem dX4_number_52 : decode cX4_number 52 = .ok (.ireturn, 1) := by decide +kernel
set_option maxRecDepth 20000 in
theorem ggX4_perhaps_X4_passes : GoodIn wsX4_perhaps wsX4_passes := goodIn_r _ [5, 6, 7, 8, 9, 10, 4, 11, 12, 13, 14, 15, 16, 17, 18, 19, 20, 21, 22, 23, 24, 25, 26, 27, 28, 29, 30, 31, 32, 37, 38, 39, 40, 41, 42, 43, 44, 45, 46, 47, 48, 49, 50, 51] (by decide +kernel) (by decide +kernel)
set_option maxRecDepth 20000 in
theorem gX4_perhaps_X4_passes : GoodIn wsX4_perhaps (wsV RX4 182 RX4 yX4_passes wsX4_passes) := goodIn_app (goodIn_of _ (by decide +kernel)) ggX4_perhaps_X4_passes
set_option maxRecDepth 20000 in
theorem ggX4_perhaps_X4_number : GoodIn wsX4_perhaps wsX4_number := goodIn_r _ [36, 14, 6, 7, 21, 22, 4, 23, 8, 9, 10, 11, 12, 13, 15, 16, 17, 18, 19, 20, 24, 25, 26, 27, 28, 29, 30, 31, 32, 37, 38, 39, 40, 41, 42, 43, 44, 45, 46, 47, 48, 49, 50, 51] (by decide +kernel) (by decide +kernel)
set_option maxRecDepth 20000 in
theorem gX4_perhaps_X4_number : GoodIn wsX4_perhaps (wsV RX4 185 RX4 yX4_number wsX4_number) := goodIn_app (goodIn_of _ (by decide +kernel)) ggX4_perhaps_X4_number
theorem dX4_perhaps_0 : decode cX4_perhaps 0 = .ok (.aload_n 0, 1) := by decide +kernel
theorem dX4_perhaps_1 : decode cX4_perhaps 1 = .ok (.iload_n 1, 1) := by decide +kernel
theorem dX4_perhaps_2 : decode cX4_perhaps 2 = .ok (.invokevirtual 182, 3) := by decide +kernel
theorem dX4_perhaps_5 : decode cX4_perhaps 5 = .ok (.ifCond .eq 12, 3) := by decide +kernel
theorem dX4_perhaps_8 : decode cX4_perhaps 8 = .ok (.aload_n 0, 1) := by decide +kernel
theorem dX4_perhaps_9 : decode cX4_perhaps 9 = .ok (.iload_n 2, 1) := by decide +kernel
theorem dX4_perhaps_10 : decode cX4_perhaps 10 = .ok (.iload_n 3, 1) := by decide +kernel
theorem dX4_perhaps_11 : decode cX4_perhaps 11 = .ok (.invokevirtual 185, 3) := by decide +kernel
theorem dX4_perhaps_14 : decode cX4_perhaps 14 = .ok (.goto 5, 3) := by decide +kernel
theorem dX4_perhaps_17 : decode cX4_perhaps 17 = .ok (.iload 4, 2) := by decide +kernel
theorem dX4_perhaps_19 : decode cX4_perhaps 19 = .ok (.ireturn, 1) := by decide +kernel
set_option maxRecDepth 20000 in
theorem ggX4_personItem_X4_reads : GoodIn wsX4_personItem wsX4_reads := goodIn_r _ [8, 9, 10, 11, 12, 1, 13, 14, 15, 16, 7, 17, 18, 19, 20, 21, 22, 23, 24, 25, 26, 27, 28, 29, 50, 51, 52, 53, 54, 55, 56, 57, 58, 59, 60, 61, 62, 63, 64] (by decide +kernel) (by decide +kernel)
set_option maxRecDepth 20000 in
theorem gX4_personItem_X4_reads : GoodIn wsX4_personItem (wsV RX4 179 RX4 yX4_reads wsX4_reads) := goodIn_app (goodIn_of _ (by decide +kernel)) ggX4_personItem_X4_reads
set_option maxRecDepth 20000 in
theorem ggX4_personItem_X4_perhaps : GoodIn wsX4_personItem wsX4_perhaps := goodIn_r _ [33, 34, 35, 36, 7, 37, 3, 1, 4, 5, 6, 8, 9, 10, 11, 12, 13, 14, 15, 16, 17, 18, 19, 20, 21, 22, 23, 24, 25, 26, 27, 28, 29, 38, 39, 40, 41, 50, 51, 52, 53, 54, 55, 56, 57, 58, 59, 60, 61, 62, 63, 64] (by decide +kernel) (by decide +kernel)
set_option maxRecDepth 20000 in
theorem gX4_personItem_X4_perhaps : GoodIn wsX4_personItem (wsV RX4 188 RX4 yX4_perhaps wsX4_perhaps) := goodIn_app (goodIn_of _ (by decide +kernel)) ggX4_personItem_X4_perhaps
set_option maxRecDepth 20000 in
theorem ggX4_personItem_X4_comesAs : GoodIn wsX4_personItem wsX4_comesAs := goodIn_r _ [45, 2, 46, 47, 48, 7, 49, 50, 51, 52, 53, 54, 55, 56, 57, 58, 59, 60, 61, 62, 63, 64] (by decide +kernel) (by decide +kernel)
set_option maxRecDepth 20000 in
theorem gX4_personItem_X4_comesAs : GoodIn wsX4_personItem (wsV RX4 97 RX4 yX4_comesAs wsX4_comesAs) := goodIn_app (goodIn_of _ (by decide +kernel)) ggX4_personItem_X4_comesAs
theorem dX4_personItem_0 : decode cX4_personItem 0 = .ok (.aload_n 0, 1) := by decide +kernel
theorem dX4_personItem_1 : decode cX4_personItem 1 = .ok (.getfield 169, 3) := by decide +kernel
theorem dX4_personItem_4 : decode cX4_personItem 4 = .ok (.istore_n 1, 1) := by decide +kernel
theorem dX4_personItem_5 : decode cX4_personItem 5 = .ok (.aload_n 0, 1) := by decide +kernel
theorem dX4_personItem_6 : decode cX4_personItem 6 = .ok (.aload_n 0, 1) := by decide +kernel
theorem dX4_personItem_7 : decode cX4_personItem 7 = .ok (.getfield 9, 3) := by decide +kernel
theorem dX4_personItem_10 : decode cX4_personItem 10 = .ok (.iconst 4, 1) := by decide +kernel
theorem dX4_personItem_11 : decode cX4_personItem 11 = .ok (.iaload, 1) := by decide +kernel
theorem dX4_personItem_12 : decode cX4_personItem 12 = .ok (.bipush 8, 2) := by decide +kernel
theorem dX4_personItem_14 : decode cX4_personItem 14 = .ok (.if_icmp .ne 7, 3) := by decide +kernel
theorem dX4_personItem_17 : decode cX4_personItem 17 = .ok (.iconst 1, 1) := by decide +kernel
theorem dX4_personItem_18 : decode cX4_personItem 18 = .ok (.goto 4, 3) := by decide +kernel
theorem dX4_personItem_21 : decode cX4_personItem 21 = .ok (.iconst 0, 1) := by decide +kernel
theorem dX4_personItem_22 : decode cX4_personItem 22 = .ok (.putfield 175, 3) := by decide +kernel
theorem dX4_personItem_25 : decode cX4_personItem 25 = .ok (.aload_n 0, 1) := by decide +kernel
theorem dX4_personItem_26 : decode cX4_personItem 26 = .ok (.getfield 175, 3) := by decide +kernel
theorem dX4_personItem_29 : decode cX4_personItem 29 = .ok (.ifCond .eq 4, 3) := by decide +kernel
theorem dX4_personItem_32 : decode cX4_personItem 32 = .ok (.return_, 1) := by decide +kernel
theorem dX4_personItem_33 : decode cX4_personItem 33 = .ok (.aload_n 0, 1) := by decide +kernel
theorem dX4_personItem_34 : decode cX4_personItem 34 = .ok (.invokevirtual 179, 3) := by decide +kernel
theorem dX4_personItem_37 : decode cX4_personItem 37 = .ok (.aload_n 0, 1) := by decide +kernel
theorem dX4_personItem_38 : decode cX4_personItem 38 = .ok (.bipush 6, 2) := by decide +kernel
theorem dX4_personItem_40 : decode cX4_personItem 40 = .ok (.iconst 0, 1) := by decide +kernel
theorem dX4_personItem_41 : decode cX4_personItem 41 = .ok (.bipush 29, 2) := by decide +kernel
theorem dX4_personItem_43 : decode cX4_personItem 43 = .ok (.iconst 0, 1) := by decide +kernel
theorem dX4_personItem_44 : decode cX4_personItem 44 = .ok (.invokevirtual 188, 3) := by decide +kernel
theorem dX4_personItem_47 : decode cX4_personItem 47 = .ok (.istore_n 2, 1) := by decide +kernel
theorem dX4_personItem_48 : decode cX4_personItem 48 = .ok (.aload_n 0, 1) := by decide +kernel
theorem dX4_personItem_49 : decode cX4_personItem 49 = .ok (.getfield 175, 3) := by decide +kernel
theorem dX4_personItem_52 : decode cX4_personItem 52 = .ok (.ifCond .ne 10, 3) := by decide +kernel
theorem dX4_personItem_55 : decode cX4_personItem 55 = .ok (.aload_n 0, 1) := by decide +kernel
theorem dX4_personItem_56 : decode cX4_personItem 56 = .ok (.iload_n 1, 1) := by decide +kernel
theorem dX4_personItem_57 : decode cX4_personItem 57 = .ok (.iload_n 2, 1) := by decide +kernel
theorem dX4_personItem_58 : decode cX4_personItem 58 = .ok (.invokevirtual 97, 3) := by decide +kernel
theorem dX4_personItem_61 : decode cX4_personItem 61 = .ok (.istore_n 3, 1) := by decide +kernel
theorem dX4_personItem_62 : decode cX4_personItem 62 = .ok (.return_, 1) := by decide +kernel
set_option maxRecDepth 20000 in
theorem ggX4_houseItem_X4_number : GoodIn wsX4_houseItem wsX4_number := goodIn_r _ [7, 8, 1, 9, 10, 11, 6, 12, 13, 14, 15, 16, 17, 18, 19, 20, 21, 22, 23, 24, 25, 26, 27, 28, 29, 30, 31, 32, 33, 34, 35, 36, 37, 38, 39, 40, 41, 42, 43, 44, 45, 46, 47, 48] (by decide +kernel) (by decide +kernel)
set_option maxRecDepth 20000 in
theorem gX4_houseItem_X4_number : GoodIn wsX4_houseItem (wsV RX4 185 RX4 yX4_number wsX4_number) := goodIn_app (goodIn_of _ (by decide +kernel)) ggX4_houseItem_X4_number
theorem dX4_houseItem_0 : decode cX4_houseItem 0 = .ok (.aload_n 0, 1) := by decide +kernel
theorem dX4_houseItem_1 : decode cX4_houseItem 1 = .ok (.iconst 0, 1) := by decide +kernel
theorem dX4_houseItem_2 : decode cX4_houseItem 2 = .ok (.bipush 29, 2) := by decide +kernel
theorem dX4_houseItem_4 : decode cX4_houseItem 4 = .ok (.invokevirtual 185, 3) := by decide +kernel
theorem dX4_houseItem_7 : decode cX4_houseItem 7 = .ok (.istore_n 1, 1) := by decide +kernel
theorem dX4_houseItem_8 : decode cX4_houseItem 8 = .ok (.aload_n 0, 1) := by decide +kernel
theorem dX4_houseItem_9 : decode cX4_houseItem 9 = .ok (.iconst 0, 1) := by decide +kernel
theorem dX4_houseItem_10 : decode cX4_houseItem 10 = .ok (.bipush 20, 2) := by decide +kernel
theorem dX4_houseItem_12 : decode cX4_houseItem 12 = .ok (.invokevirtual 185, 3) := by decide +kernel
theorem dX4_houseItem_15 : decode cX4_houseItem 15 = .ok (.istore_n 2, 1) := by decide +kernel
theorem dX4_houseItem_16 : decode cX4_houseItem 16 = .ok (.aload_n 0, 1) := by decide +kernel
theorem dX4_houseItem_17 : decode cX4_houseItem 17 = .ok (.getfield 175, 3) := by decide +kernel
theorem dX4_houseItem_20 : decode cX4_houseItem 20 = .ok (.ifCond .ne 12, 3) := by decide +kernel
theorem dX4_houseItem_23 : decode cX4_houseItem 23 = .ok (.aload_n 0, 1) := by decide +kernel
theorem dX4_houseItem_24 : decode cX4_houseItem 24 = .ok (.getfield 9, 3) := by decide +kernel
theorem dX4_houseItem_27 : decode cX4_houseItem 27 = .ok (.iconst 5, 1) := by decide +kernel
theorem dX4_houseItem_28 : decode cX4_houseItem 28 = .ok (.iload_n 1, 1) := by decide +kernel
theorem dX4_houseItem_29 : decode cX4_houseItem 29 = .ok (.iadd, 1) := by decide +kernel
theorem dX4_houseItem_30 : decode cX4_houseItem 30 = .ok (.iload_n 2, 1) := by decide +kernel
theorem dX4_houseItem_31 : decode cX4_houseItem 31 = .ok (.iastore, 1) := by decide +kernel
theorem dX4_houseItem_32 : decode cX4_houseItem 32 = .ok (.return_, 1) := by decide +kernel
set_option maxRecDepth 20000 in
theorem ggX4_item_X4_personItem : GoodIn wsX4_item wsX4_personItem := goodIn_r _ [8, 1, 2, 3, 9, 10, 11, 7, 12, 13, 14, 15, 16, 17, 18, 19, 20, 21, 22, 23, 24, 25, 26, 27, 28, 29, 30, 31, 32, 33, 34, 35, 36, 37, 38, 39, 40, 41, 42, 43, 44, 45, 46, 47, 48, 49, 50, 51, 52, 53, 58, 59, 60, 61, 62, 63, 64, 65, 66, 67, 68, 69, 70, 71, 72] (by decide +kernel) (by decide +kernel)
set_option maxRecDepth 20000 in
theorem gX4_item_X4_personItem : GoodIn wsX4_item (wsV RX4 192 RX4 yX4_personItem wsX4_personItem) := goodIn_app (goodIn_of _ (by decide +kernel)) ggX4_item_X4_personItem
set_option maxRecDepth 20000 in
theorem ggX4_item_X4_passes : GoodIn wsX4_item wsX4_passes := goodIn_r _ [41, 3, 1, 9, 10, 11, 7, 12, 13, 14, 15, 16, 17, 18, 19, 20, 21, 22, 23, 24, 25, 26, 27, 28, 29, 30, 31, 32, 33, 58, 59, 60, 61, 62, 63, 64, 65, 66, 67, 68, 69, 70, 71, 72] (by decide +kernel) (by decide +kernel)
set_option maxRecDepth 20000 in
theorem gX4_item_X4_passes : GoodIn wsX4_item (wsV RX4 182 RX4 yX4_passes wsX4_passes) := goodIn_app (goodIn_of _ (by decide +kernel)) ggX4_item_X4_passes
set_option maxRecDepth 20000 in
theorem ggX4_item_X4_houseItem : GoodIn wsX4_item wsX4_houseItem := goodIn_r _ [57, 3, 2, 42, 43, 44, 7, 45, 15, 1, 22, 23, 24, 9, 10, 11, 12, 13, 14, 16, 17, 18, 19, 20, 21, 25, 26, 27, 28, 29, 30, 31, 32, 33, 58, 59, 60, 61, 62, 63, 64, 65, 66, 67, 68, 69, 70, 71, 72] (by decide +kernel) (by decide +kernel)
set_option maxRecDepth 20000 in
theorem gX4_item_X4_houseItem : GoodIn wsX4_item (wsV RX4 195 RX4 yX4_houseItem wsX4_houseItem) := goodIn_app (goodIn_of _ (by decide +kernel)) ggX4_item_X4_houseItem
set_option maxRecDepth 20000 in
theorem ggX4_item_X4_number : GoodIn wsX4_item wsX4_number := goodIn_r _ [45, 15, 3, 1, 22, 23, 7, 24, 9, 10, 11, 12, 13, 14, 16, 17, 18, 19, 20, 21, 25, 26, 27, 28, 29, 30, 31, 32, 33, 58, 59, 60, 61, 62, 63, 64, 65, 66, 67, 68, 69, 70, 71, 72] (by decide +kernel) (by decide +kernel)
set_option maxRecDepth 20000 in
theorem gX4_item_X4_number : GoodIn wsX4_item (wsV RX4 185 RX4 yX4_number wsX4_number) := goodIn_app (goodIn_of _ (by decide +kernel)) ggX4_item_X4_number
theorem dX4_item_0 : decode cX4_item 0 = .ok (.aload_n 0, 1) := by decide +kernel
theorem dX4_item_1 : decode cX4_item 1 = .ok (.getfield 169, 3) := by decide +kernel
theorem dX4_item_4 : decode cX4_item 4 = .ok (.iconst 5, 1) := by decide +kernel
theorem dX4_item_5 : decode cX4_item 5 = .ok (.if_icmp .gt 10, 3) := by decide +kernel
theorem dX4_item_8 : decode cX4_item 8 = .ok (.aload_n 0, 1) := by decide +kernel
theorem dX4_item_9 : decode cX4_item 9 = .ok (.invokevirtual 192, 3) := by decide +kernel
theorem dX4_item_12 : decode cX4_item 12 = .ok (.goto 98, 3) := by decide +kernel
theorem dX4_item_15 : decode cX4_item 15 = .ok (.aload_n 0, 1) := by decide +kernel
theorem dX4_item_16 : decode cX4_item 16 = .ok (.bipush 7, 2) := by decide +kernel
theorem dX4_item_18 : decode cX4_item 18 = .ok (.invokevirtual 182, 3) := by decide +kernel
theorem dX4_item_21 : decode cX4_item 21 = .ok (.ifCond .eq 10, 3) := by decide +kernel
theorem dX4_item_24 : decode cX4_item 24 = .ok (.aload_n 0, 1) := by decide +kernel
theorem dX4_item_25 : decode cX4_item 25 = .ok (.invokevirtual 195, 3) := by decide +kernel
theorem dX4_item_28 : decode cX4_item 28 = .ok (.goto 82, 3) := by decide +kernel
theorem dX4_item_31 : decode cX4_item 31 = .ok (.aload_n 0, 1) := by decide +kernel
theorem dX4_item_32 : decode cX4_item 32 = .ok (.bipush 8, 2) := by decide +kernel
theorem dX4_item_34 : decode cX4_item 34 = .ok (.invokevirtual 182, 3) := by decide +kernel
theorem dX4_item_37 : decode cX4_item 37 = .ok (.ifCond .eq 19, 3) := by decide +kernel
theorem dX4_item_40 : decode cX4_item 40 = .ok (.aload_n 0, 1) := by decide +kernel
theorem dX4_item_41 : decode cX4_item 41 = .ok (.getfield 9, 3) := by decide +kernel
theorem dX4_item_44 : decode cX4_item 44 = .ok (.iconst 1, 1) := by decide +kernel
theorem dX4_item_45 : decode cX4_item 45 = .ok (.aload_n 0, 1) := by decide +kernel
theorem dX4_item_46 : decode cX4_item 46 = .ok (.iconst 0, 1) := by decide +kernel
theorem dX4_item_47 : decode cX4_item 47 = .ok (.bipush 99, 2) := by decide +kernel
theorem dX4_item_49 : decode cX4_item 49 = .ok (.invokevirtual 185, 3) := by decide +kernel
theorem dX4_item_52 : decode cX4_item 52 = .ok (.iastore, 1) := by decide +kernel
theorem dX4_item_53 : decode cX4_item 53 = .ok (.goto 57, 3) := by decide +kernel
theorem dX4_item_56 : decode cX4_item 56 = .ok (.aload_n 0, 1) := by decide +kernel
theorem dX4_item_57 : decode cX4_item 57 = .ok (.bipush 9, 2) := by decide +kernel
theorem dX4_item_59 : decode cX4_item 59 = .ok (.invokevirtual 182, 3) := by decide +kernel
theorem dX4_item_62 : decode cX4_item 62 = .ok (.ifCond .eq 19, 3) := by decide +kernel
theorem dX4_item_65 : decode cX4_item 65 = .ok (.aload_n 0, 1) := by decide +kernel
theorem dX4_item_66 : decode cX4_item 66 = .ok (.getfield 9, 3) := by decide +kernel
theorem dX4_item_69 : decode cX4_item 69 = .ok (.iconst 2, 1) := by decide +kernel
theorem dX4_item_70 : decode cX4_item 70 = .ok (.aload_n 0, 1) := by decide +kernel
theorem dX4_item_71 : decode cX4_item 71 = .ok (.iconst 0, 1) := by decide +kernel
theorem dX4_item_72 : decode cX4_item 72 = .ok (.bipush 10, 2) := by decide +kernel
theorem dX4_item_74 : decode cX4_item 74 = .ok (.invokevirtual 185, 3) := by decide +kernel
theorem dX4_item_77 : decode cX4_item 77 = .ok (.iastore, 1) := by decide +kernel
theorem dX4_item_78 : decode cX4_item 78 = .ok (.goto 32, 3) := by decide +kernel
theorem dX4_item_81 : decode cX4_item 81 = .ok (.aload_n 0, 1) := by decide +kernel
theorem dX4_item_82 : decode cX4_item 82 = .ok (.bipush 10, 2) := by decide +kernel
theorem dX4_item_84 : decode cX4_item 84 = .ok (.invokevirtual 182, 3) := by decide +kernel
theorem dX4_item_87 : decode cX4_item 87 = .ok (.ifCond .eq 18, 3) := by decide +kernel
theorem dX4_item_90 : decode cX4_item 90 = .ok (.aload_n 0, 1) := by decide +kernel
theorem dX4_item_91 : decode cX4_item 91 = .ok (.getfield 9, 3) := by decide +kernel
theorem dX4_item_94 : decode cX4_item 94 = .ok (.iconst 3, 1) := by decide +kernel
theorem dX4_item_95 : decode cX4_item 95 = .ok (.aload_n 0, 1) := by decide +kernel
theorem dX4_item_96 : decode cX4_item 96 = .ok (.iconst 1, 1) := by decide +kernel
theorem dX4_item_97 : decode cX4_item 97 = .ok (.iconst 5, 1) := by decide +kernel
theorem dX4_item_98 : decode cX4_item 98 = .ok (.invokevirtual 185, 3) := by decide +kernel
theorem dX4_item_101 : decode cX4_item 101 = .ok (.iastore, 1) := by decide +kernel
theorem dX4_item_102 : decode cX4_item 102 = .ok (.goto 8, 3) := by decide +kernel
theorem dX4_item_105 : decode cX4_item 105 = .ok (.aload_n 0, 1) := by decide +kernel
theorem dX4_item_106 : decode cX4_item 106 = .ok (.iconst 1, 1) := by decide +kernel
theorem dX4_item_107 : decode cX4_item 107 = .ok (.putfield 175, 3) := by decide +kernel
theorem dX4_item_110 : decode cX4_item 110 = .ok (.return_, 1) := by decide +kernel
set_option maxRecDepth 20000 in
theorem ggX4_town_X4_thinks : GoodIn wsX4_town wsX4_thinks := goodIn_r _ [10, 11, 12, 13, 14, 9, 15, 74, 75, 76, 77, 78, 79, 80, 81, 82, 83, 84, 85, 86, 87, 88] (by decide +kernel) (by decide +kernel)
set_option maxRecDepth 20000 in
theorem gX4_town_X4_thinks : GoodIn wsX4_town (wsV RX4 126 RX4 yX4_thinks wsX4_thinks) := goodIn_app (goodIn_of _ (by decide +kernel)) ggX4_town_X4_thinks
set_option maxRecDepth 20000 in
theorem ggX4_town_X4_reads : GoodIn wsX4_town wsX4_reads := goodIn_r _ [19, 1, 5, 20, 4, 3, 21, 22, 23, 24, 9, 25, 26, 27, 28, 29, 30, 31, 32, 33, 34, 35, 36, 37, 74, 75, 76, 77, 78, 79, 80, 81, 82, 83, 84, 85, 86, 87, 88] (by decide +kernel) (by decide +kernel)
set_option maxRecDepth 20000 in
theorem gX4_town_X4_reads : GoodIn wsX4_town (wsV RX4 179 RX4 yX4_reads wsX4_reads) := goodIn_app (goodIn_of _ (by decide +kernel)) ggX4_town_X4_reads
set_option maxRecDepth 20000 in
theorem ggX4_town_X4_item : GoodIn wsX4_town wsX4_item := goodIn_r _ [41, 3, 11, 2, 42, 43, 44, 9, 45, 16, 17, 18, 19, 1, 5, 20, 4, 21, 22, 23, 24, 25, 26, 27, 28, 29, 30, 31, 32, 33, 34, 35, 36, 37, 46, 47, 48, 49, 50, 51, 52, 53, 54, 55, 56, 57, 58, 59, 60, 61, 62, 63, 64, 65, 66, 67, 68, 69, 74, 75, 76, 77, 78, 79, 80, 81, 82, 83, 84, 85, 86, 87, 88] (by decide +kernel) (by decide +kernel)
set_option maxRecDepth 20000 in
theorem gX4_town_X4_item : GoodIn wsX4_town (wsV RX4 198 RX4 yX4_item wsX4_item) := goodIn_app (goodIn_of _ (by decide +kernel)) ggX4_town_X4_item
set_option maxRecDepth 20000 in
theorem ggX4_town_X4_passes : GoodIn wsX4_town wsX4_passes := goodIn_r _ [53, 2, 3, 16, 17, 18, 9, 19, 1, 5, 20, 4, 21, 22, 23, 24, 25, 26, 27, 28, 29, 30, 31, 32, 33, 34, 35, 36, 37, 74, 75, 76, 77, 78, 79, 80, 81, 82, 83, 84, 85, 86, 87, 88] (by decide +kernel) (by decide +kernel)
set_option maxRecDepth 20000 in
theorem gX4_town_X4_passes : GoodIn wsX4_town (wsV RX4 182 RX4 yX4_passes wsX4_passes) := goodIn_app (goodIn_of _ (by decide +kernel)) ggX4_town_X4_passes
set_option maxRecDepth 20000 in
theorem ggX4_town_X4_putsBack : GoodIn wsX4_town wsX4_putsBack := goodIn_r _ [73, 12, 11, 13, 14, 9, 15, 74, 75, 76, 77, 78, 79, 80, 81, 82, 83, 84, 85, 86, 87, 88] (by decide +kernel) (by decide +kernel)
set_option maxRecDepth 20000 in
theorem gX4_town_X4_putsBack : GoodIn wsX4_town (wsV RX4 129 RX4 yX4_putsBack wsX4_putsBack) := goodIn_app (goodIn_of _ (by decide +kernel)) ggX4_town_X4_putsBack
theorem dX4_town_0 : decode cX4_town 0 = .ok (.aload_n 0, 1) := by decide +kernel
theorem dX4_town_1 : decode cX4_town 1 = .ok (.invokevirtual 126, 3) := by decide +kernel
theorem dX4_town_4 : decode cX4_town 4 = .ok (.aload_n 0, 1) := by decide +kernel
theorem dX4_town_5 : decode cX4_town 5 = .ok (.iconst 0, 1) := by decide +kernel
theorem dX4_town_6 : decode cX4_town 6 = .ok (.putfield 155, 3) := by decide +kernel
theorem dX4_town_9 : decode cX4_town 9 = .ok (.aload_n 0, 1) := by decide +kernel
theorem dX4_town_10 : decode cX4_town 10 = .ok (.iconst 0, 1) := by decide +kernel
theorem dX4_town_11 : decode cX4_town 11 = .ok (.putfield 175, 3) := by decide +kernel
theorem dX4_town_14 : decode cX4_town 14 = .ok (.aload_n 0, 1) := by decide +kernel
theorem dX4_town_15 : decode cX4_town 15 = .ok (.invokevirtual 179, 3) := by decide +kernel
theorem dX4_town_18 : decode cX4_town 18 = .ok (.aload_n 0, 1) := by decide +kernel
theorem dX4_town_19 : decode cX4_town 19 = .ok (.invokevirtual 198, 3) := by decide +kernel
theorem dX4_town_22 : decode cX4_town 22 = .ok (.iconst 1, 1) := by decide +kernel
theorem dX4_town_23 : decode cX4_town 23 = .ok (.istore_n 1, 1) := by decide +kernel
theorem dX4_town_24 : decode cX4_town 24 = .ok (.aload_n 0, 1) := by decide +kernel
theorem dX4_town_25 : decode cX4_town 25 = .ok (.bipush 21, 2) := by decide +kernel
theorem dX4_town_27 : decode cX4_town 27 = .ok (.invokevirtual 182, 3) := by decide +kernel
theorem dX4_town_30 : decode cX4_town 30 = .ok (.ifCond .eq 13, 3) := by decide +kernel
theorem dX4_town_33 : decode cX4_town 33 = .ok (.aload_n 0, 1) := by decide +kernel
theorem dX4_town_34 : decode cX4_town 34 = .ok (.invokevirtual 198, 3) := by decide +kernel
theorem dX4_town_37 : decode cX4_town 37 = .ok (.iinc 1 1, 3) := by decide +kernel
theorem dX4_town_40 : decode cX4_town 40 = .ok (.goto (-16), 3) := by decide +kernel
theorem dX4_town_43 : decode cX4_town 43 = .ok (.aload_n 0, 1) := by decide +kernel
theorem dX4_town_44 : decode cX4_town 44 = .ok (.aload_n 0, 1) := by decide +kernel
theorem dX4_town_45 : decode cX4_town 45 = .ok (.getfield 175, 3) := by decide +kernel
theorem dX4_town_48 : decode cX4_town 48 = .ok (.ifCond .ne 12, 3) := by decide +kernel
theorem dX4_town_51 : decode cX4_town 51 = .ok (.aload_n 0, 1) := by decide +kernel
theorem dX4_town_52 : decode cX4_town 52 = .ok (.getfield 169, 3) := by decide +kernel
theorem dX4_town_55 : decode cX4_town 55 = .ok (.bipush 22, 2) := by decide +kernel
theorem dX4_town_57 : decode cX4_town 57 = .ok (.if_icmp .eq 7, 3) := by decide +kernel
theorem dX4_town_60 : decode cX4_town 60 = .ok (.iconst 1, 1) := by decide +kernel
theorem dX4_town_61 : decode cX4_town 61 = .ok (.goto 4, 3) := by decide +kernel
theorem dX4_town_64 : decode cX4_town 64 = .ok (.iconst 0, 1) := by decide +kernel
theorem dX4_town_65 : decode cX4_town 65 = .ok (.putfield 175, 3) := by decide +kernel
theorem dX4_town_68 : decode cX4_town 68 = .ok (.aload_n 0, 1) := by decide +kernel
theorem dX4_town_69 : decode cX4_town 69 = .ok (.iconst 0, 1) := by decide +kernel
theorem dX4_town_70 : decode cX4_town 70 = .ok (.putfield 145, 3) := by decide +kernel
theorem dX4_town_73 : decode cX4_town 73 = .ok (.aload_n 0, 1) := by decide +kernel
theorem dX4_town_74 : decode cX4_town 74 = .ok (.getfield 175, 3) := by decide +kernel
theorem dX4_town_77 : decode cX4_town 77 = .ok (.ifCond .ne 5, 3) := by decide +kernel
theorem dX4_town_80 : decode cX4_town 80 = .ok (.iload_n 1, 1) := by decide +kernel
theorem dX4_town_81 : decode cX4_town 81 = .ok (.ireturn, 1) := by decide +kernel
theorem dX4_town_82 : decode cX4_town 82 = .ok (.aload_n 0, 1) := by decide +kernel
theorem dX4_town_83 : decode cX4_town 83 = .ok (.invokevirtual 129, 3) := by decide +kernel
theorem dX4_town_86 : decode cX4_town 86 = .ok (.iconst (-1), 1) := by decide +kernel
theorem dX4_town_87 : decode cX4_town 87 = .ok (.aload_n 0, 1) := by decide +kernel
theorem dX4_town_88 : decode cX4_town 88 = .ok (.getfield 152, 3) := by decide +kernel
theorem dX4_town_91 : decode cX4_town 91 = .ok (.isub, 1) := by decide +kernel
theorem dX4_town_92 : decode cX4_town 92 = .ok (.ireturn, 1) := by decide +kernel
set_option maxRecDepth 20000 in
theorem ggX4_isSheet_X4_in : GoodIn wsX4_isSheet wsX4_in := goodIn_r _ [4] (by decide +kernel) (by decide +kernel)
set_option maxRecDepth 20000 in
theorem gX4_isSheet_X4_in : GoodIn wsX4_isSheet (va_wsS RX4 41 yX4_in wsX4_in) := goodIn_app (goodIn_of _ (by decide +kernel)) ggX4_isSheet_X4_in
theorem dX4_isSheet_0 : decode cX4_isSheet 0 = .ok (.iload_n 0, 1) := by decide +kernel
theorem dX4_isSheet_1 : decode cX4_isSheet 1 = .ok (.i2l, 1) := by decide +kernel
theorem dX4_isSheet_2 : decode cX4_isSheet 2 = .ok (.iconst 0, 1) := by decide +kernel
theorem dX4_isSheet_3 : decode cX4_isSheet 3 = .ok (.iconst 3, 1) := by decide +kernel
theorem dX4_isSheet_4 : decode cX4_isSheet 4 = .ok (.invokestatic 41, 3) := by decide +kernel
theorem dX4_isSheet_7 : decode cX4_isSheet 7 = .ok (.ireturn, 1) := by decide +kernel
set_option maxRecDepth 20000 in
theorem ggX4_sheet_X4_isSheet : GoodIn wsX4_sheet wsX4_isSheet := goodIn_r _ [9, 10, 11, 8, 12] (by decide +kernel) (by decide +kernel)
set_option maxRecDepth 20000 in
theorem gX4_sheet_X4_isSheet : GoodIn wsX4_sheet (va_wsS RX4 201 yX4_isSheet wsX4_isSheet) := goodIn_app (goodIn_of _ (by decide +kernel)) ggX4_sheet_X4_isSheet
set_option maxRecDepth 20000 in
theorem ggX4_sheet_X4_finds : GoodIn wsX4_sheet wsX4_finds := goodIn_r _ [16, 17, 1, 18, 19, 20, 21, 22, 23, 24, 25, 26, 27, 28, 29, 30, 31, 32] (by decide +kernel) (by decide +kernel)
set_option maxRecDepth 20000 in
theorem gX4_sheet_X4_finds : GoodIn wsX4_sheet (wsV RX4 37 RX4 yX4_finds wsX4_finds) := goodIn_app (goodIn_of _ (by decide +kernel)) ggX4_sheet_X4_finds
theorem dX4_sheet_0 : decode cX4_sheet 0 = .ok (.iload_n 1, 1) := by decide +kernel
theorem dX4_sheet_1 : decode cX4_sheet 1 = .ok (.invokestatic 201, 3) := by decide +kernel
theorem dX4_sheet_4 : decode cX4_sheet 4 = .ok (.ifCond .eq 25, 3) := by decide +kernel
theorem dX4_sheet_7 : decode cX4_sheet 7 = .ok (.iload_n 2, 1) := by decide +kernel
theorem dX4_sheet_8 : decode cX4_sheet 8 = .ok (.ifCond .eq 28, 3) := by decide +kernel
theorem dX4_sheet_11 : decode cX4_sheet 11 = .ok (.iload_n 2, 1) := by decide +kernel
theorem dX4_sheet_12 : decode cX4_sheet 12 = .ok (.bipush 8, 2) := by decide +kernel
theorem dX4_sheet_14 : decode cX4_sheet 14 = .ok (.if_icmp .eq 22, 3) := by decide +kernel
theorem dX4_sheet_17 : decode cX4_sheet 17 = .ok (.iload_n 2, 1) := by decide +kernel
theorem dX4_sheet_18 : decode cX4_sheet 18 = .ok (.bipush 16, 2) := by decide +kernel
theorem dX4_sheet_20 : decode cX4_sheet 20 = .ok (.if_icmp .eq 16, 3) := by decide +kernel
theorem dX4_sheet_23 : decode cX4_sheet 23 = .ok (.iload_n 2, 1) := by decide +kernel
theorem dX4_sheet_24 : decode cX4_sheet 24 = .ok (.bipush 64, 2) := by decide +kernel
theorem dX4_sheet_26 : decode cX4_sheet 26 = .ok (.if_icmp .eq 10, 3) := by decide +kernel
theorem dX4_sheet_29 : decode cX4_sheet 29 = .ok (.aload_n 0, 1) := by decide +kernel
theorem dX4_sheet_30 : decode cX4_sheet 30 = .ok (.ldc 35, 2) := by decide +kernel
theorem dX4_sheet_32 : decode cX4_sheet 32 = .ok (.invokevirtual 37, 3) := by decide +kernel
theorem dX4_sheet_35 : decode cX4_sheet 35 = .ok (.ireturn, 1) := by decide +kernel
theorem dX4_sheet_36 : decode cX4_sheet 36 = .ok (.iload_n 3, 1) := by decide +kernel
theorem dX4_sheet_37 : decode cX4_sheet 37 = .ok (.ifCond .ge 10, 3) := by decide +kernel
theorem dX4_sheet_40 : decode cX4_sheet 40 = .ok (.aload_n 0, 1) := by decide +kernel
theorem dX4_sheet_41 : decode cX4_sheet 41 = .ok (.ldc 204, 2) := by decide +kernel
theorem dX4_sheet_43 : decode cX4_sheet 43 = .ok (.invokevirtual 37, 3) := by decide +kernel
theorem dX4_sheet_46 : decode cX4_sheet 46 = .ok (.ireturn, 1) := by decide +kernel
theorem dX4_sheet_47 : decode cX4_sheet 47 = .ok (.iload_n 3, 1) := by decide +kernel
theorem dX4_sheet_48 : decode cX4_sheet 48 = .ok (.bipush 40, 2) := by decide +kernel
theorem dX4_sheet_50 : decode cX4_sheet 50 = .ok (.if_icmp .le 10, 3) := by decide +kernel
theorem dX4_sheet_53 : decode cX4_sheet 53 = .ok (.aload_n 0, 1) := by decide +kernel
theorem dX4_sheet_54 : decode cX4_sheet 54 = .ok (.ldc 35, 2) := by decide +kernel
theorem dX4_sheet_56 : decode cX4_sheet 56 = .ok (.invokevirtual 37, 3) := by decide +kernel
theorem dX4_sheet_59 : decode cX4_sheet 59 = .ok (.ireturn, 1) := by decide +kernel
theorem dX4_sheet_60 : decode cX4_sheet 60 = .ok (.aload_n 0, 1) := by decide +kernel
theorem dX4_sheet_61 : decode cX4_sheet 61 = .ok (.getfield 25, 3) := by decide +kernel
theorem dX4_sheet_64 : decode cX4_sheet 64 = .ok (.iload_n 1, 1) := by decide +kernel
theorem dX4_sheet_65 : decode cX4_sheet 65 = .ok (.iload_n 2, 1) := by decide +kernel
theorem dX4_sheet_66 : decode cX4_sheet 66 = .ok (.iastore, 1) := by decide +kernel
theorem dX4_sheet_67 : decode cX4_sheet 67 = .ok (.aload_n 0, 1) := by decide +kernel
theorem dX4_sheet_68 : decode cX4_sheet 68 = .ok (.getfield 28, 3) := by decide +kernel
theorem dX4_sheet_71 : decode cX4_sheet 71 = .ok (.iload_n 1, 1) := by decide +kernel
theorem dX4_sheet_72 : decode cX4_sheet 72 = .ok (.iload_n 2, 1) := by decide +kernel
theorem dX4_sheet_73 : decode cX4_sheet 73 = .ok (.ifCond .ne 7, 3) := by decide +kernel
theorem dX4_sheet_76 : decode cX4_sheet 76 = .ok (.iconst 0, 1) := by decide +kernel
theorem dX4_sheet_77 : decode cX4_sheet 77 = .ok (.goto 4, 3) := by decide +kernel
theorem dX4_sheet_80 : decode cX4_sheet 80 = .ok (.iload_n 3, 1) := by decide +kernel
theorem dX4_sheet_81 : decode cX4_sheet 81 = .ok (.iastore, 1) := by decide +kernel
theorem dX4_sheet_82 : decode cX4_sheet 82 = .ok (.iconst 0, 1) := by decide +kernel
theorem dX4_sheet_83 : decode cX4_sheet 83 = .ok (.istore 4, 2) := by decide +kernel
theorem dX4_sheet_85 : decode cX4_sheet 85 = .ok (.iload 4, 2) := by decide +kernel
theorem dX4_sheet_87 : decode cX4_sheet 87 = .ok (.bipush 40, 2) := by decide +kernel
theorem dX4_sheet_89 : decode cX4_sheet 89 = .ok (.if_icmp .ge 22, 3) := by decide +kernel
theorem dX4_sheet_92 : decode cX4_sheet 92 = .ok (.aload_n 0, 1) := by decide +kernel
theorem dX4_sheet_93 : decode cX4_sheet 93 = .ok (.getfield 31, 3) := by decide +kernel
theorem dX4_sheet_96 : decode cX4_sheet 96 = .ok (.bipush 40, 2) := by decide +kernel
theorem dX4_sheet_98 : decode cX4_sheet 98 = .ok (.iload_n 1, 1) := by decide +kernel
theorem dX4_sheet_99 : decode cX4_sheet 99 = .ok (.imul, 1) := by decide +kernel
theorem dX4_sheet_100 : decode cX4_sheet 100 = .ok (.iload 4, 2) := by decide +kernel
theorem dX4_sheet_102 : decode cX4_sheet 102 = .ok (.iadd, 1) := by decide +kernel
theorem dX4_sheet_103 : decode cX4_sheet 103 = .ok (.lconst 0, 1) := by decide +kernel
theorem dX4_sheet_104 : decode cX4_sheet 104 = .ok (.lastore, 1) := by decide +kernel
theorem dX4_sheet_105 : decode cX4_sheet 105 = .ok (.iinc 4 1, 3) := by decide +kernel
theorem dX4_sheet_108 : decode cX4_sheet 108 = .ok (.goto (-23), 3) := by decide +kernel
theorem dX4_sheet_111 : decode cX4_sheet 111 = .ok (.aload_n 0, 1) := by decide +kernel
theorem dX4_sheet_112 : decode cX4_sheet 112 = .ok (.getfield 28, 3) := by decide +kernel
theorem dX4_sheet_115 : decode cX4_sheet 115 = .ok (.iload_n 1, 1) := by decide +kernel
theorem dX4_sheet_116 : decode cX4_sheet 116 = .ok (.iaload, 1) := by decide +kernel
theorem dX4_sheet_117 : decode cX4_sheet 117 = .ok (.ireturn, 1) := by decide +kernel
set_option maxRecDepth 20000 in
theorem ggX4_notThere_X4_isSheet : GoodIn wsX4_notThere wsX4_isSheet := goodIn_r _ [7, 8, 9, 6, 10] (by decide +kernel) (by decide +kernel)
set_option maxRecDepth 20000 in
theorem gX4_notThere_X4_isSheet : GoodIn wsX4_notThere (va_wsS RX4 201 yX4_isSheet wsX4_isSheet) := goodIn_app (goodIn_of _ (by decide +kernel)) ggX4_notThere_X4_isSheet
theorem dX4_notThere_0 : decode cX4_notThere 0 = .ok (.iload_n 1, 1) := by decide +kernel
theorem dX4_notThere_1 : decode cX4_notThere 1 = .ok (.invokestatic 201, 3) := by decide +kernel
theorem dX4_notThere_4 : decode cX4_notThere 4 = .ok (.ifCond .ne 8, 3) := by decide +kernel
theorem dX4_notThere_7 : decode cX4_notThere 7 = .ok (.ldc 35, 2) := by decide +kernel
theorem dX4_notThere_9 : decode cX4_notThere 9 = .ok (.goto 18, 3) := by decide +kernel
theorem dX4_notThere_12 : decode cX4_notThere 12 = .ok (.aload_n 0, 1) := by decide +kernel
theorem dX4_notThere_13 : decode cX4_notThere 13 = .ok (.getfield 25, 3) := by decide +kernel
theorem dX4_notThere_16 : decode cX4_notThere 16 = .ok (.iload_n 1, 1) := by decide +kernel
theorem dX4_notThere_17 : decode cX4_notThere 17 = .ok (.iaload, 1) := by decide +kernel
theorem dX4_notThere_18 : decode cX4_notThere 18 = .ok (.ifCond .ne 8, 3) := by decide +kernel
theorem dX4_notThere_21 : decode cX4_notThere 21 = .ok (.ldc 205, 2) := by decide +kernel
theorem dX4_notThere_23 : decode cX4_notThere 23 = .ok (.goto 4, 3) := by decide +kernel
theorem dX4_notThere_26 : decode cX4_notThere 26 = .ok (.iconst 0, 1) := by decide +kernel
theorem dX4_notThere_27 : decode cX4_notThere 27 = .ok (.ireturn, 1) := by decide +kernel
theorem dX4_cutTo_0 : decode cX4_cutTo 0 = .ok (.iload_n 0, 1) := by decide +kernel
theorem dX4_cutTo_1 : decode cX4_cutTo 1 = .ok (.bipush 8, 2) := by decide +kernel
theorem dX4_cutTo_3 : decode cX4_cutTo 3 = .ok (.if_icmp .ne 10, 3) := by decide +kernel
theorem dX4_cutTo_6 : decode cX4_cutTo 6 = .ok (.lload_n 1, 1) := by decide +kernel
theorem dX4_cutTo_7 : decode cX4_cutTo 7 = .ok (.l2i, 1) := by decide +kernel
theorem dX4_cutTo_8 : decode cX4_cutTo 8 = .ok (.i2b, 1) := by decide +kernel
theorem dX4_cutTo_9 : decode cX4_cutTo 9 = .ok (.i2l, 1) := by decide +kernel
theorem dX4_cutTo_10 : decode cX4_cutTo 10 = .ok (.goto 17, 3) := by decide +kernel
theorem dX4_cutTo_13 : decode cX4_cutTo 13 = .ok (.iload_n 0, 1) := by decide +kernel
theorem dX4_cutTo_14 : decode cX4_cutTo 14 = .ok (.bipush 16, 2) := by decide +kernel
theorem dX4_cutTo_16 : decode cX4_cutTo 16 = .ok (.if_icmp .ne 10, 3) := by decide +kernel
theorem dX4_cutTo_19 : decode cX4_cutTo 19 = .ok (.lload_n 1, 1) := by decide +kernel
theorem dX4_cutTo_20 : decode cX4_cutTo 20 = .ok (.l2i, 1) := by decide +kernel
theorem dX4_cutTo_21 : decode cX4_cutTo 21 = .ok (.i2s, 1) := by decide +kernel
theorem dX4_cutTo_22 : decode cX4_cutTo 22 = .ok (.i2l, 1) := by decide +kernel
theorem dX4_cutTo_23 : decode cX4_cutTo 23 = .ok (.goto 4, 3) := by decide +kernel
theorem dX4_cutTo_26 : decode cX4_cutTo 26 = .ok (.lload_n 1, 1) := by decide +kernel
theorem dX4_cutTo_27 : decode cX4_cutTo 27 = .ok (.lreturn, 1) := by decide +kernel
set_option maxRecDepth 20000 in
theorem ggX4_write_X4_notThere : GoodIn wsX4_write wsX4_notThere := goodIn_r _ [9, 2, 4, 10, 11, 12, 8, 13, 14, 15, 16, 25, 26, 27, 28, 29, 30, 31, 32, 33, 34, 35, 36, 37, 38, 39] (by decide +kernel) (by decide +kernel)
set_option maxRecDepth 20000 in
theorem gX4_write_X4_notThere : GoodIn wsX4_write (wsV RX4 206 RX4 yX4_notThere wsX4_notThere) := goodIn_app (goodIn_of _ (by decide +kernel)) ggX4_write_X4_notThere
set_option maxRecDepth 20000 in
theorem ggX4_write_X4_in : GoodIn wsX4_write wsX4_in := goodIn_r _ [16] (by decide +kernel) (by decide +kernel)
set_option maxRecDepth 20000 in
theorem gX4_write_X4_in : GoodIn wsX4_write (va_wsS RX4 41 yX4_in wsX4_in) := goodIn_app (goodIn_of _ (by decide +kernel)) ggX4_write_X4_in
set_option maxRecDepth 20000 in
theorem ggX4_write_X4_finds : GoodIn wsX4_write wsX4_finds := goodIn_r _ [20, 21, 2, 25, 26, 27, 28, 29, 30, 31, 32, 33, 34, 35, 36, 37, 38, 39] (by decide +kernel) (by decide +kernel)
set_option maxRecDepth 20000 in
theorem gX4_write_X4_finds : GoodIn wsX4_write (wsV RX4 37 RX4 yX4_finds wsX4_finds) := goodIn_app (goodIn_of _ (by decide +kernel)) ggX4_write_X4_finds
set_option maxRecDepth 20000 in
theorem ggX4_write_X4_cutTo : GoodIn wsX4_write wsX4_cutTo := goodIn_r _ [24] (by decide +kernel) (by decide +kernel)
set_option maxRecDepth 20000 in
theorem gX4_write_X4_cutTo : GoodIn wsX4_write (va_wsS RX4 209 yX4_cutTo wsX4_cutTo) := goodIn_app (goodIn_of _ (by decide +kernel)) ggX4_write_X4_cutTo
theorem dX4_write_0 : decode cX4_write 0 = .ok (.aload_n 0, 1) := by decide +kernel
theorem dX4_write_1 : decode cX4_write 1 = .ok (.iload_n 1, 1) := by decide +kernel
theorem dX4_write_2 : decode cX4_write 2 = .ok (.invokevirtual 206, 3) := by decide +kernel
theorem dX4_write_5 : decode cX4_write 5 = .ok (.istore 5, 2) := by decide +kernel
theorem dX4_write_7 : decode cX4_write 7 = .ok (.iload 5, 2) := by decide +kernel
theorem dX4_write_9 : decode cX4_write 9 = .ok (.ifCond .ne 24, 3) := by decide +kernel
theorem dX4_write_12 : decode cX4_write 12 = .ok (.iload_n 2, 1) := by decide +kernel
theorem dX4_write_13 : decode cX4_write 13 = .ok (.i2l, 1) := by decide +kernel
theorem dX4_write_14 : decode cX4_write 14 = .ok (.iconst 0, 1) := by decide +kernel
theorem dX4_write_15 : decode cX4_write 15 = .ok (.aload_n 0, 1) := by decide +kernel
theorem dX4_write_16 : decode cX4_write 16 = .ok (.getfield 28, 3) := by decide +kernel
theorem dX4_write_19 : decode cX4_write 19 = .ok (.iload_n 1, 1) := by decide +kernel
theorem dX4_write_20 : decode cX4_write 20 = .ok (.iaload, 1) := by decide +kernel
theorem dX4_write_21 : decode cX4_write 21 = .ok (.iconst 1, 1) := by decide +kernel
theorem dX4_write_22 : decode cX4_write 22 = .ok (.isub, 1) := by decide +kernel
theorem dX4_write_23 : decode cX4_write 23 = .ok (.invokestatic 41, 3) := by decide +kernel
theorem dX4_write_26 : decode cX4_write 26 = .ok (.ifCond .ne 7, 3) := by decide +kernel
theorem dX4_write_29 : decode cX4_write 29 = .ok (.ldc 35, 2) := by decide +kernel
theorem dX4_write_31 : decode cX4_write 31 = .ok (.istore 5, 2) := by decide +kernel
theorem dX4_write_33 : decode cX4_write 33 = .ok (.iload 5, 2) := by decide +kernel
theorem dX4_write_35 : decode cX4_write 35 = .ok (.ifCond .eq 11, 3) := by decide +kernel
theorem dX4_write_38 : decode cX4_write 38 = .ok (.aload_n 0, 1) := by decide +kernel
theorem dX4_write_39 : decode cX4_write 39 = .ok (.iload 5, 2) := by decide +kernel
theorem dX4_write_41 : decode cX4_write 41 = .ok (.invokevirtual 37, 3) := by decide +kernel
theorem dX4_write_44 : decode cX4_write 44 = .ok (.i2l, 1) := by decide +kernel
theorem dX4_write_45 : decode cX4_write 45 = .ok (.lreturn, 1) := by decide +kernel
theorem dX4_write_46 : decode cX4_write 46 = .ok (.aload_n 0, 1) := by decide +kernel
theorem dX4_write_47 : decode cX4_write 47 = .ok (.getfield 31, 3) := by decide +kernel
theorem dX4_write_50 : decode cX4_write 50 = .ok (.bipush 40, 2) := by decide +kernel
theorem dX4_write_52 : decode cX4_write 52 = .ok (.iload_n 1, 1) := by decide +kernel
theorem dX4_write_53 : decode cX4_write 53 = .ok (.imul, 1) := by decide +kernel
theorem dX4_write_54 : decode cX4_write 54 = .ok (.iload_n 2, 1) := by decide +kernel
theorem dX4_write_55 : decode cX4_write 55 = .ok (.iadd, 1) := by decide +kernel
theorem dX4_write_56 : decode cX4_write 56 = .ok (.laload, 1) := by decide +kernel
theorem dX4_write_57 : decode cX4_write 57 = .ok (.lstore 6, 2) := by decide +kernel
theorem dX4_write_59 : decode cX4_write 59 = .ok (.aload_n 0, 1) := by decide +kernel
theorem dX4_write_60 : decode cX4_write 60 = .ok (.getfield 31, 3) := by decide +kernel
theorem dX4_write_63 : decode cX4_write 63 = .ok (.bipush 40, 2) := by decide +kernel
theorem dX4_write_65 : decode cX4_write 65 = .ok (.iload_n 1, 1) := by decide +kernel
theorem dX4_write_66 : decode cX4_write 66 = .ok (.imul, 1) := by decide +kernel
theorem dX4_write_67 : decode cX4_write 67 = .ok (.iload_n 2, 1) := by decide +kernel
theorem dX4_write_68 : decode cX4_write 68 = .ok (.iadd, 1) := by decide +kernel
theorem dX4_write_69 : decode cX4_write 69 = .ok (.aload_n 0, 1) := by decide +kernel
theorem dX4_write_70 : decode cX4_write 70 = .ok (.getfield 25, 3) := by decide +kernel
theorem dX4_write_73 : decode cX4_write 73 = .ok (.iload_n 1, 1) := by decide +kernel
theorem dX4_write_74 : decode cX4_write 74 = .ok (.iaload, 1) := by decide +kernel
theorem dX4_write_75 : decode cX4_write 75 = .ok (.lload_n 3, 1) := by decide +kernel
theorem dX4_write_76 : decode cX4_write 76 = .ok (.invokestatic 209, 3) := by decide +kernel
theorem dX4_write_79 : decode cX4_write 79 = .ok (.lastore, 1) := by decide +kernel
theorem dX4_write_80 : decode cX4_write 80 = .ok (.lload 6, 2) := by decide +kernel
theorem dX4_write_82 : decode cX4_write 82 = .ok (.lreturn, 1) := by decide +kernel
set_option maxRecDepth 20000 in
theorem ggX4_notCopied_X4_isSheet : GoodIn wsX4_notCopied wsX4_isSheet := goodIn_r _ [9, 10, 11, 8, 12] (by decide +kernel) (by decide +kernel)
set_option maxRecDepth 20000 in
theorem gX4_notCopied_X4_isSheet : GoodIn wsX4_notCopied (va_wsS RX4 201 yX4_isSheet wsX4_isSheet) := goodIn_app (goodIn_of _ (by decide +kernel)) ggX4_notCopied_X4_isSheet
theorem dX4_notCopied_0 : decode cX4_notCopied 0 = .ok (.iload_n 1, 1) := by decide +kernel
theorem dX4_notCopied_1 : decode cX4_notCopied 1 = .ok (.invokestatic 201, 3) := by decide +kernel
theorem dX4_notCopied_4 : decode cX4_notCopied 4 = .ok (.ifCond .eq 10, 3) := by decide +kernel
theorem dX4_notCopied_7 : decode cX4_notCopied 7 = .ok (.iload_n 3, 1) := by decide +kernel
theorem dX4_notCopied_8 : decode cX4_notCopied 8 = .ok (.invokestatic 201, 3) := by decide +kernel
theorem dX4_notCopied_11 : decode cX4_notCopied 11 = .ok (.ifCond .ne 6, 3) := by decide +kernel
theorem dX4_notCopied_14 : decode cX4_notCopied 14 = .ok (.ldc 35, 2) := by decide +kernel
theorem dX4_notCopied_16 : decode cX4_notCopied 16 = .ok (.ireturn, 1) := by decide +kernel
theorem dX4_notCopied_17 : decode cX4_notCopied 17 = .ok (.aload_n 0, 1) := by decide +kernel
theorem dX4_notCopied_18 : decode cX4_notCopied 18 = .ok (.getfield 25, 3) := by decide +kernel
theorem dX4_notCopied_21 : decode cX4_notCopied 21 = .ok (.iload_n 1, 1) := by decide +kernel
theorem dX4_notCopied_22 : decode cX4_notCopied 22 = .ok (.iaload, 1) := by decide +kernel
theorem dX4_notCopied_23 : decode cX4_notCopied 23 = .ok (.ifCond .eq 12, 3) := by decide +kernel
theorem dX4_notCopied_26 : decode cX4_notCopied 26 = .ok (.aload_n 0, 1) := by decide +kernel
theorem dX4_notCopied_27 : decode cX4_notCopied 27 = .ok (.getfield 25, 3) := by decide +kernel
theorem dX4_notCopied_30 : decode cX4_notCopied 30 = .ok (.iload_n 3, 1) := by decide +kernel
theorem dX4_notCopied_31 : decode cX4_notCopied 31 = .ok (.iaload, 1) := by decide +kernel
theorem dX4_notCopied_32 : decode cX4_notCopied 32 = .ok (.ifCond .ne 6, 3) := by decide +kernel
theorem dX4_notCopied_35 : decode cX4_notCopied 35 = .ok (.ldc 205, 2) := by decide +kernel
theorem dX4_notCopied_37 : decode cX4_notCopied 37 = .ok (.ireturn, 1) := by decide +kernel
theorem dX4_notCopied_38 : decode cX4_notCopied 38 = .ok (.aload_n 0, 1) := by decide +kernel
theorem dX4_notCopied_39 : decode cX4_notCopied 39 = .ok (.getfield 25, 3) := by decide +kernel
theorem dX4_notCopied_42 : decode cX4_notCopied 42 = .ok (.iload_n 1, 1) := by decide +kernel
theorem dX4_notCopied_43 : decode cX4_notCopied 43 = .ok (.iaload, 1) := by decide +kernel
theorem dX4_notCopied_44 : decode cX4_notCopied 44 = .ok (.aload_n 0, 1) := by decide +kernel
theorem dX4_notCopied_45 : decode cX4_notCopied 45 = .ok (.getfield 25, 3) := by decide +kernel
theorem dX4_notCopied_48 : decode cX4_notCopied 48 = .ok (.iload_n 3, 1) := by decide +kernel
theorem dX4_notCopied_49 : decode cX4_notCopied 49 = .ok (.iaload, 1) := by decide +kernel
theorem dX4_notCopied_50 : decode cX4_notCopied 50 = .ok (.if_icmp .eq 6, 3) := by decide +kernel
theorem dX4_notCopied_53 : decode cX4_notCopied 53 = .ok (.ldc 109, 2) := by decide +kernel
theorem dX4_notCopied_55 : decode cX4_notCopied 55 = .ok (.ireturn, 1) := by decide +kernel
theorem dX4_notCopied_56 : decode cX4_notCopied 56 = .ok (.iload 5, 2) := by decide +kernel
theorem dX4_notCopied_58 : decode cX4_notCopied 58 = .ok (.ifCond .lt 43, 3) := by decide +kernel
theorem dX4_notCopied_61 : decode cX4_notCopied 61 = .ok (.iload_n 2, 1) := by decide +kernel
theorem dX4_notCopied_62 : decode cX4_notCopied 62 = .ok (.ifCond .lt 39, 3) := by decide +kernel
theorem dX4_notCopied_65 : decode cX4_notCopied 65 = .ok (.iload 4, 2) := by decide +kernel
theorem dX4_notCopied_67 : decode cX4_notCopied 67 = .ok (.ifCond .lt 34, 3) := by decide +kernel
theorem dX4_notCopied_70 : decode cX4_notCopied 70 = .ok (.iload 5, 2) := by decide +kernel
theorem dX4_notCopied_72 : decode cX4_notCopied 72 = .ok (.aload_n 0, 1) := by decide +kernel
theorem dX4_notCopied_73 : decode cX4_notCopied 73 = .ok (.getfield 28, 3) := by decide +kernel
theorem dX4_notCopied_76 : decode cX4_notCopied 76 = .ok (.iload_n 1, 1) := by decide +kernel
theorem dX4_notCopied_77 : decode cX4_notCopied 77 = .ok (.iaload, 1) := by decide +kernel
theorem dX4_notCopied_78 : decode cX4_notCopied 78 = .ok (.iload_n 2, 1) := by decide +kernel
theorem dX4_notCopied_79 : decode cX4_notCopied 79 = .ok (.isub, 1) := by decide +kernel
theorem dX4_notCopied_80 : decode cX4_notCopied 80 = .ok (.if_icmp .gt 21, 3) := by decide +kernel
theorem dX4_notCopied_83 : decode cX4_notCopied 83 = .ok (.iload 5, 2) := by decide +kernel
theorem dX4_notCopied_85 : decode cX4_notCopied 85 = .ok (.aload_n 0, 1) := by decide +kernel
theorem dX4_notCopied_86 : decode cX4_notCopied 86 = .ok (.getfield 28, 3) := by decide +kernel
theorem dX4_notCopied_89 : decode cX4_notCopied 89 = .ok (.iload_n 3, 1) := by decide +kernel
theorem dX4_notCopied_90 : decode cX4_notCopied 90 = .ok (.iaload, 1) := by decide +kernel
theorem dX4_notCopied_91 : decode cX4_notCopied 91 = .ok (.iload 4, 2) := by decide +kernel
theorem dX4_notCopied_93 : decode cX4_notCopied 93 = .ok (.isub, 1) := by decide +kernel
theorem dX4_notCopied_94 : decode cX4_notCopied 94 = .ok (.if_icmp .gt 7, 3) := by decide +kernel
theorem dX4_notCopied_97 : decode cX4_notCopied 97 = .ok (.iconst 1, 1) := by decide +kernel
theorem dX4_notCopied_98 : decode cX4_notCopied 98 = .ok (.goto 4, 3) := by decide +kernel
theorem dX4_notCopied_101 : decode cX4_notCopied 101 = .ok (.iconst 0, 1) := by decide +kernel
theorem dX4_notCopied_102 : decode cX4_notCopied 102 = .ok (.istore 6, 2) := by decide +kernel
theorem dX4_notCopied_104 : decode cX4_notCopied 104 = .ok (.iload 6, 2) := by decide +kernel
theorem dX4_notCopied_106 : decode cX4_notCopied 106 = .ok (.ifCond .eq 7, 3) := by decide +kernel
theorem dX4_notCopied_109 : decode cX4_notCopied 109 = .ok (.iconst 0, 1) := by decide +kernel
theorem dX4_notCopied_110 : decode cX4_notCopied 110 = .ok (.goto 5, 3) := by decide +kernel
theorem dX4_notCopied_113 : decode cX4_notCopied 113 = .ok (.ldc 35, 2) := by decide +kernel
theorem dX4_notCopied_115 : decode cX4_notCopied 115 = .ok (.ireturn, 1) := by decide +kernel
set_option maxRecDepth 20000 in
theorem ggX4_copy_X4_notCopied : GoodIn wsX4_copy wsX4_notCopied := goodIn_r _ [6, 7, 8, 9, 10, 11, 12, 13, 5, 14, 15, 16, 17, 23, 24, 25, 26, 27, 28, 29, 30, 31, 32, 33, 34, 35, 36, 37] (by decide +kernel) (by decide +kernel)
set_option maxRecDepth 20000 in
theorem gX4_copy_X4_notCopied : GoodIn wsX4_copy (wsV RX4 213 RX4 yX4_notCopied wsX4_notCopied) := goodIn_app (goodIn_of _ (by decide +kernel)) ggX4_copy_X4_notCopied
set_option maxRecDepth 20000 in
theorem ggX4_copy_X4_finds : GoodIn wsX4_copy wsX4_finds := goodIn_r _ [21, 22, 7, 23, 24, 25, 26, 27, 28, 29, 30, 31, 32, 33, 34, 35, 36, 37] (by decide +kernel) (by decide +kernel)
set_option maxRecDepth 20000 in
theorem gX4_copy_X4_finds : GoodIn wsX4_copy (wsV RX4 37 RX4 yX4_finds wsX4_finds) := goodIn_app (goodIn_of _ (by decide +kernel)) ggX4_copy_X4_finds
theorem dX4_copy_0 : decode cX4_copy 0 = .ok (.aload_n 0, 1) := by decide +kernel
theorem dX4_copy_1 : decode cX4_copy 1 = .ok (.iload_n 1, 1) := by decide +kernel
theorem dX4_copy_2 : decode cX4_copy 2 = .ok (.iload_n 2, 1) := by decide +kernel
theorem dX4_copy_3 : decode cX4_copy 3 = .ok (.iload_n 3, 1) := by decide +kernel
theorem dX4_copy_4 : decode cX4_copy 4 = .ok (.iload 4, 2) := by decide +kernel
theorem dX4_copy_6 : decode cX4_copy 6 = .ok (.iload 5, 2) := by decide +kernel
theorem dX4_copy_8 : decode cX4_copy 8 = .ok (.invokevirtual 213, 3) := by decide +kernel
theorem dX4_copy_11 : decode cX4_copy 11 = .ok (.istore 6, 2) := by decide +kernel
theorem dX4_copy_13 : decode cX4_copy 13 = .ok (.iload 6, 2) := by decide +kernel
theorem dX4_copy_15 : decode cX4_copy 15 = .ok (.ifCond .eq 10, 3) := by decide +kernel
theorem dX4_copy_18 : decode cX4_copy 18 = .ok (.aload_n 0, 1) := by decide +kernel
theorem dX4_copy_19 : decode cX4_copy 19 = .ok (.iload 6, 2) := by decide +kernel
theorem dX4_copy_21 : decode cX4_copy 21 = .ok (.invokevirtual 37, 3) := by decide +kernel
theorem dX4_copy_24 : decode cX4_copy 24 = .ok (.ireturn, 1) := by decide +kernel
theorem dX4_copy_25 : decode cX4_copy 25 = .ok (.iconst 0, 1) := by decide +kernel
theorem dX4_copy_26 : decode cX4_copy 26 = .ok (.istore 7, 2) := by decide +kernel
theorem dX4_copy_28 : decode cX4_copy 28 = .ok (.iload 7, 2) := by decide +kernel
theorem dX4_copy_30 : decode cX4_copy 30 = .ok (.iload 5, 2) := by decide +kernel
theorem dX4_copy_32 : decode cX4_copy 32 = .ok (.if_icmp .ge 58, 3) := by decide +kernel
theorem dX4_copy_35 : decode cX4_copy 35 = .ok (.iload_n 2, 1) := by decide +kernel
theorem dX4_copy_36 : decode cX4_copy 36 = .ok (.iload 4, 2) := by decide +kernel
theorem dX4_copy_38 : decode cX4_copy 38 = .ok (.if_icmp .ge 13, 3) := by decide +kernel
theorem dX4_copy_41 : decode cX4_copy 41 = .ok (.iload 5, 2) := by decide +kernel
theorem dX4_copy_43 : decode cX4_copy 43 = .ok (.iconst 1, 1) := by decide +kernel
theorem dX4_copy_44 : decode cX4_copy 44 = .ok (.isub, 1) := by decide +kernel
theorem dX4_copy_45 : decode cX4_copy 45 = .ok (.iload 7, 2) := by decide +kernel
theorem dX4_copy_47 : decode cX4_copy 47 = .ok (.isub, 1) := by decide +kernel
theorem dX4_copy_48 : decode cX4_copy 48 = .ok (.goto 5, 3) := by decide +kernel
theorem dX4_copy_51 : decode cX4_copy 51 = .ok (.iload 7, 2) := by decide +kernel
theorem dX4_copy_53 : decode cX4_copy 53 = .ok (.istore 8, 2) := by decide +kernel
theorem dX4_copy_55 : decode cX4_copy 55 = .ok (.aload_n 0, 1) := by decide +kernel
theorem dX4_copy_56 : decode cX4_copy 56 = .ok (.getfield 31, 3) := by decide +kernel
theorem dX4_copy_59 : decode cX4_copy 59 = .ok (.bipush 40, 2) := by decide +kernel
theorem dX4_copy_61 : decode cX4_copy 61 = .ok (.iload_n 3, 1) := by decide +kernel
theorem dX4_copy_62 : decode cX4_copy 62 = .ok (.imul, 1) := by decide +kernel
theorem dX4_copy_63 : decode cX4_copy 63 = .ok (.iload 4, 2) := by decide +kernel
theorem dX4_copy_65 : decode cX4_copy 65 = .ok (.iadd, 1) := by decide +kernel
theorem dX4_copy_66 : decode cX4_copy 66 = .ok (.iload 8, 2) := by decide +kernel
theorem dX4_copy_68 : decode cX4_copy 68 = .ok (.iadd, 1) := by decide +kernel
theorem dX4_copy_69 : decode cX4_copy 69 = .ok (.aload_n 0, 1) := by decide +kernel
theorem dX4_copy_70 : decode cX4_copy 70 = .ok (.getfield 31, 3) := by decide +kernel
theorem dX4_copy_73 : decode cX4_copy 73 = .ok (.bipush 40, 2) := by decide +kernel
theorem dX4_copy_75 : decode cX4_copy 75 = .ok (.iload_n 1, 1) := by decide +kernel
theorem dX4_copy_76 : decode cX4_copy 76 = .ok (.imul, 1) := by decide +kernel
theorem dX4_copy_77 : decode cX4_copy 77 = .ok (.iload_n 2, 1) := by decide +kernel
theorem dX4_copy_78 : decode cX4_copy 78 = .ok (.iadd, 1) := by decide +kernel
theorem dX4_copy_79 : decode cX4_copy 79 = .ok (.iload 8, 2) := by decide +kernel
theorem dX4_copy_81 : decode cX4_copy 81 = .ok (.iadd, 1) := by decide +kernel
theorem dX4_copy_82 : decode cX4_copy 82 = .ok (.laload, 1) := by decide +kernel
theorem dX4_copy_83 : decode cX4_copy 83 = .ok (.lastore, 1) := by decide +kernel
theorem dX4_copy_84 : decode cX4_copy 84 = .ok (.iinc 7 1, 3) := by decide +kernel
theorem dX4_copy_87 : decode cX4_copy 87 = .ok (.goto (-59), 3) := by decide +kernel
theorem dX4_copy_90 : decode cX4_copy 90 = .ok (.iload 5, 2) := by decide +kernel
theorem dX4_copy_92 : decode cX4_copy 92 = .ok (.ireturn, 1) := by decide +kernel
set_option maxRecDepth 20000 in
theorem ggX4_lays_X4_notThere : GoodIn wsX4_lays wsX4_notThere := goodIn_r _ [8, 9, 10, 11, 12, 13, 7, 14, 15, 16, 17, 23, 24, 25, 26, 27, 28, 29, 30, 31, 32, 33, 34, 35, 36, 37] (by decide +kernel) (by decide +kernel)
set_option maxRecDepth 20000 in
theorem gX4_lays_X4_notThere : GoodIn wsX4_lays (wsV RX4 206 RX4 yX4_notThere wsX4_notThere) := goodIn_app (goodIn_of _ (by decide +kernel)) ggX4_lays_X4_notThere
set_option maxRecDepth 20000 in
theorem ggX4_lays_X4_finds : GoodIn wsX4_lays wsX4_finds := goodIn_r _ [21, 22, 9, 23, 24, 25, 26, 27, 28, 29, 30, 31, 32, 33, 34, 35, 36, 37] (by decide +kernel) (by decide +kernel)
set_option maxRecDepth 20000 in
theorem gX4_lays_X4_finds : GoodIn wsX4_lays (wsV RX4 37 RX4 yX4_finds wsX4_finds) := goodIn_app (goodIn_of _ (by decide +kernel)) ggX4_lays_X4_finds
set_option maxRecDepth 20000 in
theorem ggX4_lays_X4_in : GoodIn wsX4_lays wsX4_in := goodIn_r _ [17] (by decide +kernel) (by decide +kernel)
set_option maxRecDepth 20000 in
theorem gX4_lays_X4_in : GoodIn wsX4_lays (va_wsS RX4 41 yX4_in wsX4_in) := goodIn_app (goodIn_of _ (by decide +kernel)) ggX4_lays_X4_in
theorem dX4_lays_0 : decode cX4_lays 0 = .ok (.aload_n 0, 1) := by decide +kernel
theorem dX4_lays_1 : decode cX4_lays 1 = .ok (.iload_n 1, 1) := by decide +kernel
theorem dX4_lays_2 : decode cX4_lays 2 = .ok (.invokevirtual 206, 3) := by decide +kernel
theorem dX4_lays_5 : decode cX4_lays 5 = .ok (.istore_n 2, 1) := by decide +kernel
theorem dX4_lays_6 : decode cX4_lays 6 = .ok (.iload_n 2, 1) := by decide +kernel
theorem dX4_lays_7 : decode cX4_lays 7 = .ok (.ifCond .eq 9, 3) := by decide +kernel
theorem dX4_lays_10 : decode cX4_lays 10 = .ok (.aload_n 0, 1) := by decide +kernel
theorem dX4_lays_11 : decode cX4_lays 11 = .ok (.iload_n 2, 1) := by decide +kernel
theorem dX4_lays_12 : decode cX4_lays 12 = .ok (.invokevirtual 37, 3) := by decide +kernel
theorem dX4_lays_15 : decode cX4_lays 15 = .ok (.ireturn, 1) := by decide +kernel
theorem dX4_lays_16 : decode cX4_lays 16 = .ok (.iconst 0, 1) := by decide +kernel
theorem dX4_lays_17 : decode cX4_lays 17 = .ok (.istore_n 3, 1) := by decide +kernel
theorem dX4_lays_18 : decode cX4_lays 18 = .ok (.iconst 0, 1) := by decide +kernel
theorem dX4_lays_19 : decode cX4_lays 19 = .ok (.istore 4, 2) := by decide +kernel
theorem dX4_lays_21 : decode cX4_lays 21 = .ok (.iload 4, 2) := by decide +kernel
theorem dX4_lays_23 : decode cX4_lays 23 = .ok (.aload_n 0, 1) := by decide +kernel
theorem dX4_lays_24 : decode cX4_lays 24 = .ok (.getfield 28, 3) := by decide +kernel
theorem dX4_lays_27 : decode cX4_lays 27 = .ok (.iload_n 1, 1) := by decide +kernel
theorem dX4_lays_28 : decode cX4_lays 28 = .ok (.iaload, 1) := by decide +kernel
theorem dX4_lays_29 : decode cX4_lays 29 = .ok (.if_icmp .ge 62, 3) := by decide +kernel
theorem dX4_lays_32 : decode cX4_lays 32 = .ok (.iload 4, 2) := by decide +kernel
theorem dX4_lays_34 : decode cX4_lays 34 = .ok (.bipush 30, 2) := by decide +kernel
theorem dX4_lays_36 : decode cX4_lays 36 = .ok (.if_icmp .ge 55, 3) := by decide +kernel
theorem dX4_lays_39 : decode cX4_lays 39 = .ok (.aload_n 0, 1) := by decide +kernel
theorem dX4_lays_40 : decode cX4_lays 40 = .ok (.getfield 31, 3) := by decide +kernel
theorem dX4_lays_43 : decode cX4_lays 43 = .ok (.bipush 40, 2) := by decide +kernel
theorem dX4_lays_45 : decode cX4_lays 45 = .ok (.iload_n 1, 1) := by decide +kernel
theorem dX4_lays_46 : decode cX4_lays 46 = .ok (.imul, 1) := by decide +kernel
theorem dX4_lays_47 : decode cX4_lays 47 = .ok (.iload 4, 2) := by decide +kernel
theorem dX4_lays_49 : decode cX4_lays 49 = .ok (.iadd, 1) := by decide +kernel
theorem dX4_lays_50 : decode cX4_lays 50 = .ok (.laload, 1) := by decide +kernel
theorem dX4_lays_51 : decode cX4_lays 51 = .ok (.iconst 0, 1) := by decide +kernel
theorem dX4_lays_52 : decode cX4_lays 52 = .ok (.bipush 20, 2) := by decide +kernel
theorem dX4_lays_54 : decode cX4_lays 54 = .ok (.invokestatic 41, 3) := by decide +kernel
theorem dX4_lays_57 : decode cX4_lays 57 = .ok (.ifCond .eq 28, 3) := by decide +kernel
theorem dX4_lays_60 : decode cX4_lays 60 = .ok (.aload_n 0, 1) := by decide +kernel
theorem dX4_lays_61 : decode cX4_lays 61 = .ok (.getfield 9, 3) := by decide +kernel
theorem dX4_lays_64 : decode cX4_lays 64 = .ok (.iconst 5, 1) := by decide +kernel
theorem dX4_lays_65 : decode cX4_lays 65 = .ok (.iload 4, 2) := by decide +kernel
theorem dX4_lays_67 : decode cX4_lays 67 = .ok (.iadd, 1) := by decide +kernel
theorem dX4_lays_68 : decode cX4_lays 68 = .ok (.aload_n 0, 1) := by decide +kernel
theorem dX4_lays_69 : decode cX4_lays 69 = .ok (.getfield 31, 3) := by decide +kernel
theorem dX4_lays_72 : decode cX4_lays 72 = .ok (.bipush 40, 2) := by decide +kernel
theorem dX4_lays_74 : decode cX4_lays 74 = .ok (.iload_n 1, 1) := by decide +kernel
theorem dX4_lays_75 : decode cX4_lays 75 = .ok (.imul, 1) := by decide +kernel
theorem dX4_lays_76 : decode cX4_lays 76 = .ok (.iload 4, 2) := by decide +kernel
theorem dX4_lays_78 : decode cX4_lays 78 = .ok (.iadd, 1) := by decide +kernel
theorem dX4_lays_79 : decode cX4_lays 79 = .ok (.laload, 1) := by decide +kernel
theorem dX4_lays_80 : decode cX4_lays 80 = .ok (.l2i, 1) := by decide +kernel
theorem dX4_lays_81 : decode cX4_lays 81 = .ok (.iastore, 1) := by decide +kernel
theorem dX4_lays_82 : decode cX4_lays 82 = .ok (.iinc 3 1, 3) := by decide +kernel
theorem dX4_lays_85 : decode cX4_lays 85 = .ok (.iinc 4 1, 3) := by decide +kernel
theorem dX4_lays_88 : decode cX4_lays 88 = .ok (.goto (-67), 3) := by decide +kernel
theorem dX4_lays_91 : decode cX4_lays 91 = .ok (.iload_n 3, 1) := by decide +kernel
theorem dX4_lays_92 : decode cX4_lays 92 = .ok (.ireturn, 1) := by decide +kernel
set_option maxRecDepth 20000 in
theorem ggX4_notAsked_X4_notThere : GoodIn wsX4_notAsked wsX4_notThere := goodIn_r _ [6, 1, 7, 8, 9, 10, 5, 11, 12, 13, 14, 20, 21, 22, 23, 24, 25, 26, 27, 28, 29, 30, 31, 32, 33, 34] (by decide +kernel) (by decide +kernel)
set_option maxRecDepth 20000 in
theorem gX4_notAsked_X4_notThere : GoodIn wsX4_notAsked (wsV RX4 206 RX4 yX4_notThere wsX4_notThere) := goodIn_app (goodIn_of _ (by decide +kernel)) ggX4_notAsked_X4_notThere
set_option maxRecDepth 20000 in
theorem ggX4_notAsked_X4_isPerson : GoodIn wsX4_notAsked wsX4_isPerson := goodIn_r _ [18, 19, 12, 13, 5, 14, 20, 21, 22, 23, 24, 25, 26, 27, 28, 29, 30, 31, 32, 33, 34] (by decide +kernel) (by decide +kernel)
set_option maxRecDepth 20000 in
theorem gX4_notAsked_X4_isPerson : GoodIn wsX4_notAsked (wsV RX4 100 RX4 yX4_isPerson wsX4_isPerson) := goodIn_app (goodIn_of _ (by decide +kernel)) ggX4_notAsked_X4_isPerson
theorem dX4_notAsked_0 : decode cX4_notAsked 0 = .ok (.aload_n 0, 1) := by decide +kernel
theorem dX4_notAsked_1 : decode cX4_notAsked 1 = .ok (.iload_n 1, 1) := by decide +kernel
theorem dX4_notAsked_2 : decode cX4_notAsked 2 = .ok (.invokevirtual 206, 3) := by decide +kernel
