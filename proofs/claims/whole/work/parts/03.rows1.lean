theorem dX0_init_0 : decode cX0_init 0 = .ok (.aload_n 0, 1) := by decide +kernel
theorem dX0_init_1 : decode cX0_init 1 = .ok (.invokespecial 3, 3) := by decide +kernel
theorem dX0_init_4 : decode cX0_init 4 = .ok (.aload_n 0, 1) := by decide +kernel
theorem dX0_init_5 : decode cX0_init 5 = .ok (.iconst 0, 1) := by decide +kernel
theorem dX0_init_6 : decode cX0_init 6 = .ok (.putfield 9, 3) := by decide +kernel
theorem dX0_init_9 : decode cX0_init 9 = .ok (.aload_n 0, 1) := by decide +kernel
theorem dX0_init_10 : decode cX0_init 10 = .ok (.iconst 0, 1) := by decide +kernel
theorem dX0_init_11 : decode cX0_init 11 = .ok (.putfield 15, 3) := by decide +kernel
theorem dX0_init_14 : decode cX0_init 14 = .ok (.aload_n 0, 1) := by decide +kernel
theorem dX0_init_15 : decode cX0_init 15 = .ok (.bipush 40, 2) := by decide +kernel
theorem dX0_init_17 : decode cX0_init 17 = .ok (.newarray .long, 2) := by decide +kernel
theorem dX0_init_19 : decode cX0_init 19 = .ok (.putfield 18, 3) := by decide +kernel
theorem dX0_init_22 : decode cX0_init 22 = .ok (.return_, 1) := by decide +kernel
theorem dX0_isMissing_0 : decode cX0_isMissing 0 = .ok (.aload_n 0, 1) := by decide +kernel
theorem dX0_isMissing_1 : decode cX0_isMissing 1 = .ok (.getfield 9, 3) := by decide +kernel
theorem dX0_isMissing_4 : decode cX0_isMissing 4 = .ok (.ifCond .ne 7, 3) := by decide +kernel
theorem dX0_isMissing_7 : decode cX0_isMissing 7 = .ok (.iconst 1, 1) := by decide +kernel
theorem dX0_isMissing_8 : decode cX0_isMissing 8 = .ok (.goto 4, 3) := by decide +kernel
theorem dX0_isMissing_11 : decode cX0_isMissing 11 = .ok (.iconst 0, 1) := by decide +kernel
theorem dX0_isMissing_12 : decode cX0_isMissing 12 = .ok (.ireturn, 1) := by decide +kernel
theorem dX0_begin_0 : decode cX0_begin 0 = .ok (.aload_n 0, 1) := by decide +kernel
theorem dX0_begin_1 : decode cX0_begin 1 = .ok (.iload_n 1, 1) := by decide +kernel
theorem dX0_begin_2 : decode cX0_begin 2 = .ok (.putfield 9, 3) := by decide +kernel
theorem dX0_begin_5 : decode cX0_begin 5 = .ok (.aload_n 0, 1) := by decide +kernel
theorem dX0_begin_6 : decode cX0_begin 6 = .ok (.iload_n 2, 1) := by decide +kernel
theorem dX0_begin_7 : decode cX0_begin 7 = .ok (.putfield 15, 3) := by decide +kernel
theorem dX0_begin_10 : decode cX0_begin 10 = .ok (.iconst 0, 1) := by decide +kernel
theorem dX0_begin_11 : decode cX0_begin 11 = .ok (.istore_n 3, 1) := by decide +kernel
theorem dX0_begin_12 : decode cX0_begin 12 = .ok (.iload_n 3, 1) := by decide +kernel
theorem dX0_begin_13 : decode cX0_begin 13 = .ok (.bipush 40, 2) := by decide +kernel
theorem dX0_begin_15 : decode cX0_begin 15 = .ok (.if_icmp .ge 16, 3) := by decide +kernel
theorem dX0_begin_18 : decode cX0_begin 18 = .ok (.aload_n 0, 1) := by decide +kernel
theorem dX0_begin_19 : decode cX0_begin 19 = .ok (.getfield 18, 3) := by decide +kernel
theorem dX0_begin_22 : decode cX0_begin 22 = .ok (.iload_n 3, 1) := by decide +kernel
theorem dX0_begin_23 : decode cX0_begin 23 = .ok (.lconst 0, 1) := by decide +kernel
theorem dX0_begin_24 : decode cX0_begin 24 = .ok (.lastore, 1) := by decide +kernel
theorem dX0_begin_25 : decode cX0_begin 25 = .ok (.iinc 3 1, 3) := by decide +kernel
theorem dX0_begin_28 : decode cX0_begin 28 = .ok (.goto (-16), 3) := by decide +kernel
theorem dX0_begin_31 : decode cX0_begin 31 = .ok (.return_, 1) := by decide +kernel
theorem dX0_put_0 : decode cX0_put 0 = .ok (.aload_n 0, 1) := by decide +kernel
theorem dX0_put_1 : decode cX0_put 1 = .ok (.getfield 9, 3) := by decide +kernel
theorem dX0_put_4 : decode cX0_put 4 = .ok (.bipush 8, 2) := by decide +kernel
theorem dX0_put_6 : decode cX0_put 6 = .ok (.if_icmp .ne 16, 3) := by decide +kernel
theorem dX0_put_9 : decode cX0_put 9 = .ok (.aload_n 0, 1) := by decide +kernel
theorem dX0_put_10 : decode cX0_put 10 = .ok (.getfield 18, 3) := by decide +kernel
theorem dX0_put_13 : decode cX0_put 13 = .ok (.iload_n 1, 1) := by decide +kernel
theorem dX0_put_14 : decode cX0_put 14 = .ok (.lload_n 2, 1) := by decide +kernel
theorem dX0_put_15 : decode cX0_put 15 = .ok (.l2i, 1) := by decide +kernel
theorem dX0_put_16 : decode cX0_put 16 = .ok (.i2b, 1) := by decide +kernel
theorem dX0_put_17 : decode cX0_put 17 = .ok (.i2l, 1) := by decide +kernel
theorem dX0_put_18 : decode cX0_put 18 = .ok (.lastore, 1) := by decide +kernel
theorem dX0_put_19 : decode cX0_put 19 = .ok (.goto 32, 3) := by decide +kernel
theorem dX0_put_22 : decode cX0_put 22 = .ok (.aload_n 0, 1) := by decide +kernel
theorem dX0_put_23 : decode cX0_put 23 = .ok (.getfield 9, 3) := by decide +kernel
theorem dX0_put_26 : decode cX0_put 26 = .ok (.bipush 16, 2) := by decide +kernel
theorem dX0_put_28 : decode cX0_put 28 = .ok (.if_icmp .ne 16, 3) := by decide +kernel
theorem dX0_put_31 : decode cX0_put 31 = .ok (.aload_n 0, 1) := by decide +kernel
theorem dX0_put_32 : decode cX0_put 32 = .ok (.getfield 18, 3) := by decide +kernel
theorem dX0_put_35 : decode cX0_put 35 = .ok (.iload_n 1, 1) := by decide +kernel
theorem dX0_put_36 : decode cX0_put 36 = .ok (.lload_n 2, 1) := by decide +kernel
theorem dX0_put_37 : decode cX0_put 37 = .ok (.l2i, 1) := by decide +kernel
theorem dX0_put_38 : decode cX0_put 38 = .ok (.i2s, 1) := by decide +kernel
theorem dX0_put_39 : decode cX0_put 39 = .ok (.i2l, 1) := by decide +kernel
theorem dX0_put_40 : decode cX0_put 40 = .ok (.lastore, 1) := by decide +kernel
theorem dX0_put_41 : decode cX0_put 41 = .ok (.goto 10, 3) := by decide +kernel
theorem dX0_put_44 : decode cX0_put 44 = .ok (.aload_n 0, 1) := by decide +kernel
theorem dX0_put_45 : decode cX0_put 45 = .ok (.getfield 18, 3) := by decide +kernel
theorem dX0_put_48 : decode cX0_put 48 = .ok (.iload_n 1, 1) := by decide +kernel
theorem dX0_put_49 : decode cX0_put 49 = .ok (.lload_n 2, 1) := by decide +kernel
theorem dX0_put_50 : decode cX0_put 50 = .ok (.lastore, 1) := by decide +kernel
theorem dX0_put_51 : decode cX0_put 51 = .ok (.return_, 1) := by decide +kernel
theorem dX0_hasRow_0 : decode cX0_hasRow 0 = .ok (.iload_n 1, 1) := by decide +kernel
theorem dX0_hasRow_1 : decode cX0_hasRow 1 = .ok (.ifCond .lt 29, 3) := by decide +kernel
theorem dX0_hasRow_4 : decode cX0_hasRow 4 = .ok (.iload_n 2, 1) := by decide +kernel
theorem dX0_hasRow_5 : decode cX0_hasRow 5 = .ok (.ifCond .lt 25, 3) := by decide +kernel
theorem dX0_hasRow_8 : decode cX0_hasRow 8 = .ok (.iload_n 2, 1) := by decide +kernel
theorem dX0_hasRow_9 : decode cX0_hasRow 9 = .ok (.aload_n 0, 1) := by decide +kernel
theorem dX0_hasRow_10 : decode cX0_hasRow 10 = .ok (.getfield 15, 3) := by decide +kernel
theorem dX0_hasRow_13 : decode cX0_hasRow 13 = .ok (.if_icmp .gt 17, 3) := by decide +kernel
theorem dX0_hasRow_16 : decode cX0_hasRow 16 = .ok (.iload_n 1, 1) := by decide +kernel
theorem dX0_hasRow_17 : decode cX0_hasRow 17 = .ok (.aload_n 0, 1) := by decide +kernel
theorem dX0_hasRow_18 : decode cX0_hasRow 18 = .ok (.getfield 15, 3) := by decide +kernel
theorem dX0_hasRow_21 : decode cX0_hasRow 21 = .ok (.iload_n 2, 1) := by decide +kernel
theorem dX0_hasRow_22 : decode cX0_hasRow 22 = .ok (.isub, 1) := by decide +kernel
theorem dX0_hasRow_23 : decode cX0_hasRow 23 = .ok (.if_icmp .gt 7, 3) := by decide +kernel
theorem dX0_hasRow_26 : decode cX0_hasRow 26 = .ok (.iconst 1, 1) := by decide +kernel
theorem dX0_hasRow_27 : decode cX0_hasRow 27 = .ok (.goto 4, 3) := by decide +kernel
theorem dX0_hasRow_30 : decode cX0_hasRow 30 = .ok (.iconst 0, 1) := by decide +kernel
theorem dX0_hasRow_31 : decode cX0_hasRow 31 = .ok (.ireturn, 1) := by decide +kernel
theorem dX1_init_0 : decode cX1_init 0 = .ok (.aload_n 0, 1) := by decide +kernel
theorem dX1_init_1 : decode cX1_init 1 = .ok (.invokespecial 3, 3) := by decide +kernel
theorem dX1_init_4 : decode cX1_init 4 = .ok (.aload_n 0, 1) := by decide +kernel
theorem dX1_init_5 : decode cX1_init 5 = .ok (.bipush 120, 2) := by decide +kernel
theorem dX1_init_7 : decode cX1_init 7 = .ok (.newarray .int, 2) := by decide +kernel
theorem dX1_init_9 : decode cX1_init 9 = .ok (.putfield 9, 3) := by decide +kernel
theorem dX1_init_12 : decode cX1_init 12 = .ok (.aload_n 0, 1) := by decide +kernel
theorem dX1_init_13 : decode cX1_init 13 = .ok (.iconst 0, 1) := by decide +kernel
theorem dX1_init_14 : decode cX1_init 14 = .ok (.putfield 15, 3) := by decide +kernel
theorem dX1_init_17 : decode cX1_init 17 = .ok (.aload_n 0, 1) := by decide +kernel
theorem dX1_init_18 : decode cX1_init 18 = .ok (.iconst 0, 1) := by decide +kernel
theorem dX1_init_19 : decode cX1_init 19 = .ok (.putfield 19, 3) := by decide +kernel
theorem dX1_init_22 : decode cX1_init 22 = .ok (.aload_n 0, 1) := by decide +kernel
theorem dX1_init_23 : decode cX1_init 23 = .ok (.iconst 0, 1) := by decide +kernel
theorem dX1_init_24 : decode cX1_init 24 = .ok (.putfield 22, 3) := by decide +kernel
theorem dX1_init_27 : decode cX1_init 27 = .ok (.aload_n 0, 1) := by decide +kernel
theorem dX1_init_28 : decode cX1_init 28 = .ok (.iconst 0, 1) := by decide +kernel
theorem dX1_init_29 : decode cX1_init 29 = .ok (.putfield 25, 3) := by decide +kernel
theorem dX1_init_32 : decode cX1_init 32 = .ok (.aload_n 0, 1) := by decide +kernel
theorem dX1_init_33 : decode cX1_init 33 = .ok (.iconst 3, 1) := by decide +kernel
theorem dX1_init_34 : decode cX1_init 34 = .ok (.putfield 28, 3) := by decide +kernel
theorem dX1_init_37 : decode cX1_init 37 = .ok (.aload_n 0, 1) := by decide +kernel
theorem dX1_init_38 : decode cX1_init 38 = .ok (.iconst 0, 1) := by decide +kernel
theorem dX1_init_39 : decode cX1_init 39 = .ok (.putfield 31, 3) := by decide +kernel
theorem dX1_init_42 : decode cX1_init 42 = .ok (.return_, 1) := by decide +kernel
theorem dX1_add_0 : decode cX1_add 0 = .ok (.aload_n 0, 1) := by decide +kernel
theorem dX1_add_1 : decode cX1_add 1 = .ok (.getfield 15, 3) := by decide +kernel
theorem dX1_add_4 : decode cX1_add 4 = .ok (.bipush 120, 2) := by decide +kernel
theorem dX1_add_6 : decode cX1_add 6 = .ok (.if_icmp .ge 23, 3) := by decide +kernel
theorem dX1_add_9 : decode cX1_add 9 = .ok (.aload_n 0, 1) := by decide +kernel
theorem dX1_add_10 : decode cX1_add 10 = .ok (.getfield 9, 3) := by decide +kernel
theorem dX1_add_13 : decode cX1_add 13 = .ok (.aload_n 0, 1) := by decide +kernel
theorem dX1_add_14 : decode cX1_add 14 = .ok (.getfield 15, 3) := by decide +kernel
theorem dX1_add_17 : decode cX1_add 17 = .ok (.iload_n 1, 1) := by decide +kernel
theorem dX1_add_18 : decode cX1_add 18 = .ok (.iastore, 1) := by decide +kernel
theorem dX1_add_19 : decode cX1_add 19 = .ok (.aload_n 0, 1) := by decide +kernel
theorem dX1_add_20 : decode cX1_add 20 = .ok (.dup, 1) := by decide +kernel
theorem dX1_add_21 : decode cX1_add 21 = .ok (.getfield 15, 3) := by decide +kernel
theorem dX1_add_24 : decode cX1_add 24 = .ok (.iconst 1, 1) := by decide +kernel
theorem dX1_add_25 : decode cX1_add 25 = .ok (.iadd, 1) := by decide +kernel
theorem dX1_add_26 : decode cX1_add 26 = .ok (.putfield 15, 3) := by decide +kernel
theorem dX1_add_29 : decode cX1_add 29 = .ok (.return_, 1) := by decide +kernel
theorem dX1_isByte_0 : decode cX1_isByte 0 = .ok (.iload_n 1, 1) := by decide +kernel
theorem dX1_isByte_1 : decode cX1_isByte 1 = .ok (.ifCond .lt 35, 3) := by decide +kernel
theorem dX1_isByte_4 : decode cX1_isByte 4 = .ok (.iload_n 1, 1) := by decide +kernel
theorem dX1_isByte_5 : decode cX1_isByte 5 = .ok (.aload_n 0, 1) := by decide +kernel
theorem dX1_isByte_6 : decode cX1_isByte 6 = .ok (.getfield 15, 3) := by decide +kernel
theorem dX1_isByte_9 : decode cX1_isByte 9 = .ok (.if_icmp .ge 27, 3) := by decide +kernel
theorem dX1_isByte_12 : decode cX1_isByte 12 = .ok (.aload_n 0, 1) := by decide +kernel
theorem dX1_isByte_13 : decode cX1_isByte 13 = .ok (.getfield 9, 3) := by decide +kernel
theorem dX1_isByte_16 : decode cX1_isByte 16 = .ok (.iload_n 1, 1) := by decide +kernel
theorem dX1_isByte_17 : decode cX1_isByte 17 = .ok (.iaload, 1) := by decide +kernel
theorem dX1_isByte_18 : decode cX1_isByte 18 = .ok (.iload_n 2, 1) := by decide +kernel
theorem dX1_isByte_19 : decode cX1_isByte 19 = .ok (.if_icmp .lt 17, 3) := by decide +kernel
theorem dX1_isByte_22 : decode cX1_isByte 22 = .ok (.aload_n 0, 1) := by decide +kernel
theorem dX1_isByte_23 : decode cX1_isByte 23 = .ok (.getfield 9, 3) := by decide +kernel
theorem dX1_isByte_26 : decode cX1_isByte 26 = .ok (.iload_n 1, 1) := by decide +kernel
theorem dX1_isByte_27 : decode cX1_isByte 27 = .ok (.iaload, 1) := by decide +kernel
theorem dX1_isByte_28 : decode cX1_isByte 28 = .ok (.iload_n 3, 1) := by decide +kernel
theorem dX1_isByte_29 : decode cX1_isByte 29 = .ok (.if_icmp .gt 7, 3) := by decide +kernel
theorem dX1_isByte_32 : decode cX1_isByte 32 = .ok (.iconst 1, 1) := by decide +kernel
theorem dX1_isByte_33 : decode cX1_isByte 33 = .ok (.goto 4, 3) := by decide +kernel
theorem dX1_isByte_36 : decode cX1_isByte 36 = .ok (.iconst 0, 1) := by decide +kernel
theorem dX1_isByte_37 : decode cX1_isByte 37 = .ok (.ireturn, 1) := by decide +kernel
set_option maxRecDepth 20000 in
theorem ggX1_tells_X1_step : GoodIn wsX1_tells wsX1_step := goodIn_r _ [8, 2, 9, 10, 3, 11, 12, 13, 14, 7, 15, 16, 17, 18, 19, 20, 21, 22, 23, 24, 25, 26, 27, 28, 124, 125, 126, 127, 128, 129, 130] (by decide +kernel) (by decide +kernel)
set_option maxRecDepth 20000 in
theorem gX1_tells_X1_step : GoodIn wsX1_tells (wsV RX1 34 RX1 yX1_step wsX1_step) := goodIn_app (goodIn_of _ (by decide +kernel)) ggX1_tells_X1_step
set_option maxRecDepth 20000 in
theorem ggX1_tells_X1_itemComes : GoodIn wsX1_tells wsX1_itemComes := goodIn_r _ [32, 3, 33, 34, 7, 35, 36, 37, 38, 39, 2, 9, 40, 41, 42, 43, 44, 45, 46, 47, 48, 49, 50, 51, 52, 53, 54, 55, 56, 57, 58, 59, 60, 61, 62, 63, 64, 65, 66, 67, 68, 69, 70, 71, 72, 73, 74, 75, 76, 77, 78, 79, 80, 81, 82, 83, 84, 85, 86, 87, 88, 16, 17, 18, 19, 10, 20, 89, 90, 91, 92, 93, 11, 4, 5, 6, 8, 12, 13, 14, 15, 21, 22, 23, 24, 25, 26, 27, 28, 94, 95, 96, 97, 98, 99, 100, 101, 102, 103, 104, 105, 106, 107, 108, 109, 110, 111, 112, 113, 114, 115, 116, 117, 118, 119, 120, 121, 122, 123, 124, 125, 126, 127, 128, 129, 130, 131, 132, 133, 134, 135, 136, 137, 138, 139, 140, 141] (by decide +kernel) (by decide +kernel)
set_option maxRecDepth 20000 in
theorem gX1_tells_X1_itemComes : GoodIn wsX1_tells (wsV RX1 37 RX1 yX1_itemComes wsX1_itemComes) := goodIn_app (goodIn_of _ (by decide +kernel)) ggX1_tells_X1_itemComes
theorem dX1_tells_0 : decode cX1_tells 0 = .ok (.aload_n 0, 1) := by decide +kernel
theorem dX1_tells_1 : decode cX1_tells 1 = .ok (.iconst 0, 1) := by decide +kernel
theorem dX1_tells_2 : decode cX1_tells 2 = .ok (.putfield 19, 3) := by decide +kernel
theorem dX1_tells_5 : decode cX1_tells 5 = .ok (.aload_n 0, 1) := by decide +kernel
theorem dX1_tells_6 : decode cX1_tells 6 = .ok (.iconst 0, 1) := by decide +kernel
theorem dX1_tells_7 : decode cX1_tells 7 = .ok (.putfield 25, 3) := by decide +kernel
theorem dX1_tells_10 : decode cX1_tells 10 = .ok (.aload_n 0, 1) := by decide +kernel
theorem dX1_tells_11 : decode cX1_tells 11 = .ok (.invokevirtual 34, 3) := by decide +kernel
theorem dX1_tells_14 : decode cX1_tells 14 = .ok (.aload_n 0, 1) := by decide +kernel
theorem dX1_tells_15 : decode cX1_tells 15 = .ok (.aload_n 1, 1) := by decide +kernel
theorem dX1_tells_16 : decode cX1_tells 16 = .ok (.invokevirtual 37, 3) := by decide +kernel
theorem dX1_tells_19 : decode cX1_tells 19 = .ok (.ifCond .ne 5, 3) := by decide +kernel
theorem dX1_tells_22 : decode cX1_tells 22 = .ok (.iconst 0, 1) := by decide +kernel
theorem dX1_tells_23 : decode cX1_tells 23 = .ok (.ireturn, 1) := by decide +kernel
theorem dX1_tells_24 : decode cX1_tells 24 = .ok (.aload_n 0, 1) := by decide +kernel
theorem dX1_tells_25 : decode cX1_tells 25 = .ok (.dup, 1) := by decide +kernel
theorem dX1_tells_26 : decode cX1_tells 26 = .ok (.getfield 19, 3) := by decide +kernel
theorem dX1_tells_29 : decode cX1_tells 29 = .ok (.iconst 1, 1) := by decide +kernel
theorem dX1_tells_30 : decode cX1_tells 30 = .ok (.iadd, 1) := by decide +kernel
theorem dX1_tells_31 : decode cX1_tells 31 = .ok (.putfield 19, 3) := by decide +kernel
theorem dX1_tells_34 : decode cX1_tells 34 = .ok (.aload_n 0, 1) := by decide +kernel
theorem dX1_tells_35 : decode cX1_tells 35 = .ok (.getfield 28, 3) := by decide +kernel
theorem dX1_tells_38 : decode cX1_tells 38 = .ok (.iconst 2, 1) := by decide +kernel
theorem dX1_tells_39 : decode cX1_tells 39 = .ok (.if_icmp .ne 12, 3) := by decide +kernel
theorem dX1_tells_42 : decode cX1_tells 42 = .ok (.aload_n 0, 1) := by decide +kernel
theorem dX1_tells_43 : decode cX1_tells 43 = .ok (.getfield 19, 3) := by decide +kernel
theorem dX1_tells_46 : decode cX1_tells 46 = .ok (.bipush 120, 2) := by decide +kernel
theorem dX1_tells_48 : decode cX1_tells 48 = .ok (.if_icmp .le (-38), 3) := by decide +kernel
theorem dX1_tells_51 : decode cX1_tells 51 = .ok (.aload_n 0, 1) := by decide +kernel
theorem dX1_tells_52 : decode cX1_tells 52 = .ok (.getfield 28, 3) := by decide +kernel
theorem dX1_tells_55 : decode cX1_tells 55 = .ok (.iconst 3, 1) := by decide +kernel
theorem dX1_tells_56 : decode cX1_tells 56 = .ok (.if_icmp .ne 7, 3) := by decide +kernel
theorem dX1_tells_59 : decode cX1_tells 59 = .ok (.iconst 1, 1) := by decide +kernel
theorem dX1_tells_60 : decode cX1_tells 60 = .ok (.goto 4, 3) := by decide +kernel
theorem dX1_tells_63 : decode cX1_tells 63 = .ok (.iconst 0, 1) := by decide +kernel
theorem dX1_tells_64 : decode cX1_tells 64 = .ok (.ireturn, 1) := by decide +kernel
set_option maxRecDepth 20000 in
theorem ggX1_itemComes_X1_nameOf : GoodIn wsX1_itemComes wsX1_nameOf := goodIn_r _ [5] (by decide +kernel) (by decide +kernel)
set_option maxRecDepth 20000 in
theorem gX1_itemComes_X1_nameOf : GoodIn wsX1_itemComes (va_wsS RX1 41 yX1_nameOf wsX1_nameOf) := goodIn_app (goodIn_of _ (by decide +kernel)) ggX1_itemComes_X1_nameOf
set_option maxRecDepth 20000 in
theorem ggX1_itemComes_X1_isWord : GoodIn wsX1_itemComes wsX1_isWord := goodIn_r _ [9, 1, 10, 11, 12, 13, 14, 15, 16, 17, 18, 19, 20, 21, 22, 23, 24, 25, 26, 27, 28, 29, 30, 31, 32, 33, 34, 35, 36, 37, 38, 39, 40, 41, 42, 43, 44, 45, 46, 47, 48, 49, 50, 51, 52, 53, 54, 55, 56, 57, 58, 59, 60, 61, 62, 63, 4, 64, 65, 66, 119, 120, 121, 122, 123, 124, 125] (by decide +kernel) (by decide +kernel)
set_option maxRecDepth 20000 in
theorem gX1_itemComes_X1_isWord : GoodIn wsX1_itemComes (wsV RX1 45 RX1 yX1_isWord wsX1_isWord) := goodIn_app (goodIn_of _ (by decide +kernel)) ggX1_itemComes_X1_isWord
set_option maxRecDepth 20000 in
theorem ggX1_itemComes_X1_personComes : GoodIn wsX1_itemComes wsX1_personComes := goodIn_r _ [70, 71, 72, 73, 74, 75, 4, 76, 10, 11, 65, 1, 77, 78, 79, 80, 61, 62, 63, 64, 66, 81, 82, 83, 84, 85, 86, 87, 88, 6, 7, 8, 9, 12, 13, 14, 15, 16, 17, 18, 19, 20, 21, 22, 23, 24, 25, 26, 27, 28, 29, 30, 31, 32, 33, 34, 35, 36, 37, 38, 39, 40, 41, 42, 43, 44, 45, 46, 47, 48, 49, 50, 51, 52, 53, 54, 55, 56, 57, 58, 59, 60, 89, 90, 91, 92, 93, 94, 95, 96, 97, 98, 99, 100, 101, 102, 103, 104, 105, 106, 126, 127, 128, 129, 130, 131, 132, 133, 134, 135, 136, 119, 120, 121, 122, 123, 124, 125] (by decide +kernel) (by decide +kernel)
set_option maxRecDepth 20000 in
theorem gX1_itemComes_X1_personComes : GoodIn wsX1_itemComes (wsV RX1 49 RX1 yX1_personComes wsX1_personComes) := goodIn_app (goodIn_of _ (by decide +kernel)) ggX1_itemComes_X1_personComes
set_option maxRecDepth 20000 in
theorem ggX1_itemComes_X1_noiseComes : GoodIn wsX1_itemComes wsX1_noiseComes := goodIn_r _ [110, 72, 111, 73, 74, 75, 4, 76, 10, 11, 65, 1, 77, 78, 79, 80, 61, 62, 63, 64, 66, 81, 82, 83, 84, 85, 86, 87, 88, 89, 90, 91, 92, 93, 94, 95, 119, 120, 121, 122, 123, 124, 125, 126, 127, 128, 129, 130, 131, 132, 133, 134, 135, 136] (by decide +kernel) (by decide +kernel)
set_option maxRecDepth 20000 in
theorem gX1_itemComes_X1_noiseComes : GoodIn wsX1_itemComes (wsV RX1 55 RX1 yX1_noiseComes wsX1_noiseComes) := goodIn_app (goodIn_of _ (by decide +kernel)) ggX1_itemComes_X1_noiseComes
set_option maxRecDepth 20000 in
theorem ggX1_itemComes_X1_hushComes : GoodIn wsX1_itemComes wsX1_hushComes := goodIn_r _ [115, 72, 116, 117, 118, 6, 7, 8, 4, 9, 1, 10, 11, 12, 13, 14, 15, 16, 17, 18, 19, 20, 21, 22, 23, 24, 25, 26, 27, 28, 29, 30, 31, 32, 33, 34, 35, 36, 37, 38, 39, 40, 41, 42, 43, 44, 45, 46, 47, 48, 49, 50, 51, 52, 53, 54, 55, 56, 57, 58, 59, 60, 61, 62, 63, 64, 65, 66, 73, 74, 75, 76, 77, 78, 79, 80, 81, 82, 83, 84, 85, 86, 87, 88, 89, 90, 91, 92, 93, 94, 95, 119, 120, 121, 122, 123, 124, 125, 126, 127, 128, 129, 130, 131, 132, 133, 134, 135, 136] (by decide +kernel) (by decide +kernel)
set_option maxRecDepth 20000 in
theorem gX1_itemComes_X1_hushComes : GoodIn wsX1_itemComes (wsV RX1 58 RX1 yX1_hushComes wsX1_hushComes) := goodIn_app (goodIn_of _ (by decide +kernel)) ggX1_itemComes_X1_hushComes
theorem dX1_itemComes_0 : decode cX1_itemComes 0 = .ok (.aload_n 0, 1) := by decide +kernel
theorem dX1_itemComes_1 : decode cX1_itemComes 1 = .ok (.getfield 28, 3) := by decide +kernel
theorem dX1_itemComes_4 : decode cX1_itemComes 4 = .ok (.ifCond .eq 5, 3) := by decide +kernel
theorem dX1_itemComes_7 : decode cX1_itemComes 7 = .ok (.iconst 0, 1) := by decide +kernel
theorem dX1_itemComes_8 : decode cX1_itemComes 8 = .ok (.ireturn, 1) := by decide +kernel
theorem dX1_itemComes_9 : decode cX1_itemComes 9 = .ok (.iconst 0, 1) := by decide +kernel
theorem dX1_itemComes_10 : decode cX1_itemComes 10 = .ok (.istore_n 2, 1) := by decide +kernel
theorem dX1_itemComes_11 : decode cX1_itemComes 11 = .ok (.iload_n 2, 1) := by decide +kernel
theorem dX1_itemComes_12 : decode cX1_itemComes 12 = .ok (.bipush 6, 2) := by decide +kernel
theorem dX1_itemComes_14 : decode cX1_itemComes 14 = .ok (.if_icmp .ge 27, 3) := by decide +kernel
theorem dX1_itemComes_17 : decode cX1_itemComes 17 = .ok (.aload_n 0, 1) := by decide +kernel
theorem dX1_itemComes_18 : decode cX1_itemComes 18 = .ok (.iload_n 2, 1) := by decide +kernel
theorem dX1_itemComes_19 : decode cX1_itemComes 19 = .ok (.invokestatic 41, 3) := by decide +kernel
theorem dX1_itemComes_22 : decode cX1_itemComes 22 = .ok (.invokevirtual 45, 3) := by decide +kernel
theorem dX1_itemComes_25 : decode cX1_itemComes 25 = .ok (.ifCond .eq 10, 3) := by decide +kernel
theorem dX1_itemComes_28 : decode cX1_itemComes 28 = .ok (.aload_n 0, 1) := by decide +kernel
theorem dX1_itemComes_29 : decode cX1_itemComes 29 = .ok (.aload_n 1, 1) := by decide +kernel
theorem dX1_itemComes_30 : decode cX1_itemComes 30 = .ok (.iload_n 2, 1) := by decide +kernel
theorem dX1_itemComes_31 : decode cX1_itemComes 31 = .ok (.invokevirtual 49, 3) := by decide +kernel
theorem dX1_itemComes_34 : decode cX1_itemComes 34 = .ok (.ireturn, 1) := by decide +kernel
theorem dX1_itemComes_35 : decode cX1_itemComes 35 = .ok (.iinc 2 1, 3) := by decide +kernel
theorem dX1_itemComes_38 : decode cX1_itemComes 38 = .ok (.goto (-27), 3) := by decide +kernel
theorem dX1_itemComes_41 : decode cX1_itemComes 41 = .ok (.aload_n 0, 1) := by decide +kernel
theorem dX1_itemComes_42 : decode cX1_itemComes 42 = .ok (.ldc 53, 2) := by decide +kernel
theorem dX1_itemComes_44 : decode cX1_itemComes 44 = .ok (.invokevirtual 45, 3) := by decide +kernel
theorem dX1_itemComes_47 : decode cX1_itemComes 47 = .ok (.ifCond .eq 9, 3) := by decide +kernel
theorem dX1_itemComes_50 : decode cX1_itemComes 50 = .ok (.aload_n 0, 1) := by decide +kernel
theorem dX1_itemComes_51 : decode cX1_itemComes 51 = .ok (.aload_n 1, 1) := by decide +kernel
theorem dX1_itemComes_52 : decode cX1_itemComes 52 = .ok (.invokevirtual 55, 3) := by decide +kernel
theorem dX1_itemComes_55 : decode cX1_itemComes 55 = .ok (.ireturn, 1) := by decide +kernel
theorem dX1_itemComes_56 : decode cX1_itemComes 56 = .ok (.aload_n 0, 1) := by decide +kernel
theorem dX1_itemComes_57 : decode cX1_itemComes 57 = .ok (.aload_n 1, 1) := by decide +kernel
theorem dX1_itemComes_58 : decode cX1_itemComes 58 = .ok (.invokevirtual 58, 3) := by decide +kernel
theorem dX1_itemComes_61 : decode cX1_itemComes 61 = .ok (.ireturn, 1) := by decide +kernel
set_option maxRecDepth 20000 in
theorem ggX1_personComes_X1_step : GoodIn wsX1_personComes wsX1_step := goodIn_r _ [7, 8, 9, 10, 11, 2, 12, 13, 14, 6, 15, 16, 17, 18, 19, 20, 21, 22, 23, 24, 25, 26, 27, 28, 111, 112, 113, 114, 115, 116, 117] (by decide +kernel) (by decide +kernel)
set_option maxRecDepth 20000 in
theorem gX1_personComes_X1_step : GoodIn wsX1_personComes (wsV RX1 34 RX1 yX1_step wsX1_step) := goodIn_app (goodIn_of _ (by decide +kernel)) ggX1_personComes_X1_step
set_option maxRecDepth 20000 in
theorem ggX1_personComes_X1_isWord : GoodIn wsX1_personComes wsX1_isWord := goodIn_r _ [32, 11, 8, 9, 33, 34, 35, 36, 37, 38, 39, 40, 41, 42, 43, 44, 45, 46, 47, 48, 49, 50, 51, 52, 53, 54, 55, 56, 57, 58, 59, 60, 61, 62, 63, 64, 65, 66, 67, 68, 69, 70, 71, 72, 73, 74, 75, 76, 77, 78, 79, 80, 81, 16, 17, 18, 6, 19, 10, 20, 111, 112, 113, 114, 115, 116, 117] (by decide +kernel) (by decide +kernel)
set_option maxRecDepth 20000 in
theorem gX1_personComes_X1_isWord : GoodIn wsX1_personComes (wsV RX1 45 RX1 yX1_isWord wsX1_isWord) := goodIn_app (goodIn_of _ (by decide +kernel)) ggX1_personComes_X1_isWord
set_option maxRecDepth 20000 in
theorem ggX1_personComes_X1_isNumber : GoodIn wsX1_personComes wsX1_isNumber := goodIn_r _ [85, 11, 2, 86, 87, 88, 111, 112, 113, 114, 115, 116, 117] (by decide +kernel) (by decide +kernel)
set_option maxRecDepth 20000 in
theorem gX1_personComes_X1_isNumber : GoodIn wsX1_personComes (wsV RX1 68 RX1 yX1_isNumber wsX1_isNumber) := goodIn_app (goodIn_of _ (by decide +kernel)) ggX1_personComes_X1_isNumber
set_option maxRecDepth 20000 in
theorem ggX1_personComes_X2_add : GoodIn wsX1_personComes wsX2_add := goodIn_r _ [93, 94, 95, 96, 97, 98, 99, 100, 101, 102, 103, 104, 105, 106, 107, 108, 109, 110] (by decide +kernel) (by decide +kernel)
set_option maxRecDepth 20000 in
theorem gX1_personComes_X2_add : GoodIn wsX1_personComes (wsV RX1 72 RX2 yX2_add wsX2_add) := goodIn_app (goodIn_of _ (by decide +kernel)) ggX1_personComes_X2_add
theorem dX1_personComes_0 : decode cX1_personComes 0 = .ok (.aload_n 1, 1) := by decide +kernel
theorem dX1_personComes_1 : decode cX1_personComes 1 = .ok (.getfield 61, 3) := by decide +kernel
theorem dX1_personComes_4 : decode cX1_personComes 4 = .ok (.bipush 8, 2) := by decide +kernel
theorem dX1_personComes_6 : decode cX1_personComes 6 = .ok (.if_icmp .lt 5, 3) := by decide +kernel
theorem dX1_personComes_9 : decode cX1_personComes 9 = .ok (.iconst 0, 1) := by decide +kernel
theorem dX1_personComes_10 : decode cX1_personComes 10 = .ok (.ireturn, 1) := by decide +kernel
theorem dX1_personComes_11 : decode cX1_personComes 11 = .ok (.aload_n 0, 1) := by decide +kernel
theorem dX1_personComes_12 : decode cX1_personComes 12 = .ok (.invokevirtual 34, 3) := by decide +kernel
theorem dX1_personComes_15 : decode cX1_personComes 15 = .ok (.iconst 0, 1) := by decide +kernel
theorem dX1_personComes_16 : decode cX1_personComes 16 = .ok (.istore_n 3, 1) := by decide +kernel
theorem dX1_personComes_17 : decode cX1_personComes 17 = .ok (.aload_n 0, 1) := by decide +kernel
theorem dX1_personComes_18 : decode cX1_personComes 18 = .ok (.ldc 66, 2) := by decide +kernel
theorem dX1_personComes_20 : decode cX1_personComes 20 = .ok (.invokevirtual 45, 3) := by decide +kernel
theorem dX1_personComes_23 : decode cX1_personComes 23 = .ok (.ifCond .eq 28, 3) := by decide +kernel
theorem dX1_personComes_26 : decode cX1_personComes 26 = .ok (.aload_n 0, 1) := by decide +kernel
theorem dX1_personComes_27 : decode cX1_personComes 27 = .ok (.invokevirtual 34, 3) := by decide +kernel
theorem dX1_personComes_30 : decode cX1_personComes 30 = .ok (.aload_n 0, 1) := by decide +kernel
theorem dX1_personComes_31 : decode cX1_personComes 31 = .ok (.iconst 0, 1) := by decide +kernel
theorem dX1_personComes_32 : decode cX1_personComes 32 = .ok (.bipush 29, 2) := by decide +kernel
theorem dX1_personComes_34 : decode cX1_personComes 34 = .ok (.invokevirtual 68, 3) := by decide +kernel
theorem dX1_personComes_37 : decode cX1_personComes 37 = .ok (.ifCond .ne 5, 3) := by decide +kernel
theorem dX1_personComes_40 : decode cX1_personComes 40 = .ok (.iconst 0, 1) := by decide +kernel
theorem dX1_personComes_41 : decode cX1_personComes 41 = .ok (.ireturn, 1) := by decide +kernel
theorem dX1_personComes_42 : decode cX1_personComes 42 = .ok (.aload_n 0, 1) := by decide +kernel
theorem dX1_personComes_43 : decode cX1_personComes 43 = .ok (.getfield 31, 3) := by decide +kernel
theorem dX1_personComes_46 : decode cX1_personComes 46 = .ok (.istore_n 3, 1) := by decide +kernel
theorem dX1_personComes_47 : decode cX1_personComes 47 = .ok (.aload_n 0, 1) := by decide +kernel
theorem dX1_personComes_48 : decode cX1_personComes 48 = .ok (.invokevirtual 34, 3) := by decide +kernel
theorem dX1_personComes_51 : decode cX1_personComes 51 = .ok (.aload_n 1, 1) := by decide +kernel
theorem dX1_personComes_52 : decode cX1_personComes 52 = .ok (.iload_n 2, 1) := by decide +kernel
theorem dX1_personComes_53 : decode cX1_personComes 53 = .ok (.iload_n 3, 1) := by decide +kernel
theorem dX1_personComes_54 : decode cX1_personComes 54 = .ok (.invokevirtual 72, 3) := by decide +kernel
theorem dX1_personComes_57 : decode cX1_personComes 57 = .ok (.iconst 1, 1) := by decide +kernel
theorem dX1_personComes_58 : decode cX1_personComes 58 = .ok (.ireturn, 1) := by decide +kernel
set_option maxRecDepth 20000 in
theorem ggX1_noiseComes_X1_step : GoodIn wsX1_noiseComes wsX1_step := goodIn_r _ [7, 8, 9, 10, 11, 1, 12, 13, 14, 6, 15, 16, 17, 18, 19, 20, 21, 22, 23, 24, 25, 26, 27, 28, 36, 37, 38, 39, 40, 41, 42] (by decide +kernel) (by decide +kernel)
set_option maxRecDepth 20000 in
theorem gX1_noiseComes_X1_step : GoodIn wsX1_noiseComes (wsV RX1 34 RX1 yX1_step wsX1_step) := goodIn_app (goodIn_of _ (by decide +kernel)) ggX1_noiseComes_X1_step
set_option maxRecDepth 20000 in
theorem ggX1_noiseComes_X1_isNumber : GoodIn wsX1_noiseComes wsX1_isNumber := goodIn_r _ [32, 11, 1, 33, 34, 35, 36, 37, 38, 39, 40, 41, 42] (by decide +kernel) (by decide +kernel)
set_option maxRecDepth 20000 in
theorem gX1_noiseComes_X1_isNumber : GoodIn wsX1_noiseComes (wsV RX1 68 RX1 yX1_isNumber wsX1_isNumber) := goodIn_app (goodIn_of _ (by decide +kernel)) ggX1_noiseComes_X1_isNumber
theorem dX1_noiseComes_0 : decode cX1_noiseComes 0 = .ok (.aload_n 0, 1) := by decide +kernel
theorem dX1_noiseComes_1 : decode cX1_noiseComes 1 = .ok (.invokevirtual 34, 3) := by decide +kernel
theorem dX1_noiseComes_4 : decode cX1_noiseComes 4 = .ok (.aload_n 0, 1) := by decide +kernel
theorem dX1_noiseComes_5 : decode cX1_noiseComes 5 = .ok (.iconst 0, 1) := by decide +kernel
theorem dX1_noiseComes_6 : decode cX1_noiseComes 6 = .ok (.bipush 29, 2) := by decide +kernel
theorem dX1_noiseComes_8 : decode cX1_noiseComes 8 = .ok (.invokevirtual 68, 3) := by decide +kernel
theorem dX1_noiseComes_11 : decode cX1_noiseComes 11 = .ok (.ifCond .ne 5, 3) := by decide +kernel
theorem dX1_noiseComes_14 : decode cX1_noiseComes 14 = .ok (.iconst 0, 1) := by decide +kernel
theorem dX1_noiseComes_15 : decode cX1_noiseComes 15 = .ok (.ireturn, 1) := by decide +kernel
theorem dX1_noiseComes_16 : decode cX1_noiseComes 16 = .ok (.aload_n 0, 1) := by decide +kernel
theorem dX1_noiseComes_17 : decode cX1_noiseComes 17 = .ok (.getfield 31, 3) := by decide +kernel
theorem dX1_noiseComes_20 : decode cX1_noiseComes 20 = .ok (.istore_n 2, 1) := by decide +kernel
theorem dX1_noiseComes_21 : decode cX1_noiseComes 21 = .ok (.aload_n 0, 1) := by decide +kernel
theorem dX1_noiseComes_22 : decode cX1_noiseComes 22 = .ok (.invokevirtual 34, 3) := by decide +kernel
theorem dX1_noiseComes_25 : decode cX1_noiseComes 25 = .ok (.aload_n 0, 1) := by decide +kernel
theorem dX1_noiseComes_26 : decode cX1_noiseComes 26 = .ok (.iconst 0, 1) := by decide +kernel
theorem dX1_noiseComes_27 : decode cX1_noiseComes 27 = .ok (.bipush 20, 2) := by decide +kernel
theorem dX1_noiseComes_29 : decode cX1_noiseComes 29 = .ok (.invokevirtual 68, 3) := by decide +kernel
theorem dX1_noiseComes_32 : decode cX1_noiseComes 32 = .ok (.ifCond .ne 5, 3) := by decide +kernel
theorem dX1_noiseComes_35 : decode cX1_noiseComes 35 = .ok (.iconst 0, 1) := by decide +kernel
theorem dX1_noiseComes_36 : decode cX1_noiseComes 36 = .ok (.ireturn, 1) := by decide +kernel
theorem dX1_noiseComes_37 : decode cX1_noiseComes 37 = .ok (.aload_n 1, 1) := by decide +kernel
theorem dX1_noiseComes_38 : decode cX1_noiseComes 38 = .ok (.getfield 76, 3) := by decide +kernel
theorem dX1_noiseComes_41 : decode cX1_noiseComes 41 = .ok (.iload_n 2, 1) := by decide +kernel
theorem dX1_noiseComes_42 : decode cX1_noiseComes 42 = .ok (.aload_n 0, 1) := by decide +kernel
theorem dX1_noiseComes_43 : decode cX1_noiseComes 43 = .ok (.getfield 31, 3) := by decide +kernel
theorem dX1_noiseComes_46 : decode cX1_noiseComes 46 = .ok (.iastore, 1) := by decide +kernel
theorem dX1_noiseComes_47 : decode cX1_noiseComes 47 = .ok (.aload_n 0, 1) := by decide +kernel
theorem dX1_noiseComes_48 : decode cX1_noiseComes 48 = .ok (.invokevirtual 34, 3) := by decide +kernel
theorem dX1_noiseComes_51 : decode cX1_noiseComes 51 = .ok (.iconst 1, 1) := by decide +kernel
theorem dX1_noiseComes_52 : decode cX1_noiseComes 52 = .ok (.ireturn, 1) := by decide +kernel
set_option maxRecDepth 20000 in
theorem ggX1_hushComes_X1_isWord : GoodIn wsX1_hushComes wsX1_isWord := goodIn_r _ [9, 10, 11, 12, 13, 14, 15, 16, 17, 18, 19, 20, 21, 22, 23, 24, 25, 26, 27, 28, 29, 30, 31, 32, 33, 34, 35, 36, 37, 38, 39, 40, 41, 42, 43, 44, 45, 46, 47, 48, 49, 50, 51, 52, 53, 54, 55, 56, 57, 58, 59, 60, 61, 62, 63, 64, 8, 65, 66, 67, 91, 92, 93, 94, 95, 96, 97] (by decide +kernel) (by decide +kernel)
set_option maxRecDepth 20000 in
theorem gX1_hushComes_X1_isWord : GoodIn wsX1_hushComes (wsV RX1 45 RX1 yX1_isWord wsX1_isWord) := goodIn_app (goodIn_of _ (by decide +kernel)) ggX1_hushComes_X1_isWord
set_option maxRecDepth 20000 in
theorem ggX1_hushComes_X1_step : GoodIn wsX1_hushComes wsX1_step := goodIn_r _ [71, 11, 12, 66, 10, 1, 72, 73, 74, 8, 75, 62, 63, 64, 65, 67, 76, 77, 78, 79, 80, 81, 82, 83, 91, 92, 93, 94, 95, 96, 97] (by decide +kernel) (by decide +kernel)
set_option maxRecDepth 20000 in
theorem gX1_hushComes_X1_step : GoodIn wsX1_hushComes (wsV RX1 34 RX1 yX1_step wsX1_step) := goodIn_app (goodIn_of _ (by decide +kernel)) ggX1_hushComes_X1_step
set_option maxRecDepth 20000 in
theorem ggX1_hushComes_X1_isNumber : GoodIn wsX1_hushComes wsX1_isNumber := goodIn_r _ [87, 10, 1, 88, 89, 90, 91, 92, 93, 94, 95, 96, 97] (by decide +kernel) (by decide +kernel)
set_option maxRecDepth 20000 in
theorem gX1_hushComes_X1_isNumber : GoodIn wsX1_hushComes (wsV RX1 68 RX1 yX1_isNumber wsX1_isNumber) := goodIn_app (goodIn_of _ (by decide +kernel)) ggX1_hushComes_X1_isNumber
theorem dX1_hushComes_0 : decode cX1_hushComes 0 = .ok (.aload_n 0, 1) := by decide +kernel
theorem dX1_hushComes_1 : decode cX1_hushComes 1 = .ok (.ldc 79, 2) := by decide +kernel
theorem dX1_hushComes_3 : decode cX1_hushComes 3 = .ok (.invokevirtual 45, 3) := by decide +kernel
theorem dX1_hushComes_6 : decode cX1_hushComes 6 = .ok (.ifCond .eq 30, 3) := by decide +kernel
theorem dX1_hushComes_9 : decode cX1_hushComes 9 = .ok (.aload_n 0, 1) := by decide +kernel
theorem dX1_hushComes_10 : decode cX1_hushComes 10 = .ok (.invokevirtual 34, 3) := by decide +kernel
theorem dX1_hushComes_13 : decode cX1_hushComes 13 = .ok (.aload_n 0, 1) := by decide +kernel
theorem dX1_hushComes_14 : decode cX1_hushComes 14 = .ok (.iconst 0, 1) := by decide +kernel
theorem dX1_hushComes_15 : decode cX1_hushComes 15 = .ok (.bipush 99, 2) := by decide +kernel
theorem dX1_hushComes_17 : decode cX1_hushComes 17 = .ok (.invokevirtual 68, 3) := by decide +kernel
theorem dX1_hushComes_20 : decode cX1_hushComes 20 = .ok (.ifCond .ne 5, 3) := by decide +kernel
theorem dX1_hushComes_23 : decode cX1_hushComes 23 = .ok (.iconst 0, 1) := by decide +kernel
theorem dX1_hushComes_24 : decode cX1_hushComes 24 = .ok (.ireturn, 1) := by decide +kernel
theorem dX1_hushComes_25 : decode cX1_hushComes 25 = .ok (.aload_n 1, 1) := by decide +kernel
theorem dX1_hushComes_26 : decode cX1_hushComes 26 = .ok (.aload_n 0, 1) := by decide +kernel
theorem dX1_hushComes_27 : decode cX1_hushComes 27 = .ok (.getfield 31, 3) := by decide +kernel
theorem dX1_hushComes_30 : decode cX1_hushComes 30 = .ok (.putfield 81, 3) := by decide +kernel
theorem dX1_hushComes_33 : decode cX1_hushComes 33 = .ok (.goto 76, 3) := by decide +kernel
theorem dX1_hushComes_36 : decode cX1_hushComes 36 = .ok (.aload_n 0, 1) := by decide +kernel
theorem dX1_hushComes_37 : decode cX1_hushComes 37 = .ok (.ldc 84, 2) := by decide +kernel
theorem dX1_hushComes_39 : decode cX1_hushComes 39 = .ok (.invokevirtual 45, 3) := by decide +kernel
theorem dX1_hushComes_42 : decode cX1_hushComes 42 = .ok (.ifCond .eq 30, 3) := by decide +kernel
theorem dX1_hushComes_45 : decode cX1_hushComes 45 = .ok (.aload_n 0, 1) := by decide +kernel
theorem dX1_hushComes_46 : decode cX1_hushComes 46 = .ok (.invokevirtual 34, 3) := by decide +kernel
theorem dX1_hushComes_49 : decode cX1_hushComes 49 = .ok (.aload_n 0, 1) := by decide +kernel
theorem dX1_hushComes_50 : decode cX1_hushComes 50 = .ok (.iconst 0, 1) := by decide +kernel
theorem dX1_hushComes_51 : decode cX1_hushComes 51 = .ok (.bipush 10, 2) := by decide +kernel
theorem dX1_hushComes_53 : decode cX1_hushComes 53 = .ok (.invokevirtual 68, 3) := by decide +kernel
theorem dX1_hushComes_56 : decode cX1_hushComes 56 = .ok (.ifCond .ne 5, 3) := by decide +kernel
theorem dX1_hushComes_59 : decode cX1_hushComes 59 = .ok (.iconst 0, 1) := by decide +kernel
theorem dX1_hushComes_60 : decode cX1_hushComes 60 = .ok (.ireturn, 1) := by decide +kernel
theorem dX1_hushComes_61 : decode cX1_hushComes 61 = .ok (.aload_n 1, 1) := by decide +kernel
theorem dX1_hushComes_62 : decode cX1_hushComes 62 = .ok (.aload_n 0, 1) := by decide +kernel
theorem dX1_hushComes_63 : decode cX1_hushComes 63 = .ok (.getfield 31, 3) := by decide +kernel
theorem dX1_hushComes_66 : decode cX1_hushComes 66 = .ok (.putfield 86, 3) := by decide +kernel
theorem dX1_hushComes_69 : decode cX1_hushComes 69 = .ok (.goto 40, 3) := by decide +kernel
theorem dX1_hushComes_72 : decode cX1_hushComes 72 = .ok (.aload_n 0, 1) := by decide +kernel
theorem dX1_hushComes_73 : decode cX1_hushComes 73 = .ok (.ldc 89, 2) := by decide +kernel
theorem dX1_hushComes_75 : decode cX1_hushComes 75 = .ok (.invokevirtual 45, 3) := by decide +kernel
theorem dX1_hushComes_78 : decode cX1_hushComes 78 = .ok (.ifCond .eq 29, 3) := by decide +kernel
theorem dX1_hushComes_81 : decode cX1_hushComes 81 = .ok (.aload_n 0, 1) := by decide +kernel
theorem dX1_hushComes_82 : decode cX1_hushComes 82 = .ok (.invokevirtual 34, 3) := by decide +kernel
theorem dX1_hushComes_85 : decode cX1_hushComes 85 = .ok (.aload_n 0, 1) := by decide +kernel
theorem dX1_hushComes_86 : decode cX1_hushComes 86 = .ok (.iconst 1, 1) := by decide +kernel
theorem dX1_hushComes_87 : decode cX1_hushComes 87 = .ok (.iconst 5, 1) := by decide +kernel
theorem dX1_hushComes_88 : decode cX1_hushComes 88 = .ok (.invokevirtual 68, 3) := by decide +kernel
theorem dX1_hushComes_91 : decode cX1_hushComes 91 = .ok (.ifCond .ne 5, 3) := by decide +kernel
theorem dX1_hushComes_94 : decode cX1_hushComes 94 = .ok (.iconst 0, 1) := by decide +kernel
theorem dX1_hushComes_95 : decode cX1_hushComes 95 = .ok (.ireturn, 1) := by decide +kernel
theorem dX1_hushComes_96 : decode cX1_hushComes 96 = .ok (.aload_n 1, 1) := by decide +kernel
theorem dX1_hushComes_97 : decode cX1_hushComes 97 = .ok (.aload_n 0, 1) := by decide +kernel
theorem dX1_hushComes_98 : decode cX1_hushComes 98 = .ok (.getfield 31, 3) := by decide +kernel
theorem dX1_hushComes_101 : decode cX1_hushComes 101 = .ok (.putfield 91, 3) := by decide +kernel
theorem dX1_hushComes_104 : decode cX1_hushComes 104 = .ok (.goto 5, 3) := by decide +kernel
theorem dX1_hushComes_107 : decode cX1_hushComes 107 = .ok (.iconst 0, 1) := by decide +kernel
theorem dX1_hushComes_108 : decode cX1_hushComes 108 = .ok (.ireturn, 1) := by decide +kernel
theorem dX1_hushComes_109 : decode cX1_hushComes 109 = .ok (.aload_n 0, 1) := by decide +kernel
theorem dX1_hushComes_110 : decode cX1_hushComes 110 = .ok (.invokevirtual 34, 3) := by decide +kernel
theorem dX1_hushComes_113 : decode cX1_hushComes 113 = .ok (.iconst 1, 1) := by decide +kernel
theorem dX1_hushComes_114 : decode cX1_hushComes 114 = .ok (.ireturn, 1) := by decide +kernel
set_option maxRecDepth 20000 in
theorem ggX1_step_X1_endOfRun : GoodIn wsX1_step wsX1_endOfRun := goodIn_r _ [10, 3, 11, 12, 13, 9, 14, 15, 24, 25, 26, 27, 28, 29, 30] (by decide +kernel) (by decide +kernel)
set_option maxRecDepth 20000 in
theorem gX1_step_X1_endOfRun : GoodIn wsX1_step (wsV RX1 94 RX1 yX1_endOfRun wsX1_endOfRun) := goodIn_app (goodIn_of _ (by decide +kernel)) ggX1_step_X1_endOfRun
set_option maxRecDepth 20000 in
theorem ggX1_step_X1_isByte : GoodIn wsX1_step wsX1_isByte := goodIn_r _ [14, 3, 15, 24, 25, 26, 27, 28, 29, 30] (by decide +kernel) (by decide +kernel)
set_option maxRecDepth 20000 in
theorem gX1_step_X1_isByte : GoodIn wsX1_step (wsV RX1 98 RX1 yX1_isByte wsX1_isByte) := goodIn_app (goodIn_of _ (by decide +kernel)) ggX1_step_X1_isByte
set_option maxRecDepth 20000 in
theorem ggX1_step_X1_valueOfNumber : GoodIn wsX1_step wsX1_valueOfNumber := goodIn_r _ [19, 2, 1, 3, 15, 20, 21, 22, 23, 24, 25, 26, 27, 28, 29, 30] (by decide +kernel) (by decide +kernel)
set_option maxRecDepth 20000 in
theorem gX1_step_X1_valueOfNumber : GoodIn wsX1_step (wsV RX1 102 RX1 yX1_valueOfNumber wsX1_valueOfNumber) := goodIn_app (goodIn_of _ (by decide +kernel)) ggX1_step_X1_valueOfNumber
theorem dX1_step_0 : decode cX1_step 0 = .ok (.aload_n 0, 1) := by decide +kernel
theorem dX1_step_1 : decode cX1_step 1 = .ok (.aload_n 0, 1) := by decide +kernel
theorem dX1_step_2 : decode cX1_step 2 = .ok (.aload_n 0, 1) := by decide +kernel
theorem dX1_step_3 : decode cX1_step 3 = .ok (.getfield 25, 3) := by decide +kernel
theorem dX1_step_6 : decode cX1_step 6 = .ok (.bipush 32, 2) := by decide +kernel
theorem dX1_step_8 : decode cX1_step 8 = .ok (.bipush 32, 2) := by decide +kernel
theorem dX1_step_10 : decode cX1_step 10 = .ok (.invokevirtual 94, 3) := by decide +kernel
theorem dX1_step_13 : decode cX1_step 13 = .ok (.putfield 22, 3) := by decide +kernel
theorem dX1_step_16 : decode cX1_step 16 = .ok (.aload_n 0, 1) := by decide +kernel
theorem dX1_step_17 : decode cX1_step 17 = .ok (.aload_n 0, 1) := by decide +kernel
theorem dX1_step_18 : decode cX1_step 18 = .ok (.getfield 22, 3) := by decide +kernel
theorem dX1_step_21 : decode cX1_step 21 = .ok (.iconst 1, 1) := by decide +kernel
theorem dX1_step_22 : decode cX1_step 22 = .ok (.iadd, 1) := by decide +kernel
theorem dX1_step_23 : decode cX1_step 23 = .ok (.putfield 25, 3) := by decide +kernel
theorem dX1_step_26 : decode cX1_step 26 = .ok (.aload_n 0, 1) := by decide +kernel
theorem dX1_step_27 : decode cX1_step 27 = .ok (.getfield 22, 3) := by decide +kernel
theorem dX1_step_30 : decode cX1_step 30 = .ok (.aload_n 0, 1) := by decide +kernel
theorem dX1_step_31 : decode cX1_step 31 = .ok (.getfield 15, 3) := by decide +kernel
theorem dX1_step_34 : decode cX1_step 34 = .ok (.if_icmp .lt 19, 3) := by decide +kernel
theorem dX1_step_37 : decode cX1_step 37 = .ok (.aload_n 0, 1) := by decide +kernel
theorem dX1_step_38 : decode cX1_step 38 = .ok (.iconst 3, 1) := by decide +kernel
theorem dX1_step_39 : decode cX1_step 39 = .ok (.putfield 28, 3) := by decide +kernel
theorem dX1_step_42 : decode cX1_step 42 = .ok (.aload_n 0, 1) := by decide +kernel
theorem dX1_step_43 : decode cX1_step 43 = .ok (.aload_n 0, 1) := by decide +kernel
theorem dX1_step_44 : decode cX1_step 44 = .ok (.getfield 22, 3) := by decide +kernel
theorem dX1_step_47 : decode cX1_step 47 = .ok (.putfield 25, 3) := by decide +kernel
theorem dX1_step_50 : decode cX1_step 50 = .ok (.goto 113, 3) := by decide +kernel
theorem dX1_step_53 : decode cX1_step 53 = .ok (.aload_n 0, 1) := by decide +kernel
theorem dX1_step_54 : decode cX1_step 54 = .ok (.aload_n 0, 1) := by decide +kernel
theorem dX1_step_55 : decode cX1_step 55 = .ok (.getfield 22, 3) := by decide +kernel
theorem dX1_step_58 : decode cX1_step 58 = .ok (.bipush 97, 2) := by decide +kernel
theorem dX1_step_60 : decode cX1_step 60 = .ok (.bipush 122, 2) := by decide +kernel
theorem dX1_step_62 : decode cX1_step 62 = .ok (.invokevirtual 98, 3) := by decide +kernel
theorem dX1_step_65 : decode cX1_step 65 = .ok (.ifCond .eq 27, 3) := by decide +kernel
theorem dX1_step_68 : decode cX1_step 68 = .ok (.aload_n 0, 1) := by decide +kernel
theorem dX1_step_69 : decode cX1_step 69 = .ok (.iconst 0, 1) := by decide +kernel
theorem dX1_step_70 : decode cX1_step 70 = .ok (.putfield 28, 3) := by decide +kernel
theorem dX1_step_73 : decode cX1_step 73 = .ok (.aload_n 0, 1) := by decide +kernel
theorem dX1_step_74 : decode cX1_step 74 = .ok (.aload_n 0, 1) := by decide +kernel
theorem dX1_step_75 : decode cX1_step 75 = .ok (.aload_n 0, 1) := by decide +kernel
theorem dX1_step_76 : decode cX1_step 76 = .ok (.getfield 22, 3) := by decide +kernel
theorem dX1_step_79 : decode cX1_step 79 = .ok (.bipush 97, 2) := by decide +kernel
theorem dX1_step_81 : decode cX1_step 81 = .ok (.bipush 122, 2) := by decide +kernel
theorem dX1_step_83 : decode cX1_step 83 = .ok (.invokevirtual 94, 3) := by decide +kernel
theorem dX1_step_86 : decode cX1_step 86 = .ok (.putfield 25, 3) := by decide +kernel
theorem dX1_step_89 : decode cX1_step 89 = .ok (.goto 74, 3) := by decide +kernel
theorem dX1_step_92 : decode cX1_step 92 = .ok (.aload_n 0, 1) := by decide +kernel
theorem dX1_step_93 : decode cX1_step 93 = .ok (.aload_n 0, 1) := by decide +kernel
theorem dX1_step_94 : decode cX1_step 94 = .ok (.getfield 22, 3) := by decide +kernel
theorem dX1_step_97 : decode cX1_step 97 = .ok (.bipush 48, 2) := by decide +kernel
theorem dX1_step_99 : decode cX1_step 99 = .ok (.bipush 57, 2) := by decide +kernel
theorem dX1_step_101 : decode cX1_step 101 = .ok (.invokevirtual 98, 3) := by decide +kernel
theorem dX1_step_104 : decode cX1_step 104 = .ok (.ifCond .eq 35, 3) := by decide +kernel
theorem dX1_step_107 : decode cX1_step 107 = .ok (.aload_n 0, 1) := by decide +kernel
theorem dX1_step_108 : decode cX1_step 108 = .ok (.iconst 1, 1) := by decide +kernel
theorem dX1_step_109 : decode cX1_step 109 = .ok (.putfield 28, 3) := by decide +kernel
theorem dX1_step_112 : decode cX1_step 112 = .ok (.aload_n 0, 1) := by decide +kernel
theorem dX1_step_113 : decode cX1_step 113 = .ok (.aload_n 0, 1) := by decide +kernel
theorem dX1_step_114 : decode cX1_step 114 = .ok (.aload_n 0, 1) := by decide +kernel
theorem dX1_step_115 : decode cX1_step 115 = .ok (.getfield 22, 3) := by decide +kernel
theorem dX1_step_118 : decode cX1_step 118 = .ok (.bipush 48, 2) := by decide +kernel
theorem dX1_step_120 : decode cX1_step 120 = .ok (.bipush 57, 2) := by decide +kernel
theorem dX1_step_122 : decode cX1_step 122 = .ok (.invokevirtual 94, 3) := by decide +kernel
theorem dX1_step_125 : decode cX1_step 125 = .ok (.putfield 25, 3) := by decide +kernel
theorem dX1_step_128 : decode cX1_step 128 = .ok (.aload_n 0, 1) := by decide +kernel
theorem dX1_step_129 : decode cX1_step 129 = .ok (.aload_n 0, 1) := by decide +kernel
theorem dX1_step_130 : decode cX1_step 130 = .ok (.invokevirtual 102, 3) := by decide +kernel
theorem dX1_step_133 : decode cX1_step 133 = .ok (.putfield 31, 3) := by decide +kernel
theorem dX1_step_136 : decode cX1_step 136 = .ok (.goto 27, 3) := by decide +kernel
theorem dX1_step_139 : decode cX1_step 139 = .ok (.aload_n 0, 1) := by decide +kernel
theorem dX1_step_140 : decode cX1_step 140 = .ok (.aload_n 0, 1) := by decide +kernel
theorem dX1_step_141 : decode cX1_step 141 = .ok (.aload_n 0, 1) := by decide +kernel
theorem dX1_step_142 : decode cX1_step 142 = .ok (.getfield 22, 3) := by decide +kernel
theorem dX1_step_145 : decode cX1_step 145 = .ok (.bipush 59, 2) := by decide +kernel
theorem dX1_step_147 : decode cX1_step 147 = .ok (.bipush 59, 2) := by decide +kernel
theorem dX1_step_149 : decode cX1_step 149 = .ok (.invokevirtual 98, 3) := by decide +kernel
theorem dX1_step_152 : decode cX1_step 152 = .ok (.ifCond .eq 7, 3) := by decide +kernel
theorem dX1_step_155 : decode cX1_step 155 = .ok (.iconst 2, 1) := by decide +kernel
theorem dX1_step_156 : decode cX1_step 156 = .ok (.goto 4, 3) := by decide +kernel
theorem dX1_step_159 : decode cX1_step 159 = .ok (.iconst 4, 1) := by decide +kernel
theorem dX1_step_160 : decode cX1_step 160 = .ok (.putfield 28, 3) := by decide +kernel
theorem dX1_step_163 : decode cX1_step 163 = .ok (.return_, 1) := by decide +kernel
set_option maxRecDepth 20000 in
theorem ggX1_endOfRun_X1_isByte : GoodIn wsX1_endOfRun wsX1_isByte := goodIn_r _ [6, 1, 7, 8, 9, 10, 11, 12, 13, 14] (by decide +kernel) (by decide +kernel)
set_option maxRecDepth 20000 in
theorem gX1_endOfRun_X1_isByte : GoodIn wsX1_endOfRun (wsV RX1 98 RX1 yX1_isByte wsX1_isByte) := goodIn_app (goodIn_of _ (by decide +kernel)) ggX1_endOfRun_X1_isByte
theorem dX1_endOfRun_0 : decode cX1_endOfRun 0 = .ok (.iload_n 1, 1) := by decide +kernel
theorem dX1_endOfRun_1 : decode cX1_endOfRun 1 = .ok (.istore 4, 2) := by decide +kernel
theorem dX1_endOfRun_3 : decode cX1_endOfRun 3 = .ok (.iload 4, 2) := by decide +kernel
theorem dX1_endOfRun_5 : decode cX1_endOfRun 5 = .ok (.aload_n 0, 1) := by decide +kernel
theorem dX1_endOfRun_6 : decode cX1_endOfRun 6 = .ok (.getfield 15, 3) := by decide +kernel
theorem dX1_endOfRun_9 : decode cX1_endOfRun 9 = .ok (.if_icmp .ge 20, 3) := by decide +kernel
theorem dX1_endOfRun_12 : decode cX1_endOfRun 12 = .ok (.aload_n 0, 1) := by decide +kernel
theorem dX1_endOfRun_13 : decode cX1_endOfRun 13 = .ok (.iload 4, 2) := by decide +kernel
theorem dX1_endOfRun_15 : decode cX1_endOfRun 15 = .ok (.iload_n 2, 1) := by decide +kernel
theorem dX1_endOfRun_16 : decode cX1_endOfRun 16 = .ok (.iload_n 3, 1) := by decide +kernel
theorem dX1_endOfRun_17 : decode cX1_endOfRun 17 = .ok (.invokevirtual 98, 3) := by decide +kernel
theorem dX1_endOfRun_20 : decode cX1_endOfRun 20 = .ok (.ifCond .eq 9, 3) := by decide +kernel
theorem dX1_endOfRun_23 : decode cX1_endOfRun 23 = .ok (.iinc 4 1, 3) := by decide +kernel
theorem dX1_endOfRun_26 : decode cX1_endOfRun 26 = .ok (.goto (-23), 3) := by decide +kernel
theorem dX1_endOfRun_29 : decode cX1_endOfRun 29 = .ok (.iload 4, 2) := by decide +kernel
theorem dX1_endOfRun_31 : decode cX1_endOfRun 31 = .ok (.ireturn, 1) := by decide +kernel
theorem dX1_valueOfNumber_0 : decode cX1_valueOfNumber 0 = .ok (.iconst 0, 1) := by decide +kernel
theorem dX1_valueOfNumber_1 : decode cX1_valueOfNumber 1 = .ok (.istore_n 1, 1) := by decide +kernel
theorem dX1_valueOfNumber_2 : decode cX1_valueOfNumber 2 = .ok (.aload_n 0, 1) := by decide +kernel
theorem dX1_valueOfNumber_3 : decode cX1_valueOfNumber 3 = .ok (.getfield 22, 3) := by decide +kernel
theorem dX1_valueOfNumber_6 : decode cX1_valueOfNumber 6 = .ok (.istore_n 2, 1) := by decide +kernel
theorem dX1_valueOfNumber_7 : decode cX1_valueOfNumber 7 = .ok (.iload_n 2, 1) := by decide +kernel
theorem dX1_valueOfNumber_8 : decode cX1_valueOfNumber 8 = .ok (.aload_n 0, 1) := by decide +kernel
theorem dX1_valueOfNumber_9 : decode cX1_valueOfNumber 9 = .ok (.getfield 25, 3) := by decide +kernel
theorem dX1_valueOfNumber_12 : decode cX1_valueOfNumber 12 = .ok (.if_icmp .ge 38, 3) := by decide +kernel
theorem dX1_valueOfNumber_15 : decode cX1_valueOfNumber 15 = .ok (.iload_n 2, 1) := by decide +kernel
theorem dX1_valueOfNumber_16 : decode cX1_valueOfNumber 16 = .ok (.aload_n 0, 1) := by decide +kernel
theorem dX1_valueOfNumber_17 : decode cX1_valueOfNumber 17 = .ok (.getfield 15, 3) := by decide +kernel
theorem dX1_valueOfNumber_20 : decode cX1_valueOfNumber 20 = .ok (.if_icmp .ge 30, 3) := by decide +kernel
theorem dX1_valueOfNumber_23 : decode cX1_valueOfNumber 23 = .ok (.sipush 1000, 3) := by decide +kernel
theorem dX1_valueOfNumber_26 : decode cX1_valueOfNumber 26 = .ok (.bipush 10, 2) := by decide +kernel
theorem dX1_valueOfNumber_28 : decode cX1_valueOfNumber 28 = .ok (.iload_n 1, 1) := by decide +kernel
theorem dX1_valueOfNumber_29 : decode cX1_valueOfNumber 29 = .ok (.imul, 1) := by decide +kernel
theorem dX1_valueOfNumber_30 : decode cX1_valueOfNumber 30 = .ok (.aload_n 0, 1) := by decide +kernel
theorem dX1_valueOfNumber_31 : decode cX1_valueOfNumber 31 = .ok (.getfield 9, 3) := by decide +kernel
theorem dX1_valueOfNumber_34 : decode cX1_valueOfNumber 34 = .ok (.iload_n 2, 1) := by decide +kernel
theorem dX1_valueOfNumber_35 : decode cX1_valueOfNumber 35 = .ok (.iaload, 1) := by decide +kernel
theorem dX1_valueOfNumber_36 : decode cX1_valueOfNumber 36 = .ok (.iadd, 1) := by decide +kernel
theorem dX1_valueOfNumber_37 : decode cX1_valueOfNumber 37 = .ok (.bipush 48, 2) := by decide +kernel
theorem dX1_valueOfNumber_39 : decode cX1_valueOfNumber 39 = .ok (.isub, 1) := by decide +kernel
theorem dX1_valueOfNumber_40 : decode cX1_valueOfNumber 40 = .ok (.invokestatic 106, 3) := by decide +kernel
theorem dX1_valueOfNumber_43 : decode cX1_valueOfNumber 43 = .ok (.istore_n 1, 1) := by decide +kernel
theorem dX1_valueOfNumber_44 : decode cX1_valueOfNumber 44 = .ok (.iinc 2 1, 3) := by decide +kernel
theorem dX1_valueOfNumber_47 : decode cX1_valueOfNumber 47 = .ok (.goto (-40), 3) := by decide +kernel
theorem dX1_valueOfNumber_50 : decode cX1_valueOfNumber 50 = .ok (.iload_n 1, 1) := by decide +kernel
theorem dX1_valueOfNumber_51 : decode cX1_valueOfNumber 51 = .ok (.ireturn, 1) := by decide +kernel
set_option maxRecDepth 20000 in
theorem ggX1_isNumber_X3_isWithin : GoodIn wsX1_isNumber wsX3_isWithin := goodIn_r _ [5] (by decide +kernel) (by decide +kernel)
set_option maxRecDepth 20000 in
theorem gX1_isNumber_X3_isWithin_n112 : GoodIn wsX1_isNumber (wsX3_isWithin) := ggX1_isNumber_X3_isWithin
theorem dX1_isNumber_0 : decode cX1_isNumber 0 = .ok (.aload_n 0, 1) := by decide +kernel
theorem dX1_isNumber_1 : decode cX1_isNumber 1 = .ok (.getfield 28, 3) := by decide +kernel
theorem dX1_isNumber_4 : decode cX1_isNumber 4 = .ok (.iconst 1, 1) := by decide +kernel
theorem dX1_isNumber_5 : decode cX1_isNumber 5 = .ok (.if_icmp .ne 19, 3) := by decide +kernel
theorem dX1_isNumber_8 : decode cX1_isNumber 8 = .ok (.aload_n 0, 1) := by decide +kernel
theorem dX1_isNumber_9 : decode cX1_isNumber 9 = .ok (.getfield 31, 3) := by decide +kernel
theorem dX1_isNumber_12 : decode cX1_isNumber 12 = .ok (.iload_n 1, 1) := by decide +kernel
theorem dX1_isNumber_13 : decode cX1_isNumber 13 = .ok (.iload_n 2, 1) := by decide +kernel
theorem dX1_isNumber_14 : decode cX1_isNumber 14 = .ok (.invokestatic 112, 3) := by decide +kernel
theorem dX1_isNumber_17 : decode cX1_isNumber 17 = .ok (.ifCond .eq 7, 3) := by decide +kernel
theorem dX1_isNumber_20 : decode cX1_isNumber 20 = .ok (.iconst 1, 1) := by decide +kernel
theorem dX1_isNumber_21 : decode cX1_isNumber 21 = .ok (.goto 4, 3) := by decide +kernel
theorem dX1_isNumber_24 : decode cX1_isNumber 24 = .ok (.iconst 0, 1) := by decide +kernel
theorem dX1_isNumber_25 : decode cX1_isNumber 25 = .ok (.ireturn, 1) := by decide +kernel
set_option maxRecDepth 20000 in
theorem ggX1_isWord_J0_length_8abf5 : GoodIn wsX1_isWord wsJ0_length_8abf5 := goodIn_r _ [8, 9, 10, 11, 12, 7, 13, 14, 15] (by decide +kernel) (by decide +kernel)
set_option maxRecDepth 20000 in
theorem gX1_isWord_J0_length_8abf5 : GoodIn wsX1_isWord (wsV RX1 115 RJ0 yJ0_length_8abf5 wsJ0_length_8abf5) := goodIn_app (goodIn_of _ (by decide +kernel)) ggX1_isWord_J0_length_8abf5
set_option maxRecDepth 20000 in
theorem ggX1_isWord_J0_charAt_5068e : GoodIn wsX1_isWord wsJ0_charAt_5068e := goodIn_r _ [19, 9, 20, 21, 22, 7, 23, 14, 15, 24, 25, 26, 27, 28, 29, 30, 31, 32, 33, 34, 35, 36, 37, 38, 39, 40, 41, 42, 43, 44, 45, 46, 47, 48, 49, 50, 51, 52] (by decide +kernel) (by decide +kernel)
set_option maxRecDepth 20000 in
theorem gX1_isWord_J0_charAt_5068e : GoodIn wsX1_isWord (wsV RX1 119 RJ0 yJ0_charAt_5068e wsJ0_charAt_5068e) := goodIn_app (goodIn_of _ (by decide +kernel)) ggX1_isWord_J0_charAt_5068e
set_option maxRecDepth 20000 in
theorem ggX1_isWord_X1_isByte : GoodIn wsX1_isWord wsX1_isByte := goodIn_r _ [57, 58, 59, 60, 61, 62, 63, 64, 65, 66] (by decide +kernel) (by decide +kernel)
set_option maxRecDepth 20000 in
theorem gX1_isWord_X1_isByte : GoodIn wsX1_isWord (wsV RX1 98 RX1 yX1_isByte wsX1_isByte) := goodIn_app (goodIn_of _ (by decide +kernel)) ggX1_isWord_X1_isByte
theorem dX1_isWord_0 : decode cX1_isWord 0 = .ok (.aload_n 0, 1) := by decide +kernel
theorem dX1_isWord_1 : decode cX1_isWord 1 = .ok (.getfield 28, 3) := by decide +kernel
theorem dX1_isWord_4 : decode cX1_isWord 4 = .ok (.ifCond .ne 19, 3) := by decide +kernel
theorem dX1_isWord_7 : decode cX1_isWord 7 = .ok (.aload_n 0, 1) := by decide +kernel
theorem dX1_isWord_8 : decode cX1_isWord 8 = .ok (.getfield 25, 3) := by decide +kernel
theorem dX1_isWord_11 : decode cX1_isWord 11 = .ok (.aload_n 0, 1) := by decide +kernel
theorem dX1_isWord_12 : decode cX1_isWord 12 = .ok (.getfield 22, 3) := by decide +kernel
theorem dX1_isWord_15 : decode cX1_isWord 15 = .ok (.isub, 1) := by decide +kernel
theorem dX1_isWord_16 : decode cX1_isWord 16 = .ok (.aload_n 1, 1) := by decide +kernel
theorem dX1_isWord_17 : decode cX1_isWord 17 = .ok (.invokevirtual 115, 3) := by decide +kernel
theorem dX1_isWord_20 : decode cX1_isWord 20 = .ok (.if_icmp .eq 5, 3) := by decide +kernel
theorem dX1_isWord_23 : decode cX1_isWord 23 = .ok (.iconst 0, 1) := by decide +kernel
theorem dX1_isWord_24 : decode cX1_isWord 24 = .ok (.ireturn, 1) := by decide +kernel
theorem dX1_isWord_25 : decode cX1_isWord 25 = .ok (.iconst 0, 1) := by decide +kernel
theorem dX1_isWord_26 : decode cX1_isWord 26 = .ok (.istore_n 2, 1) := by decide +kernel
theorem dX1_isWord_27 : decode cX1_isWord 27 = .ok (.iload_n 2, 1) := by decide +kernel
theorem dX1_isWord_28 : decode cX1_isWord 28 = .ok (.aload_n 1, 1) := by decide +kernel
theorem dX1_isWord_29 : decode cX1_isWord 29 = .ok (.invokevirtual 115, 3) := by decide +kernel
theorem dX1_isWord_32 : decode cX1_isWord 32 = .ok (.if_icmp .ge 34, 3) := by decide +kernel
theorem dX1_isWord_35 : decode cX1_isWord 35 = .ok (.aload_n 0, 1) := by decide +kernel
theorem dX1_isWord_36 : decode cX1_isWord 36 = .ok (.aload_n 0, 1) := by decide +kernel
theorem dX1_isWord_37 : decode cX1_isWord 37 = .ok (.getfield 22, 3) := by decide +kernel
theorem dX1_isWord_40 : decode cX1_isWord 40 = .ok (.iload_n 2, 1) := by decide +kernel
theorem dX1_isWord_41 : decode cX1_isWord 41 = .ok (.iadd, 1) := by decide +kernel
theorem dX1_isWord_42 : decode cX1_isWord 42 = .ok (.aload_n 1, 1) := by decide +kernel
theorem dX1_isWord_43 : decode cX1_isWord 43 = .ok (.iload_n 2, 1) := by decide +kernel
theorem dX1_isWord_44 : decode cX1_isWord 44 = .ok (.invokevirtual 119, 3) := by decide +kernel
theorem dX1_isWord_47 : decode cX1_isWord 47 = .ok (.aload_n 1, 1) := by decide +kernel
theorem dX1_isWord_48 : decode cX1_isWord 48 = .ok (.iload_n 2, 1) := by decide +kernel
theorem dX1_isWord_49 : decode cX1_isWord 49 = .ok (.invokevirtual 119, 3) := by decide +kernel
theorem dX1_isWord_52 : decode cX1_isWord 52 = .ok (.invokevirtual 98, 3) := by decide +kernel
theorem dX1_isWord_55 : decode cX1_isWord 55 = .ok (.ifCond .ne 5, 3) := by decide +kernel
theorem dX1_isWord_58 : decode cX1_isWord 58 = .ok (.iconst 0, 1) := by decide +kernel
theorem dX1_isWord_59 : decode cX1_isWord 59 = .ok (.ireturn, 1) := by decide +kernel
theorem dX1_isWord_60 : decode cX1_isWord 60 = .ok (.iinc 2 1, 3) := by decide +kernel
theorem dX1_isWord_63 : decode cX1_isWord 63 = .ok (.goto (-36), 3) := by decide +kernel
theorem dX1_isWord_66 : decode cX1_isWord 66 = .ok (.iconst 1, 1) := by decide +kernel
theorem dX1_isWord_67 : decode cX1_isWord 67 = .ok (.ireturn, 1) := by decide +kernel
theorem dX1_nameOf_0 : decode cX1_nameOf 0 = .ok (.iload_n 0, 1) := by decide +kernel
theorem dX1_nameOf_1 : decode cX1_nameOf 1 = .ok (.tableswitch 50 1 5 #[35, 38, 41, 44, 47], 35) := by decide +kernel
theorem dX1_nameOf_36 : decode cX1_nameOf 36 = .ok (.ldc 123, 2) := by decide +kernel
theorem dX1_nameOf_38 : decode cX1_nameOf 38 = .ok (.areturn, 1) := by decide +kernel
theorem dX1_nameOf_39 : decode cX1_nameOf 39 = .ok (.ldc 125, 2) := by decide +kernel
theorem dX1_nameOf_41 : decode cX1_nameOf 41 = .ok (.areturn, 1) := by decide +kernel
theorem dX1_nameOf_42 : decode cX1_nameOf 42 = .ok (.ldc 127, 2) := by decide +kernel
theorem dX1_nameOf_44 : decode cX1_nameOf 44 = .ok (.areturn, 1) := by decide +kernel
theorem dX1_nameOf_45 : decode cX1_nameOf 45 = .ok (.ldc 129, 2) := by decide +kernel
theorem dX1_nameOf_47 : decode cX1_nameOf 47 = .ok (.areturn, 1) := by decide +kernel
theorem dX1_nameOf_48 : decode cX1_nameOf 48 = .ok (.ldc 131, 2) := by decide +kernel
theorem dX1_nameOf_50 : decode cX1_nameOf 50 = .ok (.areturn, 1) := by decide +kernel
theorem dX1_nameOf_51 : decode cX1_nameOf 51 = .ok (.ldc 133, 2) := by decide +kernel
theorem dX1_nameOf_53 : decode cX1_nameOf 53 = .ok (.areturn, 1) := by decide +kernel
theorem dX2_init_0 : decode cX2_init 0 = .ok (.aload_n 0, 1) := by decide +kernel
theorem dX2_init_1 : decode cX2_init 1 = .ok (.invokespecial 3, 3) := by decide +kernel
theorem dX2_init_4 : decode cX2_init 4 = .ok (.aload_n 0, 1) := by decide +kernel
theorem dX2_init_5 : decode cX2_init 5 = .ok (.iconst 0, 1) := by decide +kernel
theorem dX2_init_6 : decode cX2_init 6 = .ok (.putfield 9, 3) := by decide +kernel
theorem dX2_init_9 : decode cX2_init 9 = .ok (.aload_n 0, 1) := by decide +kernel
theorem dX2_init_10 : decode cX2_init 10 = .ok (.bipush 30, 2) := by decide +kernel
theorem dX2_init_12 : decode cX2_init 12 = .ok (.putfield 15, 3) := by decide +kernel
theorem dX2_init_15 : decode cX2_init 15 = .ok (.aload_n 0, 1) := by decide +kernel
theorem dX2_init_16 : decode cX2_init 16 = .ok (.iconst 3, 1) := by decide +kernel
theorem dX2_init_17 : decode cX2_init 17 = .ok (.putfield 18, 3) := by decide +kernel
theorem dX2_init_20 : decode cX2_init 20 = .ok (.aload_n 0, 1) := by decide +kernel
theorem dX2_init_21 : decode cX2_init 21 = .ok (.iconst 1, 1) := by decide +kernel
theorem dX2_init_22 : decode cX2_init 22 = .ok (.putfield 21, 3) := by decide +kernel
theorem dX2_init_25 : decode cX2_init 25 = .ok (.aload_n 0, 1) := by decide +kernel
theorem dX2_init_26 : decode cX2_init 26 = .ok (.bipush 30, 2) := by decide +kernel
theorem dX2_init_28 : decode cX2_init 28 = .ok (.newarray .int, 2) := by decide +kernel
theorem dX2_init_30 : decode cX2_init 30 = .ok (.putfield 24, 3) := by decide +kernel
theorem dX2_init_33 : decode cX2_init 33 = .ok (.iconst 0, 1) := by decide +kernel
theorem dX2_init_34 : decode cX2_init 34 = .ok (.istore_n 1, 1) := by decide +kernel
theorem dX2_init_35 : decode cX2_init 35 = .ok (.iload_n 1, 1) := by decide +kernel
theorem dX2_init_36 : decode cX2_init 36 = .ok (.bipush 30, 2) := by decide +kernel
theorem dX2_init_38 : decode cX2_init 38 = .ok (.if_icmp .ge 21, 3) := by decide +kernel
theorem dX2_init_41 : decode cX2_init 41 = .ok (.aload_n 0, 1) := by decide +kernel
theorem dX2_init_42 : decode cX2_init 42 = .ok (.getfield 24, 3) := by decide +kernel
theorem dX2_init_45 : decode cX2_init 45 = .ok (.iload_n 1, 1) := by decide +kernel
theorem dX2_init_46 : decode cX2_init 46 = .ok (.iconst 4, 1) := by decide +kernel
theorem dX2_init_47 : decode cX2_init 47 = .ok (.iload_n 1, 1) := by decide +kernel
theorem dX2_init_48 : decode cX2_init 48 = .ok (.imul, 1) := by decide +kernel
theorem dX2_init_49 : decode cX2_init 49 = .ok (.bipush 7, 2) := by decide +kernel
theorem dX2_init_51 : decode cX2_init 51 = .ok (.irem, 1) := by decide +kernel
theorem dX2_init_52 : decode cX2_init 52 = .ok (.iastore, 1) := by decide +kernel
theorem dX2_init_53 : decode cX2_init 53 = .ok (.iinc 1 1, 3) := by decide +kernel
theorem dX2_init_56 : decode cX2_init 56 = .ok (.goto (-21), 3) := by decide +kernel
theorem dX2_init_59 : decode cX2_init 59 = .ok (.aload_n 0, 1) := by decide +kernel
theorem dX2_init_60 : decode cX2_init 60 = .ok (.iconst 0, 1) := by decide +kernel
theorem dX2_init_61 : decode cX2_init 61 = .ok (.putfield 28, 3) := by decide +kernel
theorem dX2_init_64 : decode cX2_init 64 = .ok (.aload_n 0, 1) := by decide +kernel
theorem dX2_init_65 : decode cX2_init 65 = .ok (.bipush 8, 2) := by decide +kernel
theorem dX2_init_67 : decode cX2_init 67 = .ok (.newarray .int, 2) := by decide +kernel
theorem dX2_init_69 : decode cX2_init 69 = .ok (.putfield 31, 3) := by decide +kernel
theorem dX2_init_72 : decode cX2_init 72 = .ok (.aload_n 0, 1) := by decide +kernel
theorem dX2_init_73 : decode cX2_init 73 = .ok (.bipush 8, 2) := by decide +kernel
theorem dX2_init_75 : decode cX2_init 75 = .ok (.newarray .int, 2) := by decide +kernel
theorem dX2_init_77 : decode cX2_init 77 = .ok (.putfield 34, 3) := by decide +kernel
theorem dX2_init_80 : decode cX2_init 80 = .ok (.aload_n 0, 1) := by decide +kernel
theorem dX2_init_81 : decode cX2_init 81 = .ok (.bipush 8, 2) := by decide +kernel
theorem dX2_init_83 : decode cX2_init 83 = .ok (.newarray .int, 2) := by decide +kernel
theorem dX2_init_85 : decode cX2_init 85 = .ok (.putfield 37, 3) := by decide +kernel
theorem dX2_init_88 : decode cX2_init 88 = .ok (.aload_n 0, 1) := by decide +kernel
theorem dX2_init_89 : decode cX2_init 89 = .ok (.bipush 8, 2) := by decide +kernel
theorem dX2_init_91 : decode cX2_init 91 = .ok (.newarray .int, 2) := by decide +kernel
theorem dX2_init_93 : decode cX2_init 93 = .ok (.putfield 40, 3) := by decide +kernel
theorem dX2_init_96 : decode cX2_init 96 = .ok (.aload_n 0, 1) := by decide +kernel
theorem dX2_init_97 : decode cX2_init 97 = .ok (.iconst 0, 1) := by decide +kernel
theorem dX2_init_98 : decode cX2_init 98 = .ok (.putfield 43, 3) := by decide +kernel
theorem dX2_init_101 : decode cX2_init 101 = .ok (.return_, 1) := by decide +kernel
set_option maxRecDepth 20000 in
theorem ggX2_become_X2_becomeEmpty : GoodIn wsX2_become wsX2_becomeEmpty := goodIn_r _ [15, 16, 17, 18, 19, 20, 3, 4, 5, 6, 1, 10, 21, 22, 23, 24, 25, 26, 27, 28, 29, 30, 31] (by decide +kernel) (by decide +kernel)
set_option maxRecDepth 20000 in
theorem gX2_become_X2_becomeEmpty : GoodIn wsX2_become (wsV RX2 46 RX2 yX2_becomeEmpty wsX2_becomeEmpty) := goodIn_app (goodIn_of _ (by decide +kernel)) ggX2_become_X2_becomeEmpty
theorem dX2_become_0 : decode cX2_become 0 = .ok (.aload_n 0, 1) := by decide +kernel
theorem dX2_become_1 : decode cX2_become 1 = .ok (.aload_n 1, 1) := by decide +kernel
theorem dX2_become_2 : decode cX2_become 2 = .ok (.invokevirtual 46, 3) := by decide +kernel
theorem dX2_become_5 : decode cX2_become 5 = .ok (.aload_n 0, 1) := by decide +kernel
theorem dX2_become_6 : decode cX2_become 6 = .ok (.aload_n 1, 1) := by decide +kernel
theorem dX2_become_7 : decode cX2_become 7 = .ok (.getfield 28, 3) := by decide +kernel
theorem dX2_become_10 : decode cX2_become 10 = .ok (.putfield 28, 3) := by decide +kernel
theorem dX2_become_13 : decode cX2_become 13 = .ok (.aload_n 1, 1) := by decide +kernel
theorem dX2_become_14 : decode cX2_become 14 = .ok (.getfield 31, 3) := by decide +kernel
theorem dX2_become_17 : decode cX2_become 17 = .ok (.iconst 0, 1) := by decide +kernel
theorem dX2_become_18 : decode cX2_become 18 = .ok (.aload_n 0, 1) := by decide +kernel
theorem dX2_become_19 : decode cX2_become 19 = .ok (.getfield 31, 3) := by decide +kernel
theorem dX2_become_22 : decode cX2_become 22 = .ok (.iconst 0, 1) := by decide +kernel
theorem dX2_become_23 : decode cX2_become 23 = .ok (.bipush 8, 2) := by decide +kernel
theorem dX2_become_25 : decode cX2_become 25 = .ok (.invokestatic 50, 3) := by decide +kernel
theorem dX2_become_28 : decode cX2_become 28 = .ok (.aload_n 1, 1) := by decide +kernel
theorem dX2_become_29 : decode cX2_become 29 = .ok (.getfield 34, 3) := by decide +kernel
theorem dX2_become_32 : decode cX2_become 32 = .ok (.iconst 0, 1) := by decide +kernel
theorem dX2_become_33 : decode cX2_become 33 = .ok (.aload_n 0, 1) := by decide +kernel
theorem dX2_become_34 : decode cX2_become 34 = .ok (.getfield 34, 3) := by decide +kernel
theorem dX2_become_37 : decode cX2_become 37 = .ok (.iconst 0, 1) := by decide +kernel
theorem dX2_become_38 : decode cX2_become 38 = .ok (.bipush 8, 2) := by decide +kernel
theorem dX2_become_40 : decode cX2_become 40 = .ok (.invokestatic 50, 3) := by decide +kernel
theorem dX2_become_43 : decode cX2_become 43 = .ok (.aload_n 1, 1) := by decide +kernel
theorem dX2_become_44 : decode cX2_become 44 = .ok (.getfield 37, 3) := by decide +kernel
theorem dX2_become_47 : decode cX2_become 47 = .ok (.iconst 0, 1) := by decide +kernel
theorem dX2_become_48 : decode cX2_become 48 = .ok (.aload_n 0, 1) := by decide +kernel
theorem dX2_become_49 : decode cX2_become 49 = .ok (.getfield 37, 3) := by decide +kernel
theorem dX2_become_52 : decode cX2_become 52 = .ok (.iconst 0, 1) := by decide +kernel
theorem dX2_become_53 : decode cX2_become 53 = .ok (.bipush 8, 2) := by decide +kernel
theorem dX2_become_55 : decode cX2_become 55 = .ok (.invokestatic 50, 3) := by decide +kernel
theorem dX2_become_58 : decode cX2_become 58 = .ok (.aload_n 1, 1) := by decide +kernel
theorem dX2_become_59 : decode cX2_become 59 = .ok (.getfield 40, 3) := by decide +kernel
theorem dX2_become_62 : decode cX2_become 62 = .ok (.iconst 0, 1) := by decide +kernel
theorem dX2_become_63 : decode cX2_become 63 = .ok (.aload_n 0, 1) := by decide +kernel
theorem dX2_become_64 : decode cX2_become 64 = .ok (.getfield 40, 3) := by decide +kernel
theorem dX2_become_67 : decode cX2_become 67 = .ok (.iconst 0, 1) := by decide +kernel
theorem dX2_become_68 : decode cX2_become 68 = .ok (.bipush 8, 2) := by decide +kernel
theorem dX2_become_70 : decode cX2_become 70 = .ok (.invokestatic 50, 3) := by decide +kernel
theorem dX2_become_73 : decode cX2_become 73 = .ok (.aload_n 0, 1) := by decide +kernel
theorem dX2_become_74 : decode cX2_become 74 = .ok (.aload_n 1, 1) := by decide +kernel
theorem dX2_become_75 : decode cX2_become 75 = .ok (.getfield 43, 3) := by decide +kernel
theorem dX2_become_78 : decode cX2_become 78 = .ok (.putfield 43, 3) := by decide +kernel
theorem dX2_become_81 : decode cX2_become 81 = .ok (.return_, 1) := by decide +kernel
set_option maxRecDepth 20000 in
theorem ggX2_becomeWithOne_X2_becomeEmpty : GoodIn wsX2_becomeWithOne wsX2_becomeEmpty := goodIn_r _ [11, 12, 13, 14, 15, 16, 17, 18, 19, 20, 1, 6, 21, 22, 23, 24, 25, 26, 27, 28, 29, 30, 31] (by decide +kernel) (by decide +kernel)
set_option maxRecDepth 20000 in
theorem gX2_becomeWithOne_X2_becomeEmpty : GoodIn wsX2_becomeWithOne (wsV RX2 46 RX2 yX2_becomeEmpty wsX2_becomeEmpty) := goodIn_app (goodIn_of _ (by decide +kernel)) ggX2_becomeWithOne_X2_becomeEmpty
theorem dX2_becomeWithOne_0 : decode cX2_becomeWithOne 0 = .ok (.aload_n 0, 1) := by decide +kernel
theorem dX2_becomeWithOne_1 : decode cX2_becomeWithOne 1 = .ok (.aload_n 1, 1) := by decide +kernel
theorem dX2_becomeWithOne_2 : decode cX2_becomeWithOne 2 = .ok (.invokevirtual 46, 3) := by decide +kernel
theorem dX2_becomeWithOne_5 : decode cX2_becomeWithOne 5 = .ok (.aload_n 0, 1) := by decide +kernel
theorem dX2_becomeWithOne_6 : decode cX2_becomeWithOne 6 = .ok (.iconst 1, 1) := by decide +kernel
theorem dX2_becomeWithOne_7 : decode cX2_becomeWithOne 7 = .ok (.putfield 28, 3) := by decide +kernel
theorem dX2_becomeWithOne_10 : decode cX2_becomeWithOne 10 = .ok (.aload_n 0, 1) := by decide +kernel
theorem dX2_becomeWithOne_11 : decode cX2_becomeWithOne 11 = .ok (.getfield 31, 3) := by decide +kernel
theorem dX2_becomeWithOne_14 : decode cX2_becomeWithOne 14 = .ok (.iconst 0, 1) := by decide +kernel
theorem dX2_becomeWithOne_15 : decode cX2_becomeWithOne 15 = .ok (.aload_n 1, 1) := by decide +kernel
theorem dX2_becomeWithOne_16 : decode cX2_becomeWithOne 16 = .ok (.getfield 31, 3) := by decide +kernel
theorem dX2_becomeWithOne_19 : decode cX2_becomeWithOne 19 = .ok (.iload_n 2, 1) := by decide +kernel
theorem dX2_becomeWithOne_20 : decode cX2_becomeWithOne 20 = .ok (.iaload, 1) := by decide +kernel
theorem dX2_becomeWithOne_21 : decode cX2_becomeWithOne 21 = .ok (.iastore, 1) := by decide +kernel
theorem dX2_becomeWithOne_22 : decode cX2_becomeWithOne 22 = .ok (.aload_n 0, 1) := by decide +kernel
theorem dX2_becomeWithOne_23 : decode cX2_becomeWithOne 23 = .ok (.getfield 34, 3) := by decide +kernel
theorem dX2_becomeWithOne_26 : decode cX2_becomeWithOne 26 = .ok (.iconst 0, 1) := by decide +kernel
theorem dX2_becomeWithOne_27 : decode cX2_becomeWithOne 27 = .ok (.aload_n 1, 1) := by decide +kernel
theorem dX2_becomeWithOne_28 : decode cX2_becomeWithOne 28 = .ok (.getfield 34, 3) := by decide +kernel
theorem dX2_becomeWithOne_31 : decode cX2_becomeWithOne 31 = .ok (.iload_n 2, 1) := by decide +kernel
theorem dX2_becomeWithOne_32 : decode cX2_becomeWithOne 32 = .ok (.iaload, 1) := by decide +kernel
theorem dX2_becomeWithOne_33 : decode cX2_becomeWithOne 33 = .ok (.iastore, 1) := by decide +kernel
theorem dX2_becomeWithOne_34 : decode cX2_becomeWithOne 34 = .ok (.aload_n 0, 1) := by decide +kernel
theorem dX2_becomeWithOne_35 : decode cX2_becomeWithOne 35 = .ok (.getfield 37, 3) := by decide +kernel
theorem dX2_becomeWithOne_38 : decode cX2_becomeWithOne 38 = .ok (.iconst 0, 1) := by decide +kernel
theorem dX2_becomeWithOne_39 : decode cX2_becomeWithOne 39 = .ok (.aload_n 1, 1) := by decide +kernel
theorem dX2_becomeWithOne_40 : decode cX2_becomeWithOne 40 = .ok (.getfield 37, 3) := by decide +kernel
theorem dX2_becomeWithOne_43 : decode cX2_becomeWithOne 43 = .ok (.iload_n 2, 1) := by decide +kernel
theorem dX2_becomeWithOne_44 : decode cX2_becomeWithOne 44 = .ok (.iaload, 1) := by decide +kernel
theorem dX2_becomeWithOne_45 : decode cX2_becomeWithOne 45 = .ok (.iastore, 1) := by decide +kernel
theorem dX2_becomeWithOne_46 : decode cX2_becomeWithOne 46 = .ok (.aload_n 0, 1) := by decide +kernel
theorem dX2_becomeWithOne_47 : decode cX2_becomeWithOne 47 = .ok (.getfield 40, 3) := by decide +kernel
theorem dX2_becomeWithOne_50 : decode cX2_becomeWithOne 50 = .ok (.iconst 0, 1) := by decide +kernel
theorem dX2_becomeWithOne_51 : decode cX2_becomeWithOne 51 = .ok (.aload_n 1, 1) := by decide +kernel
theorem dX2_becomeWithOne_52 : decode cX2_becomeWithOne 52 = .ok (.getfield 40, 3) := by decide +kernel
theorem dX2_becomeWithOne_55 : decode cX2_becomeWithOne 55 = .ok (.iload_n 2, 1) := by decide +kernel
theorem dX2_becomeWithOne_56 : decode cX2_becomeWithOne 56 = .ok (.iaload, 1) := by decide +kernel
theorem dX2_becomeWithOne_57 : decode cX2_becomeWithOne 57 = .ok (.iastore, 1) := by decide +kernel
theorem dX2_becomeWithOne_58 : decode cX2_becomeWithOne 58 = .ok (.aload_n 0, 1) := by decide +kernel
theorem dX2_becomeWithOne_59 : decode cX2_becomeWithOne 59 = .ok (.aload_n 1, 1) := by decide +kernel
theorem dX2_becomeWithOne_60 : decode cX2_becomeWithOne 60 = .ok (.getfield 43, 3) := by decide +kernel
theorem dX2_becomeWithOne_63 : decode cX2_becomeWithOne 63 = .ok (.iload_n 2, 1) := by decide +kernel
theorem dX2_becomeWithOne_64 : decode cX2_becomeWithOne 64 = .ok (.ishr, 1) := by decide +kernel
theorem dX2_becomeWithOne_65 : decode cX2_becomeWithOne 65 = .ok (.iconst 1, 1) := by decide +kernel
theorem dX2_becomeWithOne_66 : decode cX2_becomeWithOne 66 = .ok (.iand, 1) := by decide +kernel
theorem dX2_becomeWithOne_67 : decode cX2_becomeWithOne 67 = .ok (.putfield 43, 3) := by decide +kernel
theorem dX2_becomeWithOne_70 : decode cX2_becomeWithOne 70 = .ok (.return_, 1) := by decide +kernel
theorem dX2_becomeEmpty_0 : decode cX2_becomeEmpty 0 = .ok (.aload_n 0, 1) := by decide +kernel
theorem dX2_becomeEmpty_1 : decode cX2_becomeEmpty 1 = .ok (.aload_n 1, 1) := by decide +kernel
theorem dX2_becomeEmpty_2 : decode cX2_becomeEmpty 2 = .ok (.getfield 9, 3) := by decide +kernel
theorem dX2_becomeEmpty_5 : decode cX2_becomeEmpty 5 = .ok (.putfield 9, 3) := by decide +kernel
theorem dX2_becomeEmpty_8 : decode cX2_becomeEmpty 8 = .ok (.aload_n 0, 1) := by decide +kernel
theorem dX2_becomeEmpty_9 : decode cX2_becomeEmpty 9 = .ok (.aload_n 1, 1) := by decide +kernel
theorem dX2_becomeEmpty_10 : decode cX2_becomeEmpty 10 = .ok (.getfield 15, 3) := by decide +kernel
theorem dX2_becomeEmpty_13 : decode cX2_becomeEmpty 13 = .ok (.putfield 15, 3) := by decide +kernel
theorem dX2_becomeEmpty_16 : decode cX2_becomeEmpty 16 = .ok (.aload_n 0, 1) := by decide +kernel
theorem dX2_becomeEmpty_17 : decode cX2_becomeEmpty 17 = .ok (.aload_n 1, 1) := by decide +kernel
theorem dX2_becomeEmpty_18 : decode cX2_becomeEmpty 18 = .ok (.getfield 18, 3) := by decide +kernel
theorem dX2_becomeEmpty_21 : decode cX2_becomeEmpty 21 = .ok (.putfield 18, 3) := by decide +kernel
theorem dX2_becomeEmpty_24 : decode cX2_becomeEmpty 24 = .ok (.aload_n 0, 1) := by decide +kernel
theorem dX2_becomeEmpty_25 : decode cX2_becomeEmpty 25 = .ok (.aload_n 1, 1) := by decide +kernel
theorem dX2_becomeEmpty_26 : decode cX2_becomeEmpty 26 = .ok (.getfield 21, 3) := by decide +kernel
theorem dX2_becomeEmpty_29 : decode cX2_becomeEmpty 29 = .ok (.putfield 21, 3) := by decide +kernel
theorem dX2_becomeEmpty_32 : decode cX2_becomeEmpty 32 = .ok (.aload_n 1, 1) := by decide +kernel
theorem dX2_becomeEmpty_33 : decode cX2_becomeEmpty 33 = .ok (.getfield 24, 3) := by decide +kernel
theorem dX2_becomeEmpty_36 : decode cX2_becomeEmpty 36 = .ok (.iconst 0, 1) := by decide +kernel
theorem dX2_becomeEmpty_37 : decode cX2_becomeEmpty 37 = .ok (.aload_n 0, 1) := by decide +kernel
theorem dX2_becomeEmpty_38 : decode cX2_becomeEmpty 38 = .ok (.getfield 24, 3) := by decide +kernel
theorem dX2_becomeEmpty_41 : decode cX2_becomeEmpty 41 = .ok (.iconst 0, 1) := by decide +kernel
theorem dX2_becomeEmpty_42 : decode cX2_becomeEmpty 42 = .ok (.bipush 30, 2) := by decide +kernel
theorem dX2_becomeEmpty_44 : decode cX2_becomeEmpty 44 = .ok (.invokestatic 50, 3) := by decide +kernel
theorem dX2_becomeEmpty_47 : decode cX2_becomeEmpty 47 = .ok (.aload_n 0, 1) := by decide +kernel
theorem dX2_becomeEmpty_48 : decode cX2_becomeEmpty 48 = .ok (.iconst 0, 1) := by decide +kernel
theorem dX2_becomeEmpty_49 : decode cX2_becomeEmpty 49 = .ok (.putfield 28, 3) := by decide +kernel
theorem dX2_becomeEmpty_52 : decode cX2_becomeEmpty 52 = .ok (.aload_n 0, 1) := by decide +kernel
theorem dX2_becomeEmpty_53 : decode cX2_becomeEmpty 53 = .ok (.iconst 0, 1) := by decide +kernel
theorem dX2_becomeEmpty_54 : decode cX2_becomeEmpty 54 = .ok (.putfield 43, 3) := by decide +kernel
theorem dX2_becomeEmpty_57 : decode cX2_becomeEmpty 57 = .ok (.return_, 1) := by decide +kernel
theorem dX2_add_0 : decode cX2_add 0 = .ok (.aload_n 0, 1) := by decide +kernel
theorem dX2_add_1 : decode cX2_add 1 = .ok (.getfield 28, 3) := by decide +kernel
theorem dX2_add_4 : decode cX2_add 4 = .ok (.bipush 8, 2) := by decide +kernel
theorem dX2_add_6 : decode cX2_add 6 = .ok (.if_icmp .ge 70, 3) := by decide +kernel
theorem dX2_add_9 : decode cX2_add 9 = .ok (.aload_n 0, 1) := by decide +kernel
theorem dX2_add_10 : decode cX2_add 10 = .ok (.getfield 31, 3) := by decide +kernel
theorem dX2_add_13 : decode cX2_add 13 = .ok (.aload_n 0, 1) := by decide +kernel
theorem dX2_add_14 : decode cX2_add 14 = .ok (.getfield 28, 3) := by decide +kernel
theorem dX2_add_17 : decode cX2_add 17 = .ok (.iload_n 1, 1) := by decide +kernel
theorem dX2_add_18 : decode cX2_add 18 = .ok (.iastore, 1) := by decide +kernel
theorem dX2_add_19 : decode cX2_add 19 = .ok (.aload_n 0, 1) := by decide +kernel
theorem dX2_add_20 : decode cX2_add 20 = .ok (.getfield 34, 3) := by decide +kernel
theorem dX2_add_23 : decode cX2_add 23 = .ok (.aload_n 0, 1) := by decide +kernel
theorem dX2_add_24 : decode cX2_add 24 = .ok (.getfield 28, 3) := by decide +kernel
theorem dX2_add_27 : decode cX2_add 27 = .ok (.iload_n 2, 1) := by decide +kernel
theorem dX2_add_28 : decode cX2_add 28 = .ok (.iastore, 1) := by decide +kernel
theorem dX2_add_29 : decode cX2_add 29 = .ok (.aload_n 0, 1) := by decide +kernel
theorem dX2_add_30 : decode cX2_add 30 = .ok (.getfield 37, 3) := by decide +kernel
theorem dX2_add_33 : decode cX2_add 33 = .ok (.aload_n 0, 1) := by decide +kernel
theorem dX2_add_34 : decode cX2_add 34 = .ok (.getfield 28, 3) := by decide +kernel
theorem dX2_add_37 : decode cX2_add 37 = .ok (.iconst 0, 1) := by decide +kernel
theorem dX2_add_38 : decode cX2_add 38 = .ok (.iastore, 1) := by decide +kernel
theorem dX2_add_39 : decode cX2_add 39 = .ok (.aload_n 0, 1) := by decide +kernel
theorem dX2_add_40 : decode cX2_add 40 = .ok (.getfield 40, 3) := by decide +kernel
theorem dX2_add_43 : decode cX2_add 43 = .ok (.aload_n 0, 1) := by decide +kernel
theorem dX2_add_44 : decode cX2_add 44 = .ok (.getfield 28, 3) := by decide +kernel
theorem dX2_add_47 : decode cX2_add 47 = .ok (.iconst 0, 1) := by decide +kernel
theorem dX2_add_48 : decode cX2_add 48 = .ok (.iastore, 1) := by decide +kernel
theorem dX2_add_49 : decode cX2_add 49 = .ok (.aload_n 0, 1) := by decide +kernel
theorem dX2_add_50 : decode cX2_add 50 = .ok (.dup, 1) := by decide +kernel
theorem dX2_add_51 : decode cX2_add 51 = .ok (.getfield 43, 3) := by decide +kernel
theorem dX2_add_54 : decode cX2_add 54 = .ok (.iconst 1, 1) := by decide +kernel
theorem dX2_add_55 : decode cX2_add 55 = .ok (.aload_n 0, 1) := by decide +kernel
theorem dX2_add_56 : decode cX2_add 56 = .ok (.getfield 28, 3) := by decide +kernel
theorem dX2_add_59 : decode cX2_add 59 = .ok (.ishl, 1) := by decide +kernel
theorem dX2_add_60 : decode cX2_add 60 = .ok (.iconst (-1), 1) := by decide +kernel
theorem dX2_add_61 : decode cX2_add 61 = .ok (.ixor, 1) := by decide +kernel
theorem dX2_add_62 : decode cX2_add 62 = .ok (.iand, 1) := by decide +kernel
theorem dX2_add_63 : decode cX2_add 63 = .ok (.putfield 43, 3) := by decide +kernel
theorem dX2_add_66 : decode cX2_add 66 = .ok (.aload_n 0, 1) := by decide +kernel
theorem dX2_add_67 : decode cX2_add 67 = .ok (.dup, 1) := by decide +kernel
theorem dX2_add_68 : decode cX2_add 68 = .ok (.getfield 28, 3) := by decide +kernel
theorem dX2_add_71 : decode cX2_add 71 = .ok (.iconst 1, 1) := by decide +kernel
theorem dX2_add_72 : decode cX2_add 72 = .ok (.iadd, 1) := by decide +kernel
theorem dX2_add_73 : decode cX2_add 73 = .ok (.putfield 28, 3) := by decide +kernel
theorem dX2_add_76 : decode cX2_add 76 = .ok (.return_, 1) := by decide +kernel
theorem dX2_minuteOfDay_0 : decode cX2_minuteOfDay 0 = .ok (.aload_n 0, 1) := by decide +kernel
theorem dX2_minuteOfDay_1 : decode cX2_minuteOfDay 1 = .ok (.getfield 9, 3) := by decide +kernel
theorem dX2_minuteOfDay_4 : decode cX2_minuteOfDay 4 = .ok (.bipush 100, 2) := by decide +kernel
theorem dX2_minuteOfDay_6 : decode cX2_minuteOfDay 6 = .ok (.irem, 1) := by decide +kernel
theorem dX2_minuteOfDay_7 : decode cX2_minuteOfDay 7 = .ok (.ireturn, 1) := by decide +kernel
set_option maxRecDepth 20000 in
theorem ggX2_isBell_X2_minuteOfDay : GoodIn wsX2_isBell wsX2_minuteOfDay := goodIn_r _ [5, 6, 7, 8, 9, 10, 11, 12, 13, 14, 15, 16, 17] (by decide +kernel) (by decide +kernel)
set_option maxRecDepth 20000 in
theorem gX2_isBell_X2_minuteOfDay : GoodIn wsX2_isBell (wsV RX2 56 RX2 yX2_minuteOfDay wsX2_minuteOfDay) := goodIn_app (goodIn_of _ (by decide +kernel)) ggX2_isBell_X2_minuteOfDay
theorem dX2_isBell_0 : decode cX2_isBell 0 = .ok (.aload_n 0, 1) := by decide +kernel
theorem dX2_isBell_1 : decode cX2_isBell 1 = .ok (.invokevirtual 56, 3) := by decide +kernel
theorem dX2_isBell_4 : decode cX2_isBell 4 = .ok (.iconst 5, 1) := by decide +kernel
theorem dX2_isBell_5 : decode cX2_isBell 5 = .ok (.irem, 1) := by decide +kernel
theorem dX2_isBell_6 : decode cX2_isBell 6 = .ok (.ifCond .ne 7, 3) := by decide +kernel
theorem dX2_isBell_9 : decode cX2_isBell 9 = .ok (.iconst 1, 1) := by decide +kernel
theorem dX2_isBell_10 : decode cX2_isBell 10 = .ok (.goto 4, 3) := by decide +kernel
theorem dX2_isBell_13 : decode cX2_isBell 13 = .ok (.iconst 0, 1) := by decide +kernel
theorem dX2_isBell_14 : decode cX2_isBell 14 = .ok (.ireturn, 1) := by decide +kernel
set_option maxRecDepth 20000 in
theorem ggX2_edge_X2_minuteOfDay : GoodIn wsX2_edge wsX2_minuteOfDay := goodIn_r _ [8, 9, 10, 11, 12, 13, 14, 15, 16, 17, 18, 19, 20] (by decide +kernel) (by decide +kernel)
set_option maxRecDepth 20000 in
theorem gX2_edge_X2_minuteOfDay : GoodIn wsX2_edge (wsV RX2 56 RX2 yX2_minuteOfDay wsX2_minuteOfDay) := goodIn_app (goodIn_of _ (by decide +kernel)) ggX2_edge_X2_minuteOfDay
theorem dX2_edge_0 : decode cX2_edge 0 = .ok (.aload_n 0, 1) := by decide +kernel
theorem dX2_edge_1 : decode cX2_edge 1 = .ok (.invokevirtual 56, 3) := by decide +kernel
theorem dX2_edge_4 : decode cX2_edge 4 = .ok (.aload_n 0, 1) := by decide +kernel
theorem dX2_edge_5 : decode cX2_edge 5 = .ok (.getfield 15, 3) := by decide +kernel
theorem dX2_edge_8 : decode cX2_edge 8 = .ok (.isub, 1) := by decide +kernel
theorem dX2_edge_9 : decode cX2_edge 9 = .ok (.istore_n 1, 1) := by decide +kernel
theorem dX2_edge_10 : decode cX2_edge 10 = .ok (.aload_n 0, 1) := by decide +kernel
theorem dX2_edge_11 : decode cX2_edge 11 = .ok (.getfield 21, 3) := by decide +kernel
theorem dX2_edge_14 : decode cX2_edge 14 = .ok (.iload_n 1, 1) := by decide +kernel
theorem dX2_edge_15 : decode cX2_edge 15 = .ok (.imul, 1) := by decide +kernel
theorem dX2_edge_16 : decode cX2_edge 16 = .ok (.istore_n 2, 1) := by decide +kernel
theorem dX2_edge_17 : decode cX2_edge 17 = .ok (.iload_n 1, 1) := by decide +kernel
theorem dX2_edge_18 : decode cX2_edge 18 = .ok (.ifCond .lt 25, 3) := by decide +kernel
theorem dX2_edge_21 : decode cX2_edge 21 = .ok (.aload_n 0, 1) := by decide +kernel
theorem dX2_edge_22 : decode cX2_edge 22 = .ok (.getfield 18, 3) := by decide +kernel
theorem dX2_edge_25 : decode cX2_edge 25 = .ok (.ifCond .le 18, 3) := by decide +kernel
theorem dX2_edge_28 : decode cX2_edge 28 = .ok (.iload_n 2, 1) := by decide +kernel
theorem dX2_edge_29 : decode cX2_edge 29 = .ok (.aload_n 0, 1) := by decide +kernel
theorem dX2_edge_30 : decode cX2_edge 30 = .ok (.getfield 18, 3) := by decide +kernel
theorem dX2_edge_33 : decode cX2_edge 33 = .ok (.isub, 1) := by decide +kernel
theorem dX2_edge_34 : decode cX2_edge 34 = .ok (.bipush 29, 2) := by decide +kernel
theorem dX2_edge_36 : decode cX2_edge 36 = .ok (.if_icmp .ge 7, 3) := by decide +kernel
theorem dX2_edge_39 : decode cX2_edge 39 = .ok (.iconst 1, 1) := by decide +kernel
theorem dX2_edge_40 : decode cX2_edge 40 = .ok (.goto 4, 3) := by decide +kernel
theorem dX2_edge_43 : decode cX2_edge 43 = .ok (.iconst 0, 1) := by decide +kernel
theorem dX2_edge_44 : decode cX2_edge 44 = .ok (.istore_n 3, 1) := by decide +kernel
theorem dX2_edge_45 : decode cX2_edge 45 = .ok (.iload_n 3, 1) := by decide +kernel
theorem dX2_edge_46 : decode cX2_edge 46 = .ok (.ifCond .eq 7, 3) := by decide +kernel
theorem dX2_edge_49 : decode cX2_edge 49 = .ok (.iload_n 2, 1) := by decide +kernel
theorem dX2_edge_50 : decode cX2_edge 50 = .ok (.goto 4, 3) := by decide +kernel
theorem dX2_edge_53 : decode cX2_edge 53 = .ok (.iconst (-1), 1) := by decide +kernel
theorem dX2_edge_54 : decode cX2_edge 54 = .ok (.ireturn, 1) := by decide +kernel
theorem dX2_takes_0 : decode cX2_takes 0 = .ok (.iload_n 1, 1) := by decide +kernel
theorem dX2_takes_1 : decode cX2_takes 1 = .ok (.iconst (-1), 1) := by decide +kernel
theorem dX2_takes_2 : decode cX2_takes 2 = .ok (.if_icmp .eq 22, 3) := by decide +kernel
theorem dX2_takes_5 : decode cX2_takes 5 = .ok (.iload_n 2, 1) := by decide +kernel
theorem dX2_takes_6 : decode cX2_takes 6 = .ok (.iload_n 1, 1) := by decide +kernel
theorem dX2_takes_7 : decode cX2_takes 7 = .ok (.if_icmp .gt 17, 3) := by decide +kernel
theorem dX2_takes_10 : decode cX2_takes 10 = .ok (.iload_n 2, 1) := by decide +kernel
theorem dX2_takes_11 : decode cX2_takes 11 = .ok (.iload_n 1, 1) := by decide +kernel
theorem dX2_takes_12 : decode cX2_takes 12 = .ok (.aload_n 0, 1) := by decide +kernel
theorem dX2_takes_13 : decode cX2_takes 13 = .ok (.getfield 18, 3) := by decide +kernel
theorem dX2_takes_16 : decode cX2_takes 16 = .ok (.isub, 1) := by decide +kernel
theorem dX2_takes_17 : decode cX2_takes 17 = .ok (.if_icmp .le 7, 3) := by decide +kernel
theorem dX2_takes_20 : decode cX2_takes 20 = .ok (.iconst 1, 1) := by decide +kernel
theorem dX2_takes_21 : decode cX2_takes 21 = .ok (.goto 4, 3) := by decide +kernel
theorem dX2_takes_24 : decode cX2_takes 24 = .ok (.iconst 0, 1) := by decide +kernel
theorem dX2_takes_25 : decode cX2_takes 25 = .ok (.ireturn, 1) := by decide +kernel
set_option maxRecDepth 20000 in
theorem ggX2_whoIsIn_X2_edge : GoodIn wsX2_whoIsIn wsX2_edge := goodIn_r _ [7, 8, 9, 10, 11, 12, 13, 6, 14, 15, 20, 21, 22, 23, 24, 25, 26, 27, 28, 29, 30] (by decide +kernel) (by decide +kernel)
set_option maxRecDepth 20000 in
theorem gX2_whoIsIn_X2_edge : GoodIn wsX2_whoIsIn (wsV RX2 60 RX2 yX2_edge wsX2_edge) := goodIn_app (goodIn_of _ (by decide +kernel)) ggX2_whoIsIn_X2_edge
set_option maxRecDepth 20000 in
theorem ggX2_whoIsIn_X2_takes : GoodIn wsX2_whoIsIn wsX2_takes := goodIn_r _ [19, 10, 20, 21, 22, 23, 24, 25, 26, 27, 28, 29, 30] (by decide +kernel) (by decide +kernel)
set_option maxRecDepth 20000 in
theorem gX2_whoIsIn_X2_takes : GoodIn wsX2_whoIsIn (wsV RX2 63 RX2 yX2_takes wsX2_takes) := goodIn_app (goodIn_of _ (by decide +kernel)) ggX2_whoIsIn_X2_takes
theorem dX2_whoIsIn_0 : decode cX2_whoIsIn 0 = .ok (.aload_n 0, 1) := by decide +kernel
theorem dX2_whoIsIn_1 : decode cX2_whoIsIn 1 = .ok (.invokevirtual 60, 3) := by decide +kernel
theorem dX2_whoIsIn_4 : decode cX2_whoIsIn 4 = .ok (.istore_n 1, 1) := by decide +kernel
theorem dX2_whoIsIn_5 : decode cX2_whoIsIn 5 = .ok (.iconst 0, 1) := by decide +kernel
theorem dX2_whoIsIn_6 : decode cX2_whoIsIn 6 = .ok (.istore_n 2, 1) := by decide +kernel
theorem dX2_whoIsIn_7 : decode cX2_whoIsIn 7 = .ok (.iconst 0, 1) := by decide +kernel
theorem dX2_whoIsIn_8 : decode cX2_whoIsIn 8 = .ok (.istore_n 3, 1) := by decide +kernel
theorem dX2_whoIsIn_9 : decode cX2_whoIsIn 9 = .ok (.iload_n 3, 1) := by decide +kernel
theorem dX2_whoIsIn_10 : decode cX2_whoIsIn 10 = .ok (.aload_n 0, 1) := by decide +kernel
theorem dX2_whoIsIn_11 : decode cX2_whoIsIn 11 = .ok (.getfield 28, 3) := by decide +kernel
theorem dX2_whoIsIn_14 : decode cX2_whoIsIn 14 = .ok (.if_icmp .ge 33, 3) := by decide +kernel
theorem dX2_whoIsIn_17 : decode cX2_whoIsIn 17 = .ok (.iload_n 2, 1) := by decide +kernel
theorem dX2_whoIsIn_18 : decode cX2_whoIsIn 18 = .ok (.aload_n 0, 1) := by decide +kernel
theorem dX2_whoIsIn_19 : decode cX2_whoIsIn 19 = .ok (.iload_n 1, 1) := by decide +kernel
theorem dX2_whoIsIn_20 : decode cX2_whoIsIn 20 = .ok (.aload_n 0, 1) := by decide +kernel
theorem dX2_whoIsIn_21 : decode cX2_whoIsIn 21 = .ok (.getfield 34, 3) := by decide +kernel
theorem dX2_whoIsIn_24 : decode cX2_whoIsIn 24 = .ok (.iload_n 3, 1) := by decide +kernel
theorem dX2_whoIsIn_25 : decode cX2_whoIsIn 25 = .ok (.iaload, 1) := by decide +kernel
theorem dX2_whoIsIn_26 : decode cX2_whoIsIn 26 = .ok (.invokevirtual 63, 3) := by decide +kernel
theorem dX2_whoIsIn_29 : decode cX2_whoIsIn 29 = .ok (.ifCond .eq 9, 3) := by decide +kernel
theorem dX2_whoIsIn_32 : decode cX2_whoIsIn 32 = .ok (.iconst 1, 1) := by decide +kernel
theorem dX2_whoIsIn_33 : decode cX2_whoIsIn 33 = .ok (.iload_n 3, 1) := by decide +kernel
theorem dX2_whoIsIn_34 : decode cX2_whoIsIn 34 = .ok (.ishl, 1) := by decide +kernel
theorem dX2_whoIsIn_35 : decode cX2_whoIsIn 35 = .ok (.goto 4, 3) := by decide +kernel
theorem dX2_whoIsIn_38 : decode cX2_whoIsIn 38 = .ok (.iconst 0, 1) := by decide +kernel
theorem dX2_whoIsIn_39 : decode cX2_whoIsIn 39 = .ok (.ior, 1) := by decide +kernel
theorem dX2_whoIsIn_40 : decode cX2_whoIsIn 40 = .ok (.istore_n 2, 1) := by decide +kernel
theorem dX2_whoIsIn_41 : decode cX2_whoIsIn 41 = .ok (.iinc 3 1, 3) := by decide +kernel
theorem dX2_whoIsIn_44 : decode cX2_whoIsIn 44 = .ok (.goto (-35), 3) := by decide +kernel
theorem dX2_whoIsIn_47 : decode cX2_whoIsIn 47 = .ok (.iload_n 2, 1) := by decide +kernel
theorem dX2_whoIsIn_48 : decode cX2_whoIsIn 48 = .ok (.ireturn, 1) := by decide +kernel
theorem dX2_whoIsAt_0 : decode cX2_whoIsAt 0 = .ok (.iconst 0, 1) := by decide +kernel
theorem dX2_whoIsAt_1 : decode cX2_whoIsAt 1 = .ok (.istore_n 2, 1) := by decide +kernel
theorem dX2_whoIsAt_2 : decode cX2_whoIsAt 2 = .ok (.iconst 0, 1) := by decide +kernel
theorem dX2_whoIsAt_3 : decode cX2_whoIsAt 3 = .ok (.istore_n 3, 1) := by decide +kernel
theorem dX2_whoIsAt_4 : decode cX2_whoIsAt 4 = .ok (.iload_n 3, 1) := by decide +kernel
theorem dX2_whoIsAt_5 : decode cX2_whoIsAt 5 = .ok (.aload_n 0, 1) := by decide +kernel
theorem dX2_whoIsAt_6 : decode cX2_whoIsAt 6 = .ok (.getfield 28, 3) := by decide +kernel
theorem dX2_whoIsAt_9 : decode cX2_whoIsAt 9 = .ok (.if_icmp .ge 29, 3) := by decide +kernel
theorem dX2_whoIsAt_12 : decode cX2_whoIsAt 12 = .ok (.iload_n 2, 1) := by decide +kernel
theorem dX2_whoIsAt_13 : decode cX2_whoIsAt 13 = .ok (.aload_n 0, 1) := by decide +kernel
theorem dX2_whoIsAt_14 : decode cX2_whoIsAt 14 = .ok (.getfield 34, 3) := by decide +kernel
theorem dX2_whoIsAt_17 : decode cX2_whoIsAt 17 = .ok (.iload_n 3, 1) := by decide +kernel
theorem dX2_whoIsAt_18 : decode cX2_whoIsAt 18 = .ok (.iaload, 1) := by decide +kernel
theorem dX2_whoIsAt_19 : decode cX2_whoIsAt 19 = .ok (.iload_n 1, 1) := by decide +kernel
theorem dX2_whoIsAt_20 : decode cX2_whoIsAt 20 = .ok (.if_icmp .ne 9, 3) := by decide +kernel
theorem dX2_whoIsAt_23 : decode cX2_whoIsAt 23 = .ok (.iconst 1, 1) := by decide +kernel
theorem dX2_whoIsAt_24 : decode cX2_whoIsAt 24 = .ok (.iload_n 3, 1) := by decide +kernel
theorem dX2_whoIsAt_25 : decode cX2_whoIsAt 25 = .ok (.ishl, 1) := by decide +kernel
theorem dX2_whoIsAt_26 : decode cX2_whoIsAt 26 = .ok (.goto 4, 3) := by decide +kernel
theorem dX2_whoIsAt_29 : decode cX2_whoIsAt 29 = .ok (.iconst 0, 1) := by decide +kernel
theorem dX2_whoIsAt_30 : decode cX2_whoIsAt 30 = .ok (.ior, 1) := by decide +kernel
theorem dX2_whoIsAt_31 : decode cX2_whoIsAt 31 = .ok (.istore_n 2, 1) := by decide +kernel
theorem dX2_whoIsAt_32 : decode cX2_whoIsAt 32 = .ok (.iinc 3 1, 3) := by decide +kernel
theorem dX2_whoIsAt_35 : decode cX2_whoIsAt 35 = .ok (.goto (-31), 3) := by decide +kernel
theorem dX2_whoIsAt_38 : decode cX2_whoIsAt 38 = .ok (.iload_n 2, 1) := by decide +kernel
theorem dX2_whoIsAt_39 : decode cX2_whoIsAt 39 = .ok (.ireturn, 1) := by decide +kernel
set_option maxRecDepth 20000 in
theorem ggX2_goes_X2_pedlarGoes : GoodIn wsX2_goes wsX2_pedlarGoes := goodIn_r _ [7, 2, 8, 9, 10, 11, 6, 12, 13, 39, 40, 41, 42, 43, 44, 45, 46, 47, 48, 49] (by decide +kernel) (by decide +kernel)
set_option maxRecDepth 20000 in
theorem gX2_goes_X2_pedlarGoes : GoodIn wsX2_goes (wsV RX2 67 RX2 yX2_pedlarGoes wsX2_pedlarGoes) := goodIn_app (goodIn_of _ (by decide +kernel)) ggX2_goes_X2_pedlarGoes
set_option maxRecDepth 20000 in
theorem ggX2_goes_X2_childGoes : GoodIn wsX2_goes wsX2_childGoes := goodIn_r _ [17, 18, 19, 20] (by decide +kernel) (by decide +kernel)
set_option maxRecDepth 20000 in
theorem gX2_goes_X2_childGoes : GoodIn wsX2_goes (wsV RX2 71 RX2 yX2_childGoes wsX2_childGoes) := goodIn_app (goodIn_of _ (by decide +kernel)) ggX2_goes_X2_childGoes
set_option maxRecDepth 20000 in
theorem ggX2_goes_X3_held : GoodIn wsX2_goes wsX3_held := goodIn_r _ [22, 23, 24, 25, 26, 27, 28, 29] (by decide +kernel) (by decide +kernel)
set_option maxRecDepth 20000 in
theorem gX2_goes_X3_held_n75 : GoodIn wsX2_goes (wsX3_held) := ggX2_goes_X3_held
set_option maxRecDepth 20000 in
theorem ggX2_goes_X2_isBell : GoodIn wsX2_goes wsX2_isBell := goodIn_r _ [33, 34, 35, 36, 6, 37, 38, 39, 40, 41, 42, 43, 44, 45, 46, 47, 48, 49] (by decide +kernel) (by decide +kernel)
set_option maxRecDepth 20000 in
theorem gX2_goes_X2_isBell : GoodIn wsX2_goes (wsV RX2 79 RX2 yX2_isBell wsX2_isBell) := goodIn_app (goodIn_of _ (by decide +kernel)) ggX2_goes_X2_isBell
theorem dX2_goes_0 : decode cX2_goes 0 = .ok (.iload_n 2, 1) := by decide +kernel
theorem dX2_goes_1 : decode cX2_goes 1 = .ok (.iconst (-1), 1) := by decide +kernel
theorem dX2_goes_2 : decode cX2_goes 2 = .ok (.if_icmp .ne 19, 3) := by decide +kernel
theorem dX2_goes_5 : decode cX2_goes 5 = .ok (.aload_n 0, 1) := by decide +kernel
theorem dX2_goes_6 : decode cX2_goes 6 = .ok (.getfield 31, 3) := by decide +kernel
theorem dX2_goes_9 : decode cX2_goes 9 = .ok (.iload_n 1, 1) := by decide +kernel
theorem dX2_goes_10 : decode cX2_goes 10 = .ok (.iaload, 1) := by decide +kernel
theorem dX2_goes_11 : decode cX2_goes 11 = .ok (.iconst 3, 1) := by decide +kernel
theorem dX2_goes_12 : decode cX2_goes 12 = .ok (.if_icmp .ne 7, 3) := by decide +kernel
theorem dX2_goes_15 : decode cX2_goes 15 = .ok (.iconst (-1), 1) := by decide +kernel
theorem dX2_goes_16 : decode cX2_goes 16 = .ok (.goto 4, 3) := by decide +kernel
theorem dX2_goes_19 : decode cX2_goes 19 = .ok (.iconst 0, 1) := by decide +kernel
theorem dX2_goes_20 : decode cX2_goes 20 = .ok (.ireturn, 1) := by decide +kernel
theorem dX2_goes_21 : decode cX2_goes 21 = .ok (.iload_n 2, 1) := by decide +kernel
theorem dX2_goes_22 : decode cX2_goes 22 = .ok (.aload_n 0, 1) := by decide +kernel
theorem dX2_goes_23 : decode cX2_goes 23 = .ok (.getfield 34, 3) := by decide +kernel
theorem dX2_goes_26 : decode cX2_goes 26 = .ok (.iload_n 1, 1) := by decide +kernel
theorem dX2_goes_27 : decode cX2_goes 27 = .ok (.iaload, 1) := by decide +kernel
theorem dX2_goes_28 : decode cX2_goes 28 = .ok (.isub, 1) := by decide +kernel
theorem dX2_goes_29 : decode cX2_goes 29 = .ok (.istore_n 3, 1) := by decide +kernel
theorem dX2_goes_30 : decode cX2_goes 30 = .ok (.aload_n 0, 1) := by decide +kernel
theorem dX2_goes_31 : decode cX2_goes 31 = .ok (.getfield 31, 3) := by decide +kernel
theorem dX2_goes_34 : decode cX2_goes 34 = .ok (.iload_n 1, 1) := by decide +kernel
theorem dX2_goes_35 : decode cX2_goes 35 = .ok (.iaload, 1) := by decide +kernel
theorem dX2_goes_36 : decode cX2_goes 36 = .ok (.tableswitch 91 1 5 #[36, 43, 49, 57, 75], 36) := by decide +kernel
theorem dX2_goes_72 : decode cX2_goes 72 = .ok (.aload_n 0, 1) := by decide +kernel
theorem dX2_goes_73 : decode cX2_goes 73 = .ok (.iload_n 1, 1) := by decide +kernel
theorem dX2_goes_74 : decode cX2_goes 74 = .ok (.iload_n 2, 1) := by decide +kernel
theorem dX2_goes_75 : decode cX2_goes 75 = .ok (.invokevirtual 67, 3) := by decide +kernel
theorem dX2_goes_78 : decode cX2_goes 78 = .ok (.ireturn, 1) := by decide +kernel
theorem dX2_goes_79 : decode cX2_goes 79 = .ok (.aload_n 0, 1) := by decide +kernel
theorem dX2_goes_80 : decode cX2_goes 80 = .ok (.iload_n 3, 1) := by decide +kernel
theorem dX2_goes_81 : decode cX2_goes 81 = .ok (.invokevirtual 71, 3) := by decide +kernel
theorem dX2_goes_84 : decode cX2_goes 84 = .ok (.ireturn, 1) := by decide +kernel
theorem dX2_goes_85 : decode cX2_goes 85 = .ok (.iload_n 3, 1) := by decide +kernel
theorem dX2_goes_86 : decode cX2_goes 86 = .ok (.bipush (-4), 2) := by decide +kernel
theorem dX2_goes_88 : decode cX2_goes 88 = .ok (.iconst 4, 1) := by decide +kernel
theorem dX2_goes_89 : decode cX2_goes 89 = .ok (.invokestatic 75, 3) := by decide +kernel
theorem dX2_goes_92 : decode cX2_goes 92 = .ok (.ireturn, 1) := by decide +kernel
theorem dX2_goes_93 : decode cX2_goes 93 = .ok (.aload_n 0, 1) := by decide +kernel
theorem dX2_goes_94 : decode cX2_goes 94 = .ok (.invokevirtual 79, 3) := by decide +kernel
theorem dX2_goes_97 : decode cX2_goes 97 = .ok (.ifCond .eq 7, 3) := by decide +kernel
theorem dX2_goes_100 : decode cX2_goes 100 = .ok (.iconst 0, 1) := by decide +kernel
theorem dX2_goes_101 : decode cX2_goes 101 = .ok (.goto 9, 3) := by decide +kernel
theorem dX2_goes_104 : decode cX2_goes 104 = .ok (.aload_n 0, 1) := by decide +kernel
theorem dX2_goes_105 : decode cX2_goes 105 = .ok (.iload_n 1, 1) := by decide +kernel
theorem dX2_goes_106 : decode cX2_goes 106 = .ok (.iload_n 2, 1) := by decide +kernel
theorem dX2_goes_107 : decode cX2_goes 107 = .ok (.invokevirtual 67, 3) := by decide +kernel
theorem dX2_goes_110 : decode cX2_goes 110 = .ok (.ireturn, 1) := by decide +kernel
theorem dX2_goes_111 : decode cX2_goes 111 = .ok (.aload_n 0, 1) := by decide +kernel
theorem dX2_goes_112 : decode cX2_goes 112 = .ok (.iload_n 3, 1) := by decide +kernel
theorem dX2_goes_113 : decode cX2_goes 113 = .ok (.invokevirtual 71, 3) := by decide +kernel
theorem dX2_goes_116 : decode cX2_goes 116 = .ok (.iload_n 3, 1) := by decide +kernel
theorem dX2_goes_117 : decode cX2_goes 117 = .ok (.ifCond .ne 7, 3) := by decide +kernel
theorem dX2_goes_120 : decode cX2_goes 120 = .ok (.iconst 1, 1) := by decide +kernel
theorem dX2_goes_121 : decode cX2_goes 121 = .ok (.goto 4, 3) := by decide +kernel
theorem dX2_goes_124 : decode cX2_goes 124 = .ok (.iconst 0, 1) := by decide +kernel
theorem dX2_goes_125 : decode cX2_goes 125 = .ok (.iadd, 1) := by decide +kernel
theorem dX2_goes_126 : decode cX2_goes 126 = .ok (.ireturn, 1) := by decide +kernel
theorem dX2_goes_127 : decode cX2_goes 127 = .ok (.iconst 0, 1) := by decide +kernel
theorem dX2_goes_128 : decode cX2_goes 128 = .ok (.ireturn, 1) := by decide +kernel
set_option maxRecDepth 20000 in
theorem ggX2_pedlarGoes_X2_takes : GoodIn wsX2_pedlarGoes wsX2_takes := goodIn_r _ [7, 8, 9, 10, 11, 12, 13, 14, 15, 16, 17, 18, 19] (by decide +kernel) (by decide +kernel)
set_option maxRecDepth 20000 in
theorem gX2_pedlarGoes_X2_takes : GoodIn wsX2_pedlarGoes (wsV RX2 63 RX2 yX2_takes wsX2_takes) := goodIn_app (goodIn_of _ (by decide +kernel)) ggX2_pedlarGoes_X2_takes
theorem dX2_pedlarGoes_0 : decode cX2_pedlarGoes 0 = .ok (.aload_n 0, 1) := by decide +kernel
theorem dX2_pedlarGoes_1 : decode cX2_pedlarGoes 1 = .ok (.iload_n 2, 1) := by decide +kernel
theorem dX2_pedlarGoes_2 : decode cX2_pedlarGoes 2 = .ok (.aload_n 0, 1) := by decide +kernel
theorem dX2_pedlarGoes_3 : decode cX2_pedlarGoes 3 = .ok (.getfield 34, 3) := by decide +kernel
theorem dX2_pedlarGoes_6 : decode cX2_pedlarGoes 6 = .ok (.iload_n 1, 1) := by decide +kernel
theorem dX2_pedlarGoes_7 : decode cX2_pedlarGoes 7 = .ok (.iaload, 1) := by decide +kernel
theorem dX2_pedlarGoes_8 : decode cX2_pedlarGoes 8 = .ok (.invokevirtual 63, 3) := by decide +kernel
theorem dX2_pedlarGoes_11 : decode cX2_pedlarGoes 11 = .ok (.ifCond .eq 10, 3) := by decide +kernel
theorem dX2_pedlarGoes_14 : decode cX2_pedlarGoes 14 = .ok (.aload_n 0, 1) := by decide +kernel
theorem dX2_pedlarGoes_15 : decode cX2_pedlarGoes 15 = .ok (.getfield 21, 3) := by decide +kernel
theorem dX2_pedlarGoes_18 : decode cX2_pedlarGoes 18 = .ok (.goto 4, 3) := by decide +kernel
theorem dX2_pedlarGoes_21 : decode cX2_pedlarGoes 21 = .ok (.iconst 0, 1) := by decide +kernel
theorem dX2_pedlarGoes_22 : decode cX2_pedlarGoes 22 = .ok (.ireturn, 1) := by decide +kernel
set_option maxRecDepth 20000 in
theorem ggX2_childGoes_X3_isWithin : GoodIn wsX2_childGoes wsX3_isWithin := goodIn_r _ [3] (by decide +kernel) (by decide +kernel)
set_option maxRecDepth 20000 in
theorem gX2_childGoes_X3_isWithin_n83 : GoodIn wsX2_childGoes (wsX3_isWithin) := ggX2_childGoes_X3_isWithin
theorem dX2_childGoes_0 : decode cX2_childGoes 0 = .ok (.iload_n 1, 1) := by decide +kernel
theorem dX2_childGoes_1 : decode cX2_childGoes 1 = .ok (.bipush (-3), 2) := by decide +kernel
theorem dX2_childGoes_3 : decode cX2_childGoes 3 = .ok (.iconst 0, 1) := by decide +kernel
theorem dX2_childGoes_4 : decode cX2_childGoes 4 = .ok (.invokestatic 83, 3) := by decide +kernel
theorem dX2_childGoes_7 : decode cX2_childGoes 7 = .ok (.ifCond .eq 7, 3) := by decide +kernel
theorem dX2_childGoes_10 : decode cX2_childGoes 10 = .ok (.iconst 2, 1) := by decide +kernel
theorem dX2_childGoes_11 : decode cX2_childGoes 11 = .ok (.goto 4, 3) := by decide +kernel
theorem dX2_childGoes_14 : decode cX2_childGoes 14 = .ok (.iconst 0, 1) := by decide +kernel
theorem dX2_childGoes_15 : decode cX2_childGoes 15 = .ok (.ireturn, 1) := by decide +kernel
set_option maxRecDepth 20000 in
theorem ggX2_talks_X2_isBell : GoodIn wsX2_talks wsX2_isBell := goodIn_r _ [7, 8, 9, 10, 6, 11, 12, 18, 19, 20, 21, 22, 23, 24, 25, 26, 27, 28] (by decide +kernel) (by decide +kernel)
set_option maxRecDepth 20000 in
theorem gX2_talks_X2_isBell : GoodIn wsX2_talks (wsV RX2 79 RX2 yX2_isBell wsX2_isBell) := goodIn_app (goodIn_of _ (by decide +kernel)) ggX2_talks_X2_isBell
set_option maxRecDepth 20000 in
theorem ggX2_talks_X2_takes : GoodIn wsX2_talks wsX2_takes := goodIn_r _ [16, 17, 18, 19, 20, 21, 22, 23, 24, 25, 26, 27, 28] (by decide +kernel) (by decide +kernel)
set_option maxRecDepth 20000 in
theorem gX2_talks_X2_takes : GoodIn wsX2_talks (wsV RX2 63 RX2 yX2_takes wsX2_takes) := goodIn_app (goodIn_of _ (by decide +kernel)) ggX2_talks_X2_takes
theorem dX2_talks_0 : decode cX2_talks 0 = .ok (.aload_n 0, 1) := by decide +kernel
theorem dX2_talks_1 : decode cX2_talks 1 = .ok (.getfield 31, 3) := by decide +kernel
theorem dX2_talks_4 : decode cX2_talks 4 = .ok (.iload_n 1, 1) := by decide +kernel
theorem dX2_talks_5 : decode cX2_talks 5 = .ok (.iaload, 1) := by decide +kernel
theorem dX2_talks_6 : decode cX2_talks 6 = .ok (.iconst 4, 1) := by decide +kernel
theorem dX2_talks_7 : decode cX2_talks 7 = .ok (.if_icmp .ne 14, 3) := by decide +kernel
theorem dX2_talks_10 : decode cX2_talks 10 = .ok (.aload_n 0, 1) := by decide +kernel
theorem dX2_talks_11 : decode cX2_talks 11 = .ok (.invokevirtual 79, 3) := by decide +kernel
theorem dX2_talks_14 : decode cX2_talks 14 = .ok (.ifCond .eq 7, 3) := by decide +kernel
theorem dX2_talks_17 : decode cX2_talks 17 = .ok (.iconst 1, 1) := by decide +kernel
theorem dX2_talks_18 : decode cX2_talks 18 = .ok (.goto 4, 3) := by decide +kernel
theorem dX2_talks_21 : decode cX2_talks 21 = .ok (.iconst 0, 1) := by decide +kernel
theorem dX2_talks_22 : decode cX2_talks 22 = .ok (.istore_n 3, 1) := by decide +kernel
theorem dX2_talks_23 : decode cX2_talks 23 = .ok (.aload_n 0, 1) := by decide +kernel
theorem dX2_talks_24 : decode cX2_talks 24 = .ok (.iload_n 2, 1) := by decide +kernel
theorem dX2_talks_25 : decode cX2_talks 25 = .ok (.aload_n 0, 1) := by decide +kernel
theorem dX2_talks_26 : decode cX2_talks 26 = .ok (.getfield 34, 3) := by decide +kernel
theorem dX2_talks_29 : decode cX2_talks 29 = .ok (.iload_n 1, 1) := by decide +kernel
theorem dX2_talks_30 : decode cX2_talks 30 = .ok (.iaload, 1) := by decide +kernel
theorem dX2_talks_31 : decode cX2_talks 31 = .ok (.invokevirtual 63, 3) := by decide +kernel
theorem dX2_talks_34 : decode cX2_talks 34 = .ok (.ifCond .eq 5, 3) := by decide +kernel
theorem dX2_talks_37 : decode cX2_talks 37 = .ok (.iload_n 3, 1) := by decide +kernel
theorem dX2_talks_38 : decode cX2_talks 38 = .ok (.ireturn, 1) := by decide +kernel
theorem dX2_talks_39 : decode cX2_talks 39 = .ok (.aload_n 0, 1) := by decide +kernel
theorem dX2_talks_40 : decode cX2_talks 40 = .ok (.getfield 31, 3) := by decide +kernel
theorem dX2_talks_43 : decode cX2_talks 43 = .ok (.iload_n 1, 1) := by decide +kernel
theorem dX2_talks_44 : decode cX2_talks 44 = .ok (.iaload, 1) := by decide +kernel
theorem dX2_talks_45 : decode cX2_talks 45 = .ok (.tableswitch 45 1 5 #[35, 39, 41, 35, 43], 35) := by decide +kernel
theorem dX2_talks_80 : decode cX2_talks 80 = .ok (.iconst 5, 1) := by decide +kernel
theorem dX2_talks_81 : decode cX2_talks 81 = .ok (.iload_n 3, 1) := by decide +kernel
theorem dX2_talks_82 : decode cX2_talks 82 = .ok (.iadd, 1) := by decide +kernel
theorem dX2_talks_83 : decode cX2_talks 83 = .ok (.ireturn, 1) := by decide +kernel
theorem dX2_talks_84 : decode cX2_talks 84 = .ok (.iconst 4, 1) := by decide +kernel
theorem dX2_talks_85 : decode cX2_talks 85 = .ok (.ireturn, 1) := by decide +kernel
theorem dX2_talks_86 : decode cX2_talks 86 = .ok (.iconst 1, 1) := by decide +kernel
theorem dX2_talks_87 : decode cX2_talks 87 = .ok (.ireturn, 1) := by decide +kernel
theorem dX2_talks_88 : decode cX2_talks 88 = .ok (.iconst 3, 1) := by decide +kernel
theorem dX2_talks_89 : decode cX2_talks 89 = .ok (.ireturn, 1) := by decide +kernel
theorem dX2_talks_90 : decode cX2_talks 90 = .ok (.iconst 2, 1) := by decide +kernel
theorem dX2_talks_91 : decode cX2_talks 91 = .ok (.ireturn, 1) := by decide +kernel
theorem dX2_stepsOver_0 : decode cX2_stepsOver 0 = .ok (.aload_n 0, 1) := by decide +kernel
theorem dX2_stepsOver_1 : decode cX2_stepsOver 1 = .ok (.getfield 31, 3) := by decide +kernel
theorem dX2_stepsOver_4 : decode cX2_stepsOver 4 = .ok (.iload_n 1, 1) := by decide +kernel
theorem dX2_stepsOver_5 : decode cX2_stepsOver 5 = .ok (.iaload, 1) := by decide +kernel
theorem dX2_stepsOver_6 : decode cX2_stepsOver 6 = .ok (.tableswitch 54 1 5 #[34, 54, 36, 34, 38], 34) := by decide +kernel
theorem dX2_stepsOver_40 : decode cX2_stepsOver 40 = .ok (.iconst 0, 1) := by decide +kernel
theorem dX2_stepsOver_41 : decode cX2_stepsOver 41 = .ok (.ireturn, 1) := by decide +kernel
theorem dX2_stepsOver_42 : decode cX2_stepsOver 42 = .ok (.iconst 1, 1) := by decide +kernel
theorem dX2_stepsOver_43 : decode cX2_stepsOver 43 = .ok (.ireturn, 1) := by decide +kernel
theorem dX2_stepsOver_44 : decode cX2_stepsOver 44 = .ok (.aload_n 0, 1) := by decide +kernel
theorem dX2_stepsOver_45 : decode cX2_stepsOver 45 = .ok (.getfield 40, 3) := by decide +kernel
theorem dX2_stepsOver_48 : decode cX2_stepsOver 48 = .ok (.iload_n 1, 1) := by decide +kernel
theorem dX2_stepsOver_49 : decode cX2_stepsOver 49 = .ok (.iaload, 1) := by decide +kernel
theorem dX2_stepsOver_50 : decode cX2_stepsOver 50 = .ok (.iconst 1, 1) := by decide +kernel
theorem dX2_stepsOver_51 : decode cX2_stepsOver 51 = .ok (.if_icmp .lt 7, 3) := by decide +kernel
theorem dX2_stepsOver_54 : decode cX2_stepsOver 54 = .ok (.iconst 1, 1) := by decide +kernel
theorem dX2_stepsOver_55 : decode cX2_stepsOver 55 = .ok (.goto 4, 3) := by decide +kernel
theorem dX2_stepsOver_58 : decode cX2_stepsOver 58 = .ok (.iconst 0, 1) := by decide +kernel
theorem dX2_stepsOver_59 : decode cX2_stepsOver 59 = .ok (.ireturn, 1) := by decide +kernel
theorem dX2_stepsOver_60 : decode cX2_stepsOver 60 = .ok (.aload_n 0, 1) := by decide +kernel
theorem dX2_stepsOver_61 : decode cX2_stepsOver 61 = .ok (.getfield 40, 3) := by decide +kernel
theorem dX2_stepsOver_64 : decode cX2_stepsOver 64 = .ok (.iload_n 1, 1) := by decide +kernel
theorem dX2_stepsOver_65 : decode cX2_stepsOver 65 = .ok (.iaload, 1) := by decide +kernel
theorem dX2_stepsOver_66 : decode cX2_stepsOver 66 = .ok (.iconst 3, 1) := by decide +kernel
theorem dX2_stepsOver_67 : decode cX2_stepsOver 67 = .ok (.if_icmp .lt 7, 3) := by decide +kernel
theorem dX2_stepsOver_70 : decode cX2_stepsOver 70 = .ok (.iconst 1, 1) := by decide +kernel
theorem dX2_stepsOver_71 : decode cX2_stepsOver 71 = .ok (.goto 4, 3) := by decide +kernel
theorem dX2_stepsOver_74 : decode cX2_stepsOver 74 = .ok (.iconst 0, 1) := by decide +kernel
theorem dX2_stepsOver_75 : decode cX2_stepsOver 75 = .ok (.ireturn, 1) := by decide +kernel
set_option maxRecDepth 20000 in
theorem ggX2_loudness_X2_edge : GoodIn wsX2_loudness wsX2_edge := goodIn_r _ [7, 8, 9, 10, 11, 12, 13, 6, 14, 15, 30, 31, 32, 33, 34, 35, 36, 37, 38, 39, 40] (by decide +kernel) (by decide +kernel)
set_option maxRecDepth 20000 in
theorem gX2_loudness_X2_edge : GoodIn wsX2_loudness (wsV RX2 60 RX2 yX2_edge wsX2_edge) := goodIn_app (goodIn_of _ (by decide +kernel)) ggX2_loudness_X2_edge
set_option maxRecDepth 20000 in
theorem ggX2_loudness_X2_takes : GoodIn wsX2_loudness wsX2_takes := goodIn_r _ [19, 10, 30, 31, 32, 33, 34, 35, 36, 37, 38, 39, 40] (by decide +kernel) (by decide +kernel)
set_option maxRecDepth 20000 in
theorem gX2_loudness_X2_takes : GoodIn wsX2_loudness (wsV RX2 63 RX2 yX2_takes wsX2_takes) := goodIn_app (goodIn_of _ (by decide +kernel)) ggX2_loudness_X2_takes
set_option maxRecDepth 20000 in
theorem ggX2_loudness_X2_talks : GoodIn wsX2_loudness wsX2_talks := goodIn_r _ [23, 24, 25, 26, 27, 28, 6, 29, 11, 12, 13, 14, 15, 16, 17, 18, 19, 10, 30, 31, 32, 33, 34, 35, 36, 37, 38, 39, 40] (by decide +kernel) (by decide +kernel)
set_option maxRecDepth 20000 in
theorem gX2_loudness_X2_talks : GoodIn wsX2_loudness (wsV RX2 87 RX2 yX2_talks wsX2_talks) := goodIn_app (goodIn_of _ (by decide +kernel)) ggX2_loudness_X2_talks
theorem dX2_loudness_0 : decode cX2_loudness 0 = .ok (.aload_n 0, 1) := by decide +kernel
theorem dX2_loudness_1 : decode cX2_loudness 1 = .ok (.invokevirtual 60, 3) := by decide +kernel
theorem dX2_loudness_4 : decode cX2_loudness 4 = .ok (.istore_n 1, 1) := by decide +kernel
theorem dX2_loudness_5 : decode cX2_loudness 5 = .ok (.iconst 0, 1) := by decide +kernel
theorem dX2_loudness_6 : decode cX2_loudness 6 = .ok (.istore_n 2, 1) := by decide +kernel
theorem dX2_loudness_7 : decode cX2_loudness 7 = .ok (.iconst 0, 1) := by decide +kernel
theorem dX2_loudness_8 : decode cX2_loudness 8 = .ok (.istore_n 3, 1) := by decide +kernel
theorem dX2_loudness_9 : decode cX2_loudness 9 = .ok (.iload_n 3, 1) := by decide +kernel
theorem dX2_loudness_10 : decode cX2_loudness 10 = .ok (.bipush 30, 2) := by decide +kernel
theorem dX2_loudness_12 : decode cX2_loudness 12 = .ok (.if_icmp .ge 31, 3) := by decide +kernel
theorem dX2_loudness_15 : decode cX2_loudness 15 = .ok (.iload_n 2, 1) := by decide +kernel
theorem dX2_loudness_16 : decode cX2_loudness 16 = .ok (.aload_n 0, 1) := by decide +kernel
theorem dX2_loudness_17 : decode cX2_loudness 17 = .ok (.iload_n 1, 1) := by decide +kernel
theorem dX2_loudness_18 : decode cX2_loudness 18 = .ok (.iload_n 3, 1) := by decide +kernel
theorem dX2_loudness_19 : decode cX2_loudness 19 = .ok (.invokevirtual 63, 3) := by decide +kernel
theorem dX2_loudness_22 : decode cX2_loudness 22 = .ok (.ifCond .eq 7, 3) := by decide +kernel
theorem dX2_loudness_25 : decode cX2_loudness 25 = .ok (.iconst 0, 1) := by decide +kernel
theorem dX2_loudness_26 : decode cX2_loudness 26 = .ok (.goto 9, 3) := by decide +kernel
theorem dX2_loudness_29 : decode cX2_loudness 29 = .ok (.aload_n 0, 1) := by decide +kernel
theorem dX2_loudness_30 : decode cX2_loudness 30 = .ok (.getfield 24, 3) := by decide +kernel
theorem dX2_loudness_33 : decode cX2_loudness 33 = .ok (.iload_n 3, 1) := by decide +kernel
theorem dX2_loudness_34 : decode cX2_loudness 34 = .ok (.iaload, 1) := by decide +kernel
theorem dX2_loudness_35 : decode cX2_loudness 35 = .ok (.iadd, 1) := by decide +kernel
theorem dX2_loudness_36 : decode cX2_loudness 36 = .ok (.istore_n 2, 1) := by decide +kernel
theorem dX2_loudness_37 : decode cX2_loudness 37 = .ok (.iinc 3 1, 3) := by decide +kernel
theorem dX2_loudness_40 : decode cX2_loudness 40 = .ok (.goto (-31), 3) := by decide +kernel
theorem dX2_loudness_43 : decode cX2_loudness 43 = .ok (.iconst 0, 1) := by decide +kernel
theorem dX2_loudness_44 : decode cX2_loudness 44 = .ok (.istore_n 3, 1) := by decide +kernel
theorem dX2_loudness_45 : decode cX2_loudness 45 = .ok (.iload_n 3, 1) := by decide +kernel
theorem dX2_loudness_46 : decode cX2_loudness 46 = .ok (.aload_n 0, 1) := by decide +kernel
theorem dX2_loudness_47 : decode cX2_loudness 47 = .ok (.getfield 28, 3) := by decide +kernel
theorem dX2_loudness_50 : decode cX2_loudness 50 = .ok (.if_icmp .ge 18, 3) := by decide +kernel
theorem dX2_loudness_53 : decode cX2_loudness 53 = .ok (.iload_n 2, 1) := by decide +kernel
theorem dX2_loudness_54 : decode cX2_loudness 54 = .ok (.aload_n 0, 1) := by decide +kernel
theorem dX2_loudness_55 : decode cX2_loudness 55 = .ok (.iload_n 3, 1) := by decide +kernel
theorem dX2_loudness_56 : decode cX2_loudness 56 = .ok (.iload_n 1, 1) := by decide +kernel
theorem dX2_loudness_57 : decode cX2_loudness 57 = .ok (.invokevirtual 87, 3) := by decide +kernel
theorem dX2_loudness_60 : decode cX2_loudness 60 = .ok (.iadd, 1) := by decide +kernel
theorem dX2_loudness_61 : decode cX2_loudness 61 = .ok (.istore_n 2, 1) := by decide +kernel
theorem dX2_loudness_62 : decode cX2_loudness 62 = .ok (.iinc 3 1, 3) := by decide +kernel
theorem dX2_loudness_65 : decode cX2_loudness 65 = .ok (.goto (-20), 3) := by decide +kernel
theorem dX2_loudness_68 : decode cX2_loudness 68 = .ok (.iload_n 2, 1) := by decide +kernel
theorem dX2_loudness_69 : decode cX2_loudness 69 = .ok (.ireturn, 1) := by decide +kernel
set_option maxRecDepth 20000 in
theorem ggX2_goOn_X2_oneMinuteGoes : GoodIn wsX2_goOn wsX2_oneMinuteGoes := goodIn_r _ [5, 6, 7, 8, 9, 10, 11, 12, 4, 13, 14, 15, 16, 17, 18, 19, 20, 21, 22, 23, 24, 25, 26, 27, 28, 29, 30, 31, 32, 33, 34, 35, 36, 37, 38, 39, 40, 41, 42, 43, 44, 45, 46, 47, 48, 49, 50, 51, 52, 53, 54, 55, 56, 57, 58, 59, 60, 61, 62, 63, 64, 65, 66, 67, 68, 69, 70, 71, 72, 73, 74, 75, 76, 77, 78, 79] (by decide +kernel) (by decide +kernel)
set_option maxRecDepth 20000 in
theorem gX2_goOn_X2_oneMinuteGoes : GoodIn wsX2_goOn (wsV RX2 90 RX2 yX2_oneMinuteGoes wsX2_oneMinuteGoes) := goodIn_app (goodIn_of _ (by decide +kernel)) ggX2_goOn_X2_oneMinuteGoes
theorem dX2_goOn_0 : decode cX2_goOn 0 = .ok (.iconst 0, 1) := by decide +kernel
theorem dX2_goOn_1 : decode cX2_goOn 1 = .ok (.istore_n 2, 1) := by decide +kernel
theorem dX2_goOn_2 : decode cX2_goOn 2 = .ok (.iload_n 2, 1) := by decide +kernel
theorem dX2_goOn_3 : decode cX2_goOn 3 = .ok (.iload_n 1, 1) := by decide +kernel
theorem dX2_goOn_4 : decode cX2_goOn 4 = .ok (.if_icmp .ge 13, 3) := by decide +kernel
theorem dX2_goOn_7 : decode cX2_goOn 7 = .ok (.aload_n 0, 1) := by decide +kernel
theorem dX2_goOn_8 : decode cX2_goOn 8 = .ok (.invokevirtual 90, 3) := by decide +kernel
theorem dX2_goOn_11 : decode cX2_goOn 11 = .ok (.iinc 2 1, 3) := by decide +kernel
theorem dX2_goOn_14 : decode cX2_goOn 14 = .ok (.goto (-12), 3) := by decide +kernel
theorem dX2_goOn_17 : decode cX2_goOn 17 = .ok (.return_, 1) := by decide +kernel
set_option maxRecDepth 20000 in
theorem ggX2_oneMinuteGoes_X2_edge : GoodIn wsX2_oneMinuteGoes wsX2_edge := goodIn_r _ [9, 10, 11, 12, 13, 14, 15, 8, 16, 4, 65, 66, 67, 68, 69, 70, 71, 72, 73, 74, 75] (by decide +kernel) (by decide +kernel)
set_option maxRecDepth 20000 in
theorem gX2_oneMinuteGoes_X2_edge : GoodIn wsX2_oneMinuteGoes (wsV RX2 60 RX2 yX2_edge wsX2_edge) := goodIn_app (goodIn_of _ (by decide +kernel)) ggX2_oneMinuteGoes_X2_edge
set_option maxRecDepth 20000 in
theorem ggX2_oneMinuteGoes_X2_whoIsIn : GoodIn wsX2_oneMinuteGoes wsX2_whoIsIn := goodIn_r _ [20, 1, 2, 5, 6, 7, 8, 9, 10, 11, 12, 13, 14, 15, 16, 4, 21, 22, 23, 24, 65, 66, 67, 68, 69, 70, 71, 72, 73, 74, 75] (by decide +kernel) (by decide +kernel)
set_option maxRecDepth 20000 in
theorem gX2_oneMinuteGoes_X2_whoIsIn : GoodIn wsX2_oneMinuteGoes (wsV RX2 93 RX2 yX2_whoIsIn wsX2_whoIsIn) := goodIn_app (goodIn_of _ (by decide +kernel)) ggX2_oneMinuteGoes_X2_whoIsIn
set_option maxRecDepth 20000 in
theorem ggX2_oneMinuteGoes_X2_isInIt : GoodIn wsX2_oneMinuteGoes wsX2_isInIt := goodIn_r _ [28, 29, 30, 31, 32, 33, 3, 34, 35, 36, 37, 8, 38, 39, 65, 66, 67, 68, 69, 70, 71, 72, 73, 74, 75] (by decide +kernel) (by decide +kernel)
set_option maxRecDepth 20000 in
theorem gX2_oneMinuteGoes_X2_isInIt : GoodIn wsX2_oneMinuteGoes (wsV RX2 96 RX2 yX2_isInIt wsX2_isInIt) := goodIn_app (goodIn_of _ (by decide +kernel)) ggX2_oneMinuteGoes_X2_isInIt
set_option maxRecDepth 20000 in
theorem ggX2_oneMinuteGoes_X2_goes : GoodIn wsX2_oneMinuteGoes wsX2_goes := goodIn_r _ [43, 39, 2, 44, 45, 46, 8, 47, 11, 21, 22, 23, 24, 12, 48, 49, 50, 51, 52, 53, 54, 55, 56, 57, 31, 32, 33, 58, 59, 60, 61, 62, 63, 64, 13, 14, 15, 16, 4, 65, 66, 67, 68, 69, 70, 71, 72, 73, 74, 75] (by decide +kernel) (by decide +kernel)
set_option maxRecDepth 20000 in
theorem gX2_oneMinuteGoes_X2_goes : GoodIn wsX2_oneMinuteGoes (wsV RX2 100 RX2 yX2_goes wsX2_goes) := goodIn_app (goodIn_of _ (by decide +kernel)) ggX2_oneMinuteGoes_X2_goes
set_option maxRecDepth 20000 in
theorem ggX2_oneMinuteGoes_X3_held : GoodIn wsX2_oneMinuteGoes wsX3_held := goodIn_r _ [56, 57, 31, 32, 33, 58, 59, 60] (by decide +kernel) (by decide +kernel)
set_option maxRecDepth 20000 in
theorem gX2_oneMinuteGoes_X3_held_n75 : GoodIn wsX2_oneMinuteGoes (wsX3_held) := ggX2_oneMinuteGoes_X3_held
theorem dX2_oneMinuteGoes_0 : decode cX2_oneMinuteGoes 0 = .ok (.aload_n 0, 1) := by decide +kernel
theorem dX2_oneMinuteGoes_1 : decode cX2_oneMinuteGoes 1 = .ok (.invokevirtual 60, 3) := by decide +kernel
theorem dX2_oneMinuteGoes_4 : decode cX2_oneMinuteGoes 4 = .ok (.istore_n 1, 1) := by decide +kernel
theorem dX2_oneMinuteGoes_5 : decode cX2_oneMinuteGoes 5 = .ok (.aload_n 0, 1) := by decide +kernel
theorem dX2_oneMinuteGoes_6 : decode cX2_oneMinuteGoes 6 = .ok (.invokevirtual 93, 3) := by decide +kernel
theorem dX2_oneMinuteGoes_9 : decode cX2_oneMinuteGoes 9 = .ok (.istore_n 2, 1) := by decide +kernel
theorem dX2_oneMinuteGoes_10 : decode cX2_oneMinuteGoes 10 = .ok (.iconst 0, 1) := by decide +kernel
theorem dX2_oneMinuteGoes_11 : decode cX2_oneMinuteGoes 11 = .ok (.istore_n 3, 1) := by decide +kernel
theorem dX2_oneMinuteGoes_12 : decode cX2_oneMinuteGoes 12 = .ok (.iload_n 3, 1) := by decide +kernel
theorem dX2_oneMinuteGoes_13 : decode cX2_oneMinuteGoes 13 = .ok (.aload_n 0, 1) := by decide +kernel
theorem dX2_oneMinuteGoes_14 : decode cX2_oneMinuteGoes 14 = .ok (.getfield 28, 3) := by decide +kernel
theorem dX2_oneMinuteGoes_17 : decode cX2_oneMinuteGoes 17 = .ok (.if_icmp .ge 48, 3) := by decide +kernel
theorem dX2_oneMinuteGoes_20 : decode cX2_oneMinuteGoes 20 = .ok (.iload_n 2, 1) := by decide +kernel
theorem dX2_oneMinuteGoes_21 : decode cX2_oneMinuteGoes 21 = .ok (.iload_n 3, 1) := by decide +kernel
theorem dX2_oneMinuteGoes_22 : decode cX2_oneMinuteGoes 22 = .ok (.ishr, 1) := by decide +kernel
theorem dX2_oneMinuteGoes_23 : decode cX2_oneMinuteGoes 23 = .ok (.iconst 1, 1) := by decide +kernel
theorem dX2_oneMinuteGoes_24 : decode cX2_oneMinuteGoes 24 = .ok (.iand, 1) := by decide +kernel
theorem dX2_oneMinuteGoes_25 : decode cX2_oneMinuteGoes 25 = .ok (.iconst 1, 1) := by decide +kernel
theorem dX2_oneMinuteGoes_26 : decode cX2_oneMinuteGoes 26 = .ok (.if_icmp .ne 8, 3) := by decide +kernel
theorem dX2_oneMinuteGoes_29 : decode cX2_oneMinuteGoes 29 = .ok (.aload_n 0, 1) := by decide +kernel
theorem dX2_oneMinuteGoes_30 : decode cX2_oneMinuteGoes 30 = .ok (.iload_n 3, 1) := by decide +kernel
theorem dX2_oneMinuteGoes_31 : decode cX2_oneMinuteGoes 31 = .ok (.invokevirtual 96, 3) := by decide +kernel
theorem dX2_oneMinuteGoes_34 : decode cX2_oneMinuteGoes 34 = .ok (.aload_n 0, 1) := by decide +kernel
theorem dX2_oneMinuteGoes_35 : decode cX2_oneMinuteGoes 35 = .ok (.getfield 34, 3) := by decide +kernel
theorem dX2_oneMinuteGoes_38 : decode cX2_oneMinuteGoes 38 = .ok (.iload_n 3, 1) := by decide +kernel
theorem dX2_oneMinuteGoes_39 : decode cX2_oneMinuteGoes 39 = .ok (.aload_n 0, 1) := by decide +kernel
theorem dX2_oneMinuteGoes_40 : decode cX2_oneMinuteGoes 40 = .ok (.getfield 34, 3) := by decide +kernel
theorem dX2_oneMinuteGoes_43 : decode cX2_oneMinuteGoes 43 = .ok (.iload_n 3, 1) := by decide +kernel
theorem dX2_oneMinuteGoes_44 : decode cX2_oneMinuteGoes 44 = .ok (.iaload, 1) := by decide +kernel
theorem dX2_oneMinuteGoes_45 : decode cX2_oneMinuteGoes 45 = .ok (.aload_n 0, 1) := by decide +kernel
theorem dX2_oneMinuteGoes_46 : decode cX2_oneMinuteGoes 46 = .ok (.iload_n 3, 1) := by decide +kernel
theorem dX2_oneMinuteGoes_47 : decode cX2_oneMinuteGoes 47 = .ok (.iload_n 1, 1) := by decide +kernel
theorem dX2_oneMinuteGoes_48 : decode cX2_oneMinuteGoes 48 = .ok (.invokevirtual 100, 3) := by decide +kernel
theorem dX2_oneMinuteGoes_51 : decode cX2_oneMinuteGoes 51 = .ok (.iadd, 1) := by decide +kernel
theorem dX2_oneMinuteGoes_52 : decode cX2_oneMinuteGoes 52 = .ok (.iconst 0, 1) := by decide +kernel
theorem dX2_oneMinuteGoes_53 : decode cX2_oneMinuteGoes 53 = .ok (.bipush 29, 2) := by decide +kernel
theorem dX2_oneMinuteGoes_55 : decode cX2_oneMinuteGoes 55 = .ok (.invokestatic 75, 3) := by decide +kernel
theorem dX2_oneMinuteGoes_58 : decode cX2_oneMinuteGoes 58 = .ok (.iastore, 1) := by decide +kernel
theorem dX2_oneMinuteGoes_59 : decode cX2_oneMinuteGoes 59 = .ok (.iinc 3 1, 3) := by decide +kernel
theorem dX2_oneMinuteGoes_62 : decode cX2_oneMinuteGoes 62 = .ok (.goto (-50), 3) := by decide +kernel
theorem dX2_oneMinuteGoes_65 : decode cX2_oneMinuteGoes 65 = .ok (.aload_n 0, 1) := by decide +kernel
theorem dX2_oneMinuteGoes_66 : decode cX2_oneMinuteGoes 66 = .ok (.iload_n 2, 1) := by decide +kernel
theorem dX2_oneMinuteGoes_67 : decode cX2_oneMinuteGoes 67 = .ok (.putfield 43, 3) := by decide +kernel
theorem dX2_oneMinuteGoes_70 : decode cX2_oneMinuteGoes 70 = .ok (.aload_n 0, 1) := by decide +kernel
theorem dX2_oneMinuteGoes_71 : decode cX2_oneMinuteGoes 71 = .ok (.dup, 1) := by decide +kernel
theorem dX2_oneMinuteGoes_72 : decode cX2_oneMinuteGoes 72 = .ok (.getfield 9, 3) := by decide +kernel
theorem dX2_oneMinuteGoes_75 : decode cX2_oneMinuteGoes 75 = .ok (.iconst 1, 1) := by decide +kernel
theorem dX2_oneMinuteGoes_76 : decode cX2_oneMinuteGoes 76 = .ok (.iadd, 1) := by decide +kernel
theorem dX2_oneMinuteGoes_77 : decode cX2_oneMinuteGoes 77 = .ok (.putfield 9, 3) := by decide +kernel
theorem dX2_oneMinuteGoes_80 : decode cX2_oneMinuteGoes 80 = .ok (.return_, 1) := by decide +kernel
set_option maxRecDepth 20000 in
theorem ggX2_isInIt_X2_stepsOver : GoodIn wsX2_isInIt wsX2_stepsOver := goodIn_r _ [12, 13, 7, 14, 15, 16, 17, 18, 19, 20, 21, 22, 23, 24] (by decide +kernel) (by decide +kernel)
set_option maxRecDepth 20000 in
theorem gX2_isInIt_X2_stepsOver : GoodIn wsX2_isInIt (wsV RX2 108 RX2 yX2_stepsOver wsX2_stepsOver) := goodIn_app (goodIn_of _ (by decide +kernel)) ggX2_isInIt_X2_stepsOver
theorem dX2_isInIt_0 : decode cX2_isInIt 0 = .ok (.aload_n 0, 1) := by decide +kernel
theorem dX2_isInIt_1 : decode cX2_isInIt 1 = .ok (.getfield 37, 3) := by decide +kernel
theorem dX2_isInIt_4 : decode cX2_isInIt 4 = .ok (.iload_n 1, 1) := by decide +kernel
theorem dX2_isInIt_5 : decode cX2_isInIt 5 = .ok (.sipush 9999, 3) := by decide +kernel
theorem dX2_isInIt_8 : decode cX2_isInIt 8 = .ok (.aload_n 0, 1) := by decide +kernel
theorem dX2_isInIt_9 : decode cX2_isInIt 9 = .ok (.getfield 37, 3) := by decide +kernel
theorem dX2_isInIt_12 : decode cX2_isInIt 12 = .ok (.iload_n 1, 1) := by decide +kernel
theorem dX2_isInIt_13 : decode cX2_isInIt 13 = .ok (.iaload, 1) := by decide +kernel
theorem dX2_isInIt_14 : decode cX2_isInIt 14 = .ok (.iconst 1, 1) := by decide +kernel
theorem dX2_isInIt_15 : decode cX2_isInIt 15 = .ok (.iadd, 1) := by decide +kernel
theorem dX2_isInIt_16 : decode cX2_isInIt 16 = .ok (.invokestatic 103, 3) := by decide +kernel
theorem dX2_isInIt_19 : decode cX2_isInIt 19 = .ok (.iastore, 1) := by decide +kernel
theorem dX2_isInIt_20 : decode cX2_isInIt 20 = .ok (.aload_n 0, 1) := by decide +kernel
theorem dX2_isInIt_21 : decode cX2_isInIt 21 = .ok (.getfield 43, 3) := by decide +kernel
theorem dX2_isInIt_24 : decode cX2_isInIt 24 = .ok (.iload_n 1, 1) := by decide +kernel
theorem dX2_isInIt_25 : decode cX2_isInIt 25 = .ok (.ishr, 1) := by decide +kernel
theorem dX2_isInIt_26 : decode cX2_isInIt 26 = .ok (.iconst 1, 1) := by decide +kernel
theorem dX2_isInIt_27 : decode cX2_isInIt 27 = .ok (.iand, 1) := by decide +kernel
theorem dX2_isInIt_28 : decode cX2_isInIt 28 = .ok (.ifCond .ne 31, 3) := by decide +kernel
theorem dX2_isInIt_31 : decode cX2_isInIt 31 = .ok (.aload_n 0, 1) := by decide +kernel
theorem dX2_isInIt_32 : decode cX2_isInIt 32 = .ok (.iload_n 1, 1) := by decide +kernel
theorem dX2_isInIt_33 : decode cX2_isInIt 33 = .ok (.invokevirtual 108, 3) := by decide +kernel
theorem dX2_isInIt_36 : decode cX2_isInIt 36 = .ok (.ifCond .ne 23, 3) := by decide +kernel
theorem dX2_isInIt_39 : decode cX2_isInIt 39 = .ok (.aload_n 0, 1) := by decide +kernel
theorem dX2_isInIt_40 : decode cX2_isInIt 40 = .ok (.getfield 40, 3) := by decide +kernel
theorem dX2_isInIt_43 : decode cX2_isInIt 43 = .ok (.iload_n 1, 1) := by decide +kernel
theorem dX2_isInIt_44 : decode cX2_isInIt 44 = .ok (.sipush 9999, 3) := by decide +kernel
theorem dX2_isInIt_47 : decode cX2_isInIt 47 = .ok (.aload_n 0, 1) := by decide +kernel
theorem dX2_isInIt_48 : decode cX2_isInIt 48 = .ok (.getfield 40, 3) := by decide +kernel
theorem dX2_isInIt_51 : decode cX2_isInIt 51 = .ok (.iload_n 1, 1) := by decide +kernel
theorem dX2_isInIt_52 : decode cX2_isInIt 52 = .ok (.iaload, 1) := by decide +kernel
theorem dX2_isInIt_53 : decode cX2_isInIt 53 = .ok (.iconst 1, 1) := by decide +kernel
theorem dX2_isInIt_54 : decode cX2_isInIt 54 = .ok (.iadd, 1) := by decide +kernel
theorem dX2_isInIt_55 : decode cX2_isInIt 55 = .ok (.invokestatic 103, 3) := by decide +kernel
theorem dX2_isInIt_58 : decode cX2_isInIt 58 = .ok (.iastore, 1) := by decide +kernel
theorem dX2_isInIt_59 : decode cX2_isInIt 59 = .ok (.return_, 1) := by decide +kernel
set_option maxRecDepth 20000 in
theorem ggX2_noiseOfAll_X3_sum : GoodIn wsX2_noiseOfAll wsX3_sum := goodIn_r _ [4] (by decide +kernel) (by decide +kernel)
set_option maxRecDepth 20000 in
theorem gX2_noiseOfAll_X3_sum_n112 : GoodIn wsX2_noiseOfAll (wsX3_sum) := ggX2_noiseOfAll_X3_sum
theorem dX2_noiseOfAll_0 : decode cX2_noiseOfAll 0 = .ok (.aload_n 0, 1) := by decide +kernel
theorem dX2_noiseOfAll_1 : decode cX2_noiseOfAll 1 = .ok (.getfield 24, 3) := by decide +kernel
theorem dX2_noiseOfAll_4 : decode cX2_noiseOfAll 4 = .ok (.bipush 30, 2) := by decide +kernel
theorem dX2_noiseOfAll_6 : decode cX2_noiseOfAll 6 = .ok (.invokestatic 112, 3) := by decide +kernel
theorem dX2_noiseOfAll_9 : decode cX2_noiseOfAll 9 = .ok (.ireturn, 1) := by decide +kernel
set_option maxRecDepth 20000 in
theorem ggX2_quietOfAll_X3_sum : GoodIn wsX2_quietOfAll wsX3_sum := goodIn_r _ [5] (by decide +kernel) (by decide +kernel)
set_option maxRecDepth 20000 in
theorem gX2_quietOfAll_X3_sum_n112 : GoodIn wsX2_quietOfAll (wsX3_sum) := ggX2_quietOfAll_X3_sum
theorem dX2_quietOfAll_0 : decode cX2_quietOfAll 0 = .ok (.aload_n 0, 1) := by decide +kernel
theorem dX2_quietOfAll_1 : decode cX2_quietOfAll 1 = .ok (.getfield 37, 3) := by decide +kernel
theorem dX2_quietOfAll_4 : decode cX2_quietOfAll 4 = .ok (.aload_n 0, 1) := by decide +kernel
theorem dX2_quietOfAll_5 : decode cX2_quietOfAll 5 = .ok (.getfield 28, 3) := by decide +kernel
theorem dX2_quietOfAll_8 : decode cX2_quietOfAll 8 = .ok (.invokestatic 112, 3) := by decide +kernel
theorem dX2_quietOfAll_11 : decode cX2_quietOfAll 11 = .ok (.ireturn, 1) := by decide +kernel
set_option maxRecDepth 20000 in
theorem ggX2_caughtOfAll_X3_sum : GoodIn wsX2_caughtOfAll wsX3_sum := goodIn_r _ [5] (by decide +kernel) (by decide +kernel)
set_option maxRecDepth 20000 in
theorem gX2_caughtOfAll_X3_sum_n112 : GoodIn wsX2_caughtOfAll (wsX3_sum) := ggX2_caughtOfAll_X3_sum
theorem dX2_caughtOfAll_0 : decode cX2_caughtOfAll 0 = .ok (.aload_n 0, 1) := by decide +kernel
theorem dX2_caughtOfAll_1 : decode cX2_caughtOfAll 1 = .ok (.getfield 40, 3) := by decide +kernel
theorem dX2_caughtOfAll_4 : decode cX2_caughtOfAll 4 = .ok (.aload_n 0, 1) := by decide +kernel
theorem dX2_caughtOfAll_5 : decode cX2_caughtOfAll 5 = .ok (.getfield 28, 3) := by decide +kernel
theorem dX2_caughtOfAll_8 : decode cX2_caughtOfAll 8 = .ok (.invokestatic 112, 3) := by decide +kernel
theorem dX2_caughtOfAll_11 : decode cX2_caughtOfAll 11 = .ok (.ireturn, 1) := by decide +kernel
set_option maxRecDepth 20000 in
theorem ggX3_init_X2_init : GoodIn wsX3_init wsX2_init := goodIn_r _ [23, 24, 2, 3, 25, 26, 27, 28, 18, 29, 30, 31, 32, 33, 34, 35, 55, 56, 57, 58, 59, 60, 61, 62, 63, 64, 65] (by decide +kernel) (by decide +kernel)
set_option maxRecDepth 20000 in
theorem gX3_init_X2_init : GoodIn wsX3_init (wsX2_init) := ggX3_init_X2_init
set_option maxRecDepth 20000 in
theorem ggX3_init_X1_init : GoodIn wsX3_init wsX1_init := goodIn_r _ [38, 39, 2, 3, 18, 40, 41, 42, 43, 44, 45, 46, 73, 74, 75, 76, 77, 78, 79] (by decide +kernel) (by decide +kernel)
set_option maxRecDepth 20000 in
theorem gX3_init_X1_init : GoodIn wsX3_init (wsX1_init) := ggX3_init_X1_init
set_option maxRecDepth 20000 in
theorem ggX3_init_X0_init : GoodIn wsX3_init wsX0_init := goodIn_r _ [49, 50, 2, 3, 51, 52, 53, 54, 80, 81, 82] (by decide +kernel) (by decide +kernel)
set_option maxRecDepth 20000 in
theorem gX3_init_X0_init : GoodIn wsX3_init (wsX0_init) := ggX3_init_X0_init
theorem dX3_init_0 : decode cX3_init 0 = .ok (.aload_n 0, 1) := by decide +kernel
theorem dX3_init_1 : decode cX3_init 1 = .ok (.invokespecial 3, 3) := by decide +kernel
theorem dX3_init_4 : decode cX3_init 4 = .ok (.aload_n 0, 1) := by decide +kernel
theorem dX3_init_5 : decode cX3_init 5 = .ok (.new 9, 3) := by decide +kernel
theorem dX3_init_8 : decode cX3_init 8 = .ok (.dup, 1) := by decide +kernel
theorem dX3_init_9 : decode cX3_init 9 = .ok (.invokespecial 11, 3) := by decide +kernel
theorem dX3_init_12 : decode cX3_init 12 = .ok (.putfield 12, 3) := by decide +kernel
theorem dX3_init_15 : decode cX3_init 15 = .ok (.aload_n 0, 1) := by decide +kernel
theorem dX3_init_16 : decode cX3_init 16 = .ok (.new 9, 3) := by decide +kernel
theorem dX3_init_19 : decode cX3_init 19 = .ok (.dup, 1) := by decide +kernel
theorem dX3_init_20 : decode cX3_init 20 = .ok (.invokespecial 11, 3) := by decide +kernel
theorem dX3_init_23 : decode cX3_init 23 = .ok (.putfield 16, 3) := by decide +kernel
theorem dX3_init_26 : decode cX3_init 26 = .ok (.aload_n 0, 1) := by decide +kernel
theorem dX3_init_27 : decode cX3_init 27 = .ok (.new 9, 3) := by decide +kernel
theorem dX3_init_30 : decode cX3_init 30 = .ok (.dup, 1) := by decide +kernel
theorem dX3_init_31 : decode cX3_init 31 = .ok (.invokespecial 11, 3) := by decide +kernel
theorem dX3_init_34 : decode cX3_init 34 = .ok (.putfield 19, 3) := by decide +kernel
theorem dX3_init_37 : decode cX3_init 37 = .ok (.aload_n 0, 1) := by decide +kernel
theorem dX3_init_38 : decode cX3_init 38 = .ok (.new 22, 3) := by decide +kernel
theorem dX3_init_41 : decode cX3_init 41 = .ok (.dup, 1) := by decide +kernel
theorem dX3_init_42 : decode cX3_init 42 = .ok (.invokespecial 24, 3) := by decide +kernel
theorem dX3_init_45 : decode cX3_init 45 = .ok (.putfield 25, 3) := by decide +kernel
theorem dX3_init_48 : decode cX3_init 48 = .ok (.aload_n 0, 1) := by decide +kernel
theorem dX3_init_49 : decode cX3_init 49 = .ok (.iconst 4, 1) := by decide +kernel
theorem dX3_init_50 : decode cX3_init 50 = .ok (.anewarray 29, 3) := by decide +kernel
theorem dX3_init_53 : decode cX3_init 53 = .ok (.putfield 31, 3) := by decide +kernel
theorem dX3_init_56 : decode cX3_init 56 = .ok (.iconst 0, 1) := by decide +kernel
theorem dX3_init_57 : decode cX3_init 57 = .ok (.istore_n 1, 1) := by decide +kernel
theorem dX3_init_58 : decode cX3_init 58 = .ok (.iload_n 1, 1) := by decide +kernel
theorem dX3_init_59 : decode cX3_init 59 = .ok (.iconst 4, 1) := by decide +kernel
theorem dX3_init_60 : decode cX3_init 60 = .ok (.if_icmp .ge 22, 3) := by decide +kernel
theorem dX3_init_63 : decode cX3_init 63 = .ok (.aload_n 0, 1) := by decide +kernel
theorem dX3_init_64 : decode cX3_init 64 = .ok (.getfield 31, 3) := by decide +kernel
theorem dX3_init_67 : decode cX3_init 67 = .ok (.iload_n 1, 1) := by decide +kernel
theorem dX3_init_68 : decode cX3_init 68 = .ok (.new 29, 3) := by decide +kernel
theorem dX3_init_71 : decode cX3_init 71 = .ok (.dup, 1) := by decide +kernel
theorem dX3_init_72 : decode cX3_init 72 = .ok (.invokespecial 35, 3) := by decide +kernel
theorem dX3_init_75 : decode cX3_init 75 = .ok (.aastore, 1) := by decide +kernel
theorem dX3_init_76 : decode cX3_init 76 = .ok (.iinc 1 1, 3) := by decide +kernel
theorem dX3_init_79 : decode cX3_init 79 = .ok (.goto (-21), 3) := by decide +kernel
theorem dX3_init_82 : decode cX3_init 82 = .ok (.aload_n 0, 1) := by decide +kernel
theorem dX3_init_83 : decode cX3_init 83 = .ok (.bipush 7, 2) := by decide +kernel
theorem dX3_init_85 : decode cX3_init 85 = .ok (.newarray .int, 2) := by decide +kernel
theorem dX3_init_87 : decode cX3_init 87 = .ok (.putfield 36, 3) := by decide +kernel
theorem dX3_init_90 : decode cX3_init 90 = .ok (.aload_n 0, 1) := by decide +kernel
theorem dX3_init_91 : decode cX3_init 91 = .ok (.iconst 0, 1) := by decide +kernel
theorem dX3_init_92 : decode cX3_init 92 = .ok (.putfield 40, 3) := by decide +kernel
theorem dX3_init_95 : decode cX3_init 95 = .ok (.return_, 1) := by decide +kernel
set_option maxRecDepth 20000 in
theorem ggX3_noise_X3_isHouse : GoodIn wsX3_noise wsX3_isHouse := goodIn_r _ [7, 8, 9, 6, 10] (by decide +kernel) (by decide +kernel)
set_option maxRecDepth 20000 in
theorem gX3_noise_X3_isHouse : GoodIn wsX3_noise (va_wsS RX3 44 yX3_isHouse wsX3_isHouse) := goodIn_app (goodIn_of _ (by decide +kernel)) ggX3_noise_X3_isHouse
set_option maxRecDepth 20000 in
theorem ggX3_noise_X3_isWithin : GoodIn wsX3_noise wsX3_isWithin := goodIn_r _ [10] (by decide +kernel) (by decide +kernel)
set_option maxRecDepth 20000 in
theorem gX3_noise_X3_isWithin : GoodIn wsX3_noise (va_wsS RX3 48 yX3_isWithin wsX3_isWithin) := goodIn_app (goodIn_of _ (by decide +kernel)) ggX3_noise_X3_isWithin
set_option maxRecDepth 20000 in
theorem ggX3_noise_X3_found : GoodIn wsX3_noise wsX3_found := goodIn_r _ [14, 1, 15, 8, 9, 6, 10, 16, 17, 18, 19, 20, 21, 22] (by decide +kernel) (by decide +kernel)
set_option maxRecDepth 20000 in
theorem gX3_noise_X3_found : GoodIn wsX3_noise (wsV RX3 53 RX3 yX3_found wsX3_found) := goodIn_app (goodIn_of _ (by decide +kernel)) ggX3_noise_X3_found
theorem dX3_noise_0 : decode cX3_noise 0 = .ok (.iload_n 1, 1) := by decide +kernel
theorem dX3_noise_1 : decode cX3_noise 1 = .ok (.invokestatic 44, 3) := by decide +kernel
theorem dX3_noise_4 : decode cX3_noise 4 = .ok (.ifCond .eq 13, 3) := by decide +kernel
theorem dX3_noise_7 : decode cX3_noise 7 = .ok (.iload_n 2, 1) := by decide +kernel
theorem dX3_noise_8 : decode cX3_noise 8 = .ok (.iconst 0, 1) := by decide +kernel
theorem dX3_noise_9 : decode cX3_noise 9 = .ok (.bipush 20, 2) := by decide +kernel
theorem dX3_noise_11 : decode cX3_noise 11 = .ok (.invokestatic 48, 3) := by decide +kernel
theorem dX3_noise_14 : decode cX3_noise 14 = .ok (.ifCond .ne 10, 3) := by decide +kernel
theorem dX3_noise_17 : decode cX3_noise 17 = .ok (.aload_n 0, 1) := by decide +kernel
theorem dX3_noise_18 : decode cX3_noise 18 = .ok (.ldc 52, 2) := by decide +kernel
theorem dX3_noise_20 : decode cX3_noise 20 = .ok (.invokevirtual 53, 3) := by decide +kernel
theorem dX3_noise_23 : decode cX3_noise 23 = .ok (.ireturn, 1) := by decide +kernel
theorem dX3_noise_24 : decode cX3_noise 24 = .ok (.aload_n 0, 1) := by decide +kernel
theorem dX3_noise_25 : decode cX3_noise 25 = .ok (.getfield 12, 3) := by decide +kernel
theorem dX3_noise_28 : decode cX3_noise 28 = .ok (.getfield 57, 3) := by decide +kernel
theorem dX3_noise_31 : decode cX3_noise 31 = .ok (.iload_n 1, 1) := by decide +kernel
theorem dX3_noise_32 : decode cX3_noise 32 = .ok (.iaload, 1) := by decide +kernel
theorem dX3_noise_33 : decode cX3_noise 33 = .ok (.istore_n 3, 1) := by decide +kernel
theorem dX3_noise_34 : decode cX3_noise 34 = .ok (.aload_n 0, 1) := by decide +kernel
theorem dX3_noise_35 : decode cX3_noise 35 = .ok (.getfield 12, 3) := by decide +kernel
theorem dX3_noise_38 : decode cX3_noise 38 = .ok (.getfield 57, 3) := by decide +kernel
theorem dX3_noise_41 : decode cX3_noise 41 = .ok (.iload_n 1, 1) := by decide +kernel
theorem dX3_noise_42 : decode cX3_noise 42 = .ok (.iload_n 2, 1) := by decide +kernel
theorem dX3_noise_43 : decode cX3_noise 43 = .ok (.iastore, 1) := by decide +kernel
theorem dX3_noise_44 : decode cX3_noise 44 = .ok (.iload_n 3, 1) := by decide +kernel
theorem dX3_noise_45 : decode cX3_noise 45 = .ok (.ireturn, 1) := by decide +kernel
set_option maxRecDepth 20000 in
theorem ggX3_hush_X3_isWithin : GoodIn wsX3_hush wsX3_isWithin := goodIn_r _ [9] (by decide +kernel) (by decide +kernel)
set_option maxRecDepth 20000 in
theorem gX3_hush_X3_isWithin : GoodIn wsX3_hush (va_wsS RX3 48 yX3_isWithin wsX3_isWithin) := goodIn_app (goodIn_of _ (by decide +kernel)) ggX3_hush_X3_isWithin
set_option maxRecDepth 20000 in
theorem ggX3_hush_X3_found : GoodIn wsX3_hush wsX3_found := goodIn_r _ [13, 5, 14, 6, 7, 8, 9, 15, 16, 17, 18, 19, 20, 21] (by decide +kernel) (by decide +kernel)
set_option maxRecDepth 20000 in
theorem gX3_hush_X3_found : GoodIn wsX3_hush (wsV RX3 53 RX3 yX3_found wsX3_found) := goodIn_app (goodIn_of _ (by decide +kernel)) ggX3_hush_X3_found
theorem dX3_hush_0 : decode cX3_hush 0 = .ok (.iload_n 1, 1) := by decide +kernel
theorem dX3_hush_1 : decode cX3_hush 1 = .ok (.ifCond .ne 32, 3) := by decide +kernel
theorem dX3_hush_4 : decode cX3_hush 4 = .ok (.iload_n 2, 1) := by decide +kernel
theorem dX3_hush_5 : decode cX3_hush 5 = .ok (.iconst 0, 1) := by decide +kernel
theorem dX3_hush_6 : decode cX3_hush 6 = .ok (.bipush 99, 2) := by decide +kernel
theorem dX3_hush_8 : decode cX3_hush 8 = .ok (.invokestatic 48, 3) := by decide +kernel
theorem dX3_hush_11 : decode cX3_hush 11 = .ok (.ifCond .eq 22, 3) := by decide +kernel
theorem dX3_hush_14 : decode cX3_hush 14 = .ok (.aload_n 0, 1) := by decide +kernel
theorem dX3_hush_15 : decode cX3_hush 15 = .ok (.getfield 12, 3) := by decide +kernel
theorem dX3_hush_18 : decode cX3_hush 18 = .ok (.getfield 60, 3) := by decide +kernel
theorem dX3_hush_21 : decode cX3_hush 21 = .ok (.istore_n 3, 1) := by decide +kernel
theorem dX3_hush_22 : decode cX3_hush 22 = .ok (.aload_n 0, 1) := by decide +kernel
theorem dX3_hush_23 : decode cX3_hush 23 = .ok (.getfield 12, 3) := by decide +kernel
theorem dX3_hush_26 : decode cX3_hush 26 = .ok (.iload_n 2, 1) := by decide +kernel
theorem dX3_hush_27 : decode cX3_hush 27 = .ok (.putfield 60, 3) := by decide +kernel
theorem dX3_hush_30 : decode cX3_hush 30 = .ok (.goto 77, 3) := by decide +kernel
theorem dX3_hush_33 : decode cX3_hush 33 = .ok (.iload_n 1, 1) := by decide +kernel
theorem dX3_hush_34 : decode cX3_hush 34 = .ok (.iconst 1, 1) := by decide +kernel
theorem dX3_hush_35 : decode cX3_hush 35 = .ok (.if_icmp .ne 32, 3) := by decide +kernel
theorem dX3_hush_38 : decode cX3_hush 38 = .ok (.iload_n 2, 1) := by decide +kernel
theorem dX3_hush_39 : decode cX3_hush 39 = .ok (.iconst 0, 1) := by decide +kernel
theorem dX3_hush_40 : decode cX3_hush 40 = .ok (.bipush 10, 2) := by decide +kernel
theorem dX3_hush_42 : decode cX3_hush 42 = .ok (.invokestatic 48, 3) := by decide +kernel
theorem dX3_hush_45 : decode cX3_hush 45 = .ok (.ifCond .eq 22, 3) := by decide +kernel
theorem dX3_hush_48 : decode cX3_hush 48 = .ok (.aload_n 0, 1) := by decide +kernel
theorem dX3_hush_49 : decode cX3_hush 49 = .ok (.getfield 12, 3) := by decide +kernel
theorem dX3_hush_52 : decode cX3_hush 52 = .ok (.getfield 64, 3) := by decide +kernel
theorem dX3_hush_55 : decode cX3_hush 55 = .ok (.istore_n 3, 1) := by decide +kernel
theorem dX3_hush_56 : decode cX3_hush 56 = .ok (.aload_n 0, 1) := by decide +kernel
theorem dX3_hush_57 : decode cX3_hush 57 = .ok (.getfield 12, 3) := by decide +kernel
theorem dX3_hush_60 : decode cX3_hush 60 = .ok (.iload_n 2, 1) := by decide +kernel
theorem dX3_hush_61 : decode cX3_hush 61 = .ok (.putfield 64, 3) := by decide +kernel
theorem dX3_hush_64 : decode cX3_hush 64 = .ok (.goto 43, 3) := by decide +kernel
theorem dX3_hush_67 : decode cX3_hush 67 = .ok (.iload_n 1, 1) := by decide +kernel
theorem dX3_hush_68 : decode cX3_hush 68 = .ok (.iconst 2, 1) := by decide +kernel
theorem dX3_hush_69 : decode cX3_hush 69 = .ok (.if_icmp .ne 31, 3) := by decide +kernel
theorem dX3_hush_72 : decode cX3_hush 72 = .ok (.iload_n 2, 1) := by decide +kernel
theorem dX3_hush_73 : decode cX3_hush 73 = .ok (.iconst 1, 1) := by decide +kernel
theorem dX3_hush_74 : decode cX3_hush 74 = .ok (.iconst 5, 1) := by decide +kernel
theorem dX3_hush_75 : decode cX3_hush 75 = .ok (.invokestatic 48, 3) := by decide +kernel
theorem dX3_hush_78 : decode cX3_hush 78 = .ok (.ifCond .eq 22, 3) := by decide +kernel
theorem dX3_hush_81 : decode cX3_hush 81 = .ok (.aload_n 0, 1) := by decide +kernel
theorem dX3_hush_82 : decode cX3_hush 82 = .ok (.getfield 12, 3) := by decide +kernel
theorem dX3_hush_85 : decode cX3_hush 85 = .ok (.getfield 67, 3) := by decide +kernel
theorem dX3_hush_88 : decode cX3_hush 88 = .ok (.istore_n 3, 1) := by decide +kernel
theorem dX3_hush_89 : decode cX3_hush 89 = .ok (.aload_n 0, 1) := by decide +kernel
theorem dX3_hush_90 : decode cX3_hush 90 = .ok (.getfield 12, 3) := by decide +kernel
theorem dX3_hush_93 : decode cX3_hush 93 = .ok (.iload_n 2, 1) := by decide +kernel
theorem dX3_hush_94 : decode cX3_hush 94 = .ok (.putfield 67, 3) := by decide +kernel
theorem dX3_hush_97 : decode cX3_hush 97 = .ok (.goto 10, 3) := by decide +kernel
theorem dX3_hush_100 : decode cX3_hush 100 = .ok (.aload_n 0, 1) := by decide +kernel
theorem dX3_hush_101 : decode cX3_hush 101 = .ok (.ldc 52, 2) := by decide +kernel
theorem dX3_hush_103 : decode cX3_hush 103 = .ok (.invokevirtual 53, 3) := by decide +kernel
theorem dX3_hush_106 : decode cX3_hush 106 = .ok (.istore_n 3, 1) := by decide +kernel
theorem dX3_hush_107 : decode cX3_hush 107 = .ok (.iload_n 3, 1) := by decide +kernel
theorem dX3_hush_108 : decode cX3_hush 108 = .ok (.ireturn, 1) := by decide +kernel
set_option maxRecDepth 20000 in
theorem ggX3_house_X3_isHouse : GoodIn wsX3_house wsX3_isHouse := goodIn_r _ [7, 8, 9, 6, 10] (by decide +kernel) (by decide +kernel)
set_option maxRecDepth 20000 in
theorem gX3_house_X3_isHouse : GoodIn wsX3_house (va_wsS RX3 44 yX3_isHouse wsX3_isHouse) := goodIn_app (goodIn_of _ (by decide +kernel)) ggX3_house_X3_isHouse
set_option maxRecDepth 20000 in
theorem ggX3_house_X3_found : GoodIn wsX3_house wsX3_found := goodIn_r _ [14, 1, 15, 8, 9, 6, 10, 39, 40, 41, 42, 43, 44, 45] (by decide +kernel) (by decide +kernel)
set_option maxRecDepth 20000 in
theorem gX3_house_X3_found : GoodIn wsX3_house (wsV RX3 53 RX3 yX3_found wsX3_found) := goodIn_app (goodIn_of _ (by decide +kernel)) ggX3_house_X3_found
set_option maxRecDepth 20000 in
theorem ggX3_house_X2_edge : GoodIn wsX3_house wsX2_edge := goodIn_r _ [20, 21, 22, 23, 24, 25, 26, 19, 27, 28, 46, 47, 48, 49, 50, 51, 52, 53, 54, 55, 56] (by decide +kernel) (by decide +kernel)
set_option maxRecDepth 20000 in
theorem gX3_house_X2_edge : GoodIn wsX3_house (wsV RX3 70 RX2 yX2_edge wsX2_edge) := goodIn_app (goodIn_of _ (by decide +kernel)) ggX3_house_X2_edge
set_option maxRecDepth 20000 in
theorem ggX3_house_X2_takes : GoodIn wsX3_house wsX2_takes := goodIn_r _ [32, 23, 46, 47, 48, 49, 50, 51, 52, 53, 54, 55, 56] (by decide +kernel) (by decide +kernel)
set_option maxRecDepth 20000 in
theorem gX3_house_X2_takes : GoodIn wsX3_house (wsV RX3 74 RX2 yX2_takes wsX2_takes) := goodIn_app (goodIn_of _ (by decide +kernel)) ggX3_house_X2_takes
set_option maxRecDepth 20000 in
theorem ggX3_house_X2_whoIsAt : GoodIn wsX3_house wsX2_whoIsAt := goodIn_r _ [36, 37, 38, 46, 47, 48, 49, 50, 51, 52, 53, 54, 55, 56] (by decide +kernel) (by decide +kernel)
set_option maxRecDepth 20000 in
theorem gX3_house_X2_whoIsAt : GoodIn wsX3_house (wsV RX3 78 RX2 yX2_whoIsAt wsX2_whoIsAt) := goodIn_app (goodIn_of _ (by decide +kernel)) ggX3_house_X2_whoIsAt
theorem dX3_house_0 : decode cX3_house 0 = .ok (.iload_n 1, 1) := by decide +kernel
theorem dX3_house_1 : decode cX3_house 1 = .ok (.invokestatic 44, 3) := by decide +kernel
theorem dX3_house_4 : decode cX3_house 4 = .ok (.ifCond .ne 10, 3) := by decide +kernel
theorem dX3_house_7 : decode cX3_house 7 = .ok (.aload_n 0, 1) := by decide +kernel
theorem dX3_house_8 : decode cX3_house 8 = .ok (.ldc 52, 2) := by decide +kernel
theorem dX3_house_10 : decode cX3_house 10 = .ok (.invokevirtual 53, 3) := by decide +kernel
theorem dX3_house_13 : decode cX3_house 13 = .ok (.ireturn, 1) := by decide +kernel
theorem dX3_house_14 : decode cX3_house 14 = .ok (.iload_n 2, 1) := by decide +kernel
theorem dX3_house_15 : decode cX3_house 15 = .ok (.tableswitch 68 0 2 #[25, 35, 59], 25) := by decide +kernel
theorem dX3_house_40 : decode cX3_house 40 = .ok (.aload_n 0, 1) := by decide +kernel
theorem dX3_house_41 : decode cX3_house 41 = .ok (.getfield 12, 3) := by decide +kernel
theorem dX3_house_44 : decode cX3_house 44 = .ok (.getfield 57, 3) := by decide +kernel
theorem dX3_house_47 : decode cX3_house 47 = .ok (.iload_n 1, 1) := by decide +kernel
theorem dX3_house_48 : decode cX3_house 48 = .ok (.iaload, 1) := by decide +kernel
theorem dX3_house_49 : decode cX3_house 49 = .ok (.ireturn, 1) := by decide +kernel
theorem dX3_house_50 : decode cX3_house 50 = .ok (.aload_n 0, 1) := by decide +kernel
theorem dX3_house_51 : decode cX3_house 51 = .ok (.getfield 12, 3) := by decide +kernel
theorem dX3_house_54 : decode cX3_house 54 = .ok (.aload_n 0, 1) := by decide +kernel
theorem dX3_house_55 : decode cX3_house 55 = .ok (.getfield 12, 3) := by decide +kernel
theorem dX3_house_58 : decode cX3_house 58 = .ok (.invokevirtual 70, 3) := by decide +kernel
theorem dX3_house_61 : decode cX3_house 61 = .ok (.iload_n 1, 1) := by decide +kernel
theorem dX3_house_62 : decode cX3_house 62 = .ok (.invokevirtual 74, 3) := by decide +kernel
theorem dX3_house_65 : decode cX3_house 65 = .ok (.ifCond .eq 7, 3) := by decide +kernel
theorem dX3_house_68 : decode cX3_house 68 = .ok (.iconst 1, 1) := by decide +kernel
theorem dX3_house_69 : decode cX3_house 69 = .ok (.goto 4, 3) := by decide +kernel
theorem dX3_house_72 : decode cX3_house 72 = .ok (.iconst 0, 1) := by decide +kernel
theorem dX3_house_73 : decode cX3_house 73 = .ok (.ireturn, 1) := by decide +kernel
theorem dX3_house_74 : decode cX3_house 74 = .ok (.aload_n 0, 1) := by decide +kernel
theorem dX3_house_75 : decode cX3_house 75 = .ok (.getfield 12, 3) := by decide +kernel
theorem dX3_house_78 : decode cX3_house 78 = .ok (.iload_n 1, 1) := by decide +kernel
theorem dX3_house_79 : decode cX3_house 79 = .ok (.invokevirtual 78, 3) := by decide +kernel
theorem dX3_house_82 : decode cX3_house 82 = .ok (.ireturn, 1) := by decide +kernel
theorem dX3_house_83 : decode cX3_house 83 = .ok (.aload_n 0, 1) := by decide +kernel
theorem dX3_house_84 : decode cX3_house 84 = .ok (.ldc 52, 2) := by decide +kernel
theorem dX3_house_86 : decode cX3_house 86 = .ok (.invokevirtual 53, 3) := by decide +kernel
theorem dX3_house_89 : decode cX3_house 89 = .ok (.ireturn, 1) := by decide +kernel
set_option maxRecDepth 20000 in
theorem ggX3_now_X2_minuteOfDay : GoodIn wsX3_now wsX2_minuteOfDay := goodIn_r _ [11, 12, 62, 63, 64, 65, 66, 67, 68, 69, 70, 71, 72] (by decide +kernel) (by decide +kernel)
set_option maxRecDepth 20000 in
theorem gX3_now_X2_minuteOfDay : GoodIn wsX3_now (wsV RX3 84 RX2 yX2_minuteOfDay wsX2_minuteOfDay) := goodIn_app (goodIn_of _ (by decide +kernel)) ggX3_now_X2_minuteOfDay
set_option maxRecDepth 20000 in
theorem ggX3_now_X2_edge : GoodIn wsX3_now wsX2_edge := goodIn_r _ [16, 17, 18, 19, 20, 8, 9, 10, 11, 12, 62, 63, 64, 65, 66, 67, 68, 69, 70, 71, 72] (by decide +kernel) (by decide +kernel)
set_option maxRecDepth 20000 in
theorem gX3_now_X2_edge : GoodIn wsX3_now (wsV RX3 70 RX2 yX2_edge wsX2_edge) := goodIn_app (goodIn_of _ (by decide +kernel)) ggX3_now_X2_edge
set_option maxRecDepth 20000 in
theorem ggX3_now_X2_loudness : GoodIn wsX3_now wsX2_loudness := goodIn_r _ [24, 25, 26, 27, 14, 15, 10, 16, 17, 18, 19, 20, 8, 9, 11, 12, 28, 29, 30, 31, 32, 33, 34, 35, 36, 37, 38, 39, 40, 41, 62, 63, 64, 65, 66, 67, 68, 69, 70, 71, 72] (by decide +kernel) (by decide +kernel)
set_option maxRecDepth 20000 in
theorem gX3_now_X2_loudness : GoodIn wsX3_now (wsV RX3 87 RX2 yX2_loudness wsX2_loudness) := goodIn_app (goodIn_of _ (by decide +kernel)) ggX3_now_X2_loudness
set_option maxRecDepth 20000 in
theorem ggX3_now_X2_whoIsIn : GoodIn wsX3_now wsX2_whoIsIn := goodIn_r _ [45, 26, 37, 27, 14, 15, 10, 16, 17, 18, 19, 20, 8, 9, 11, 12, 28, 29, 30, 31, 62, 63, 64, 65, 66, 67, 68, 69, 70, 71, 72] (by decide +kernel) (by decide +kernel)
set_option maxRecDepth 20000 in
theorem gX3_now_X2_whoIsIn : GoodIn wsX3_now (wsV RX3 90 RX2 yX2_whoIsIn wsX2_whoIsIn) := goodIn_app (goodIn_of _ (by decide +kernel)) ggX3_now_X2_whoIsIn
set_option maxRecDepth 20000 in
theorem ggX3_now_X3_found : GoodIn wsX3_now wsX3_found := goodIn_r _ [50, 6, 51, 52, 53, 49, 54, 55, 56, 57, 58, 59, 60, 61] (by decide +kernel) (by decide +kernel)
set_option maxRecDepth 20000 in
theorem gX3_now_X3_found : GoodIn wsX3_now (wsV RX3 53 RX3 yX3_found wsX3_found) := goodIn_app (goodIn_of _ (by decide +kernel)) ggX3_now_X3_found
theorem dX3_now_0 : decode cX3_now 0 = .ok (.iload_n 1, 1) := by decide +kernel
theorem dX3_now_1 : decode cX3_now 1 = .ok (.tableswitch 128 0 7 #[47, 55, 63, 88, 96, 104, 112, 120], 47) := by decide +kernel
theorem dX3_now_48 : decode cX3_now 48 = .ok (.aload_n 0, 1) := by decide +kernel
theorem dX3_now_49 : decode cX3_now 49 = .ok (.getfield 12, 3) := by decide +kernel
theorem dX3_now_52 : decode cX3_now 52 = .ok (.getfield 81, 3) := by decide +kernel
theorem dX3_now_55 : decode cX3_now 55 = .ok (.ireturn, 1) := by decide +kernel
theorem dX3_now_56 : decode cX3_now 56 = .ok (.aload_n 0, 1) := by decide +kernel
theorem dX3_now_57 : decode cX3_now 57 = .ok (.getfield 12, 3) := by decide +kernel
theorem dX3_now_60 : decode cX3_now 60 = .ok (.invokevirtual 84, 3) := by decide +kernel
theorem dX3_now_63 : decode cX3_now 63 = .ok (.ireturn, 1) := by decide +kernel
theorem dX3_now_64 : decode cX3_now 64 = .ok (.aload_n 0, 1) := by decide +kernel
theorem dX3_now_65 : decode cX3_now 65 = .ok (.getfield 12, 3) := by decide +kernel
theorem dX3_now_68 : decode cX3_now 68 = .ok (.invokevirtual 70, 3) := by decide +kernel
theorem dX3_now_71 : decode cX3_now 71 = .ok (.iconst (-1), 1) := by decide +kernel
theorem dX3_now_72 : decode cX3_now 72 = .ok (.if_icmp .ne 7, 3) := by decide +kernel
theorem dX3_now_75 : decode cX3_now 75 = .ok (.iconst 0, 1) := by decide +kernel
theorem dX3_now_76 : decode cX3_now 76 = .ok (.goto 12, 3) := by decide +kernel
theorem dX3_now_79 : decode cX3_now 79 = .ok (.iconst 1, 1) := by decide +kernel
theorem dX3_now_80 : decode cX3_now 80 = .ok (.aload_n 0, 1) := by decide +kernel
theorem dX3_now_81 : decode cX3_now 81 = .ok (.getfield 12, 3) := by decide +kernel
theorem dX3_now_84 : decode cX3_now 84 = .ok (.invokevirtual 70, 3) := by decide +kernel
theorem dX3_now_87 : decode cX3_now 87 = .ok (.iadd, 1) := by decide +kernel
theorem dX3_now_88 : decode cX3_now 88 = .ok (.ireturn, 1) := by decide +kernel
theorem dX3_now_89 : decode cX3_now 89 = .ok (.aload_n 0, 1) := by decide +kernel
theorem dX3_now_90 : decode cX3_now 90 = .ok (.getfield 12, 3) := by decide +kernel
theorem dX3_now_93 : decode cX3_now 93 = .ok (.invokevirtual 87, 3) := by decide +kernel
theorem dX3_now_96 : decode cX3_now 96 = .ok (.ireturn, 1) := by decide +kernel
theorem dX3_now_97 : decode cX3_now 97 = .ok (.aload_n 0, 1) := by decide +kernel
theorem dX3_now_98 : decode cX3_now 98 = .ok (.getfield 12, 3) := by decide +kernel
theorem dX3_now_101 : decode cX3_now 101 = .ok (.invokevirtual 90, 3) := by decide +kernel
theorem dX3_now_104 : decode cX3_now 104 = .ok (.ireturn, 1) := by decide +kernel
theorem dX3_now_105 : decode cX3_now 105 = .ok (.aload_n 0, 1) := by decide +kernel
theorem dX3_now_106 : decode cX3_now 106 = .ok (.getfield 12, 3) := by decide +kernel
theorem dX3_now_109 : decode cX3_now 109 = .ok (.getfield 60, 3) := by decide +kernel
theorem dX3_now_112 : decode cX3_now 112 = .ok (.ireturn, 1) := by decide +kernel
theorem dX3_now_113 : decode cX3_now 113 = .ok (.aload_n 0, 1) := by decide +kernel
theorem dX3_now_114 : decode cX3_now 114 = .ok (.getfield 12, 3) := by decide +kernel
theorem dX3_now_117 : decode cX3_now 117 = .ok (.getfield 64, 3) := by decide +kernel
theorem dX3_now_120 : decode cX3_now 120 = .ok (.ireturn, 1) := by decide +kernel
theorem dX3_now_121 : decode cX3_now 121 = .ok (.aload_n 0, 1) := by decide +kernel
theorem dX3_now_122 : decode cX3_now 122 = .ok (.getfield 12, 3) := by decide +kernel
theorem dX3_now_125 : decode cX3_now 125 = .ok (.getfield 67, 3) := by decide +kernel
theorem dX3_now_128 : decode cX3_now 128 = .ok (.ireturn, 1) := by decide +kernel
theorem dX3_now_129 : decode cX3_now 129 = .ok (.aload_n 0, 1) := by decide +kernel
theorem dX3_now_130 : decode cX3_now 130 = .ok (.ldc 52, 2) := by decide +kernel
theorem dX3_now_132 : decode cX3_now 132 = .ok (.invokevirtual 53, 3) := by decide +kernel
theorem dX3_now_135 : decode cX3_now 135 = .ok (.ireturn, 1) := by decide +kernel
set_option maxRecDepth 20000 in
theorem ggX3_person_X3_isKind : GoodIn wsX3_person wsX3_isKind := goodIn_r _ [8, 9, 10, 7, 11] (by decide +kernel) (by decide +kernel)
set_option maxRecDepth 20000 in
theorem gX3_person_X3_isKind : GoodIn wsX3_person (va_wsS RX3 93 yX3_isKind wsX3_isKind) := goodIn_app (goodIn_of _ (by decide +kernel)) ggX3_person_X3_isKind
set_option maxRecDepth 20000 in
theorem ggX3_person_X3_isHouse : GoodIn wsX3_person wsX3_isHouse := goodIn_r _ [14, 9, 10, 7, 11] (by decide +kernel) (by decide +kernel)
set_option maxRecDepth 20000 in
theorem gX3_person_X3_isHouse : GoodIn wsX3_person (va_wsS RX3 44 yX3_isHouse wsX3_isHouse) := goodIn_app (goodIn_of _ (by decide +kernel)) ggX3_person_X3_isHouse
set_option maxRecDepth 20000 in
theorem ggX3_person_X3_found : GoodIn wsX3_person wsX3_found := goodIn_r _ [18, 1, 19, 9, 10, 7, 11, 31, 32, 33, 34, 35, 36, 37] (by decide +kernel) (by decide +kernel)
set_option maxRecDepth 20000 in
theorem gX3_person_X3_found : GoodIn wsX3_person (wsV RX3 53 RX3 yX3_found wsX3_found) := goodIn_app (goodIn_of _ (by decide +kernel)) ggX3_person_X3_found
set_option maxRecDepth 20000 in
theorem ggX3_person_X2_add : GoodIn wsX3_person wsX2_add := goodIn_r _ [24, 25, 26, 27, 28, 29, 30, 38, 39, 40, 41, 42, 43, 44, 45, 46, 47, 48] (by decide +kernel) (by decide +kernel)
set_option maxRecDepth 20000 in
theorem gX3_person_X2_add : GoodIn wsX3_person (wsV RX3 100 RX2 yX2_add wsX2_add) := goodIn_app (goodIn_of _ (by decide +kernel)) ggX3_person_X2_add
theorem dX3_person_0 : decode cX3_person 0 = .ok (.iload_n 1, 1) := by decide +kernel
