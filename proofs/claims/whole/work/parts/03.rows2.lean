theorem dX3_person_1 : decode cX3_person 1 = .ok (.invokestatic 93, 3) := by decide +kernel
theorem dX3_person_4 : decode cX3_person 4 = .ok (.ifCond .eq 10, 3) := by decide +kernel
theorem dX3_person_7 : decode cX3_person 7 = .ok (.iload_n 2, 1) := by decide +kernel
theorem dX3_person_8 : decode cX3_person 8 = .ok (.invokestatic 44, 3) := by decide +kernel
theorem dX3_person_11 : decode cX3_person 11 = .ok (.ifCond .ne 10, 3) := by decide +kernel
theorem dX3_person_14 : decode cX3_person 14 = .ok (.aload_n 0, 1) := by decide +kernel
theorem dX3_person_15 : decode cX3_person 15 = .ok (.ldc 52, 2) := by decide +kernel
theorem dX3_person_17 : decode cX3_person 17 = .ok (.invokevirtual 53, 3) := by decide +kernel
theorem dX3_person_20 : decode cX3_person 20 = .ok (.ireturn, 1) := by decide +kernel
theorem dX3_person_21 : decode cX3_person 21 = .ok (.aload_n 0, 1) := by decide +kernel
theorem dX3_person_22 : decode cX3_person 22 = .ok (.getfield 12, 3) := by decide +kernel
theorem dX3_person_25 : decode cX3_person 25 = .ok (.getfield 96, 3) := by decide +kernel
theorem dX3_person_28 : decode cX3_person 28 = .ok (.bipush 8, 2) := by decide +kernel
theorem dX3_person_30 : decode cX3_person 30 = .ok (.if_icmp .lt 10, 3) := by decide +kernel
theorem dX3_person_33 : decode cX3_person 33 = .ok (.aload_n 0, 1) := by decide +kernel
theorem dX3_person_34 : decode cX3_person 34 = .ok (.ldc 99, 2) := by decide +kernel
theorem dX3_person_36 : decode cX3_person 36 = .ok (.invokevirtual 53, 3) := by decide +kernel
theorem dX3_person_39 : decode cX3_person 39 = .ok (.ireturn, 1) := by decide +kernel
theorem dX3_person_40 : decode cX3_person 40 = .ok (.aload_n 0, 1) := by decide +kernel
theorem dX3_person_41 : decode cX3_person 41 = .ok (.getfield 12, 3) := by decide +kernel
theorem dX3_person_44 : decode cX3_person 44 = .ok (.iload_n 1, 1) := by decide +kernel
theorem dX3_person_45 : decode cX3_person 45 = .ok (.iload_n 2, 1) := by decide +kernel
theorem dX3_person_46 : decode cX3_person 46 = .ok (.invokevirtual 100, 3) := by decide +kernel
theorem dX3_person_49 : decode cX3_person 49 = .ok (.aload_n 0, 1) := by decide +kernel
theorem dX3_person_50 : decode cX3_person 50 = .ok (.getfield 12, 3) := by decide +kernel
theorem dX3_person_53 : decode cX3_person 53 = .ok (.getfield 96, 3) := by decide +kernel
theorem dX3_person_56 : decode cX3_person 56 = .ok (.iconst 1, 1) := by decide +kernel
theorem dX3_person_57 : decode cX3_person 57 = .ok (.isub, 1) := by decide +kernel
theorem dX3_person_58 : decode cX3_person 58 = .ok (.ireturn, 1) := by decide +kernel
set_option maxRecDepth 20000 in
theorem ggX3_of_X3_isPerson : GoodIn wsX3_of wsX3_isPerson := goodIn_r _ [12, 2, 13, 14, 15, 11, 16, 75, 76, 77, 78, 79, 80, 81, 82, 83, 84, 85, 86, 87, 88, 89, 90, 91, 92] (by decide +kernel) (by decide +kernel)
set_option maxRecDepth 20000 in
theorem gX3_of_X3_isPerson : GoodIn wsX3_of (wsV RX3 104 RX3 yX3_isPerson wsX3_isPerson) := goodIn_app (goodIn_of _ (by decide +kernel)) ggX3_of_X3_isPerson
set_option maxRecDepth 20000 in
theorem ggX3_of_X3_found : GoodIn wsX3_of wsX3_found := goodIn_r _ [20, 1, 21, 14, 15, 11, 16, 75, 76, 77, 78, 79, 80, 81] (by decide +kernel) (by decide +kernel)
set_option maxRecDepth 20000 in
theorem gX3_of_X3_found : GoodIn wsX3_of (wsV RX3 53 RX3 yX3_found wsX3_found) := goodIn_app (goodIn_of _ (by decide +kernel)) ggX3_of_X3_found
set_option maxRecDepth 20000 in
theorem ggX3_of_X2_edge : GoodIn wsX3_of wsX2_edge := goodIn_r _ [26, 27, 28, 29, 30, 31, 32, 25, 33, 34, 82, 83, 84, 85, 86, 87, 88, 89, 90, 91, 92] (by decide +kernel) (by decide +kernel)
set_option maxRecDepth 20000 in
theorem gX3_of_X2_edge : GoodIn wsX3_of (wsV RX3 70 RX2 yX2_edge wsX2_edge) := goodIn_app (goodIn_of _ (by decide +kernel)) ggX3_of_X2_edge
set_option maxRecDepth 20000 in
theorem ggX3_of_X2_goes : GoodIn wsX3_of wsX2_goes := goodIn_r _ [38, 39, 40, 41, 42, 43, 25, 44, 28, 45, 46, 47, 48, 29, 49, 50, 51, 52, 15, 11, 16, 53, 54, 55, 56, 57, 58, 59, 60, 61, 62, 63, 64, 65, 30, 31, 32, 33, 34, 82, 83, 84, 85, 86, 87, 88, 89, 90, 91, 92] (by decide +kernel) (by decide +kernel)
set_option maxRecDepth 20000 in
theorem gX3_of_X2_goes : GoodIn wsX3_of (wsV RX3 119 RX2 yX2_goes wsX2_goes) := goodIn_app (goodIn_of _ (by decide +kernel)) ggX3_of_X2_goes
set_option maxRecDepth 20000 in
theorem ggX3_of_X2_talks : GoodIn wsX3_of wsX2_talks := goodIn_r _ [69, 39, 40, 62, 63, 64, 25, 65, 30, 31, 32, 33, 34, 45, 46, 47, 48, 29, 82, 83, 84, 85, 86, 87, 88, 89, 90, 91, 92] (by decide +kernel) (by decide +kernel)
set_option maxRecDepth 20000 in
theorem gX3_of_X2_talks : GoodIn wsX3_of (wsV RX3 123 RX2 yX2_talks wsX2_talks) := goodIn_app (goodIn_of _ (by decide +kernel)) ggX3_of_X2_talks
set_option maxRecDepth 20000 in
theorem ggX3_of_X2_stepsOver : GoodIn wsX3_of wsX2_stepsOver := goodIn_r _ [73, 39, 74, 82, 83, 84, 85, 86, 87, 88, 89, 90, 91, 92] (by decide +kernel) (by decide +kernel)
set_option maxRecDepth 20000 in
theorem gX3_of_X2_stepsOver : GoodIn wsX3_of (wsV RX3 126 RX2 yX2_stepsOver wsX2_stepsOver) := goodIn_app (goodIn_of _ (by decide +kernel)) ggX3_of_X2_stepsOver
theorem dX3_of_0 : decode cX3_of 0 = .ok (.aload_n 0, 1) := by decide +kernel
theorem dX3_of_1 : decode cX3_of 1 = .ok (.iload_n 1, 1) := by decide +kernel
theorem dX3_of_2 : decode cX3_of 2 = .ok (.invokevirtual 104, 3) := by decide +kernel
theorem dX3_of_5 : decode cX3_of 5 = .ok (.ifCond .ne 10, 3) := by decide +kernel
theorem dX3_of_8 : decode cX3_of 8 = .ok (.aload_n 0, 1) := by decide +kernel
theorem dX3_of_9 : decode cX3_of 9 = .ok (.ldc 52, 2) := by decide +kernel
theorem dX3_of_11 : decode cX3_of 11 = .ok (.invokevirtual 53, 3) := by decide +kernel
theorem dX3_of_14 : decode cX3_of 14 = .ok (.ireturn, 1) := by decide +kernel
theorem dX3_of_15 : decode cX3_of 15 = .ok (.iload_n 2, 1) := by decide +kernel
theorem dX3_of_16 : decode cX3_of 16 = .ok (.tableswitch 152 0 7 #[48, 58, 68, 78, 88, 107, 123, 140], 48) := by decide +kernel
theorem dX3_of_64 : decode cX3_of 64 = .ok (.aload_n 0, 1) := by decide +kernel
theorem dX3_of_65 : decode cX3_of 65 = .ok (.getfield 12, 3) := by decide +kernel
theorem dX3_of_68 : decode cX3_of 68 = .ok (.getfield 107, 3) := by decide +kernel
theorem dX3_of_71 : decode cX3_of 71 = .ok (.iload_n 1, 1) := by decide +kernel
theorem dX3_of_72 : decode cX3_of 72 = .ok (.iaload, 1) := by decide +kernel
theorem dX3_of_73 : decode cX3_of 73 = .ok (.ireturn, 1) := by decide +kernel
theorem dX3_of_74 : decode cX3_of 74 = .ok (.aload_n 0, 1) := by decide +kernel
theorem dX3_of_75 : decode cX3_of 75 = .ok (.getfield 12, 3) := by decide +kernel
theorem dX3_of_78 : decode cX3_of 78 = .ok (.getfield 110, 3) := by decide +kernel
theorem dX3_of_81 : decode cX3_of 81 = .ok (.iload_n 1, 1) := by decide +kernel
theorem dX3_of_82 : decode cX3_of 82 = .ok (.iaload, 1) := by decide +kernel
theorem dX3_of_83 : decode cX3_of 83 = .ok (.ireturn, 1) := by decide +kernel
theorem dX3_of_84 : decode cX3_of 84 = .ok (.aload_n 0, 1) := by decide +kernel
theorem dX3_of_85 : decode cX3_of 85 = .ok (.getfield 12, 3) := by decide +kernel
theorem dX3_of_88 : decode cX3_of 88 = .ok (.getfield 113, 3) := by decide +kernel
theorem dX3_of_91 : decode cX3_of 91 = .ok (.iload_n 1, 1) := by decide +kernel
theorem dX3_of_92 : decode cX3_of 92 = .ok (.iaload, 1) := by decide +kernel
theorem dX3_of_93 : decode cX3_of 93 = .ok (.ireturn, 1) := by decide +kernel
theorem dX3_of_94 : decode cX3_of 94 = .ok (.aload_n 0, 1) := by decide +kernel
theorem dX3_of_95 : decode cX3_of 95 = .ok (.getfield 12, 3) := by decide +kernel
theorem dX3_of_98 : decode cX3_of 98 = .ok (.getfield 116, 3) := by decide +kernel
theorem dX3_of_101 : decode cX3_of 101 = .ok (.iload_n 1, 1) := by decide +kernel
theorem dX3_of_102 : decode cX3_of 102 = .ok (.iaload, 1) := by decide +kernel
theorem dX3_of_103 : decode cX3_of 103 = .ok (.ireturn, 1) := by decide +kernel
theorem dX3_of_104 : decode cX3_of 104 = .ok (.bipush 100, 2) := by decide +kernel
theorem dX3_of_106 : decode cX3_of 106 = .ok (.aload_n 0, 1) := by decide +kernel
theorem dX3_of_107 : decode cX3_of 107 = .ok (.getfield 12, 3) := by decide +kernel
theorem dX3_of_110 : decode cX3_of 110 = .ok (.iload_n 1, 1) := by decide +kernel
theorem dX3_of_111 : decode cX3_of 111 = .ok (.aload_n 0, 1) := by decide +kernel
theorem dX3_of_112 : decode cX3_of 112 = .ok (.getfield 12, 3) := by decide +kernel
theorem dX3_of_115 : decode cX3_of 115 = .ok (.invokevirtual 70, 3) := by decide +kernel
theorem dX3_of_118 : decode cX3_of 118 = .ok (.invokevirtual 119, 3) := by decide +kernel
theorem dX3_of_121 : decode cX3_of 121 = .ok (.iadd, 1) := by decide +kernel
theorem dX3_of_122 : decode cX3_of 122 = .ok (.ireturn, 1) := by decide +kernel
theorem dX3_of_123 : decode cX3_of 123 = .ok (.aload_n 0, 1) := by decide +kernel
theorem dX3_of_124 : decode cX3_of 124 = .ok (.getfield 12, 3) := by decide +kernel
theorem dX3_of_127 : decode cX3_of 127 = .ok (.iload_n 1, 1) := by decide +kernel
theorem dX3_of_128 : decode cX3_of 128 = .ok (.aload_n 0, 1) := by decide +kernel
theorem dX3_of_129 : decode cX3_of 129 = .ok (.getfield 12, 3) := by decide +kernel
theorem dX3_of_132 : decode cX3_of 132 = .ok (.invokevirtual 70, 3) := by decide +kernel
theorem dX3_of_135 : decode cX3_of 135 = .ok (.invokevirtual 123, 3) := by decide +kernel
theorem dX3_of_138 : decode cX3_of 138 = .ok (.ireturn, 1) := by decide +kernel
theorem dX3_of_139 : decode cX3_of 139 = .ok (.aload_n 0, 1) := by decide +kernel
theorem dX3_of_140 : decode cX3_of 140 = .ok (.getfield 12, 3) := by decide +kernel
theorem dX3_of_143 : decode cX3_of 143 = .ok (.iload_n 1, 1) := by decide +kernel
theorem dX3_of_144 : decode cX3_of 144 = .ok (.invokevirtual 126, 3) := by decide +kernel
theorem dX3_of_147 : decode cX3_of 147 = .ok (.ifCond .eq 7, 3) := by decide +kernel
theorem dX3_of_150 : decode cX3_of 150 = .ok (.iconst 1, 1) := by decide +kernel
theorem dX3_of_151 : decode cX3_of 151 = .ok (.goto 4, 3) := by decide +kernel
theorem dX3_of_154 : decode cX3_of 154 = .ok (.iconst 0, 1) := by decide +kernel
theorem dX3_of_155 : decode cX3_of 155 = .ok (.ireturn, 1) := by decide +kernel
theorem dX3_of_156 : decode cX3_of 156 = .ok (.aload_n 0, 1) := by decide +kernel
theorem dX3_of_157 : decode cX3_of 157 = .ok (.getfield 12, 3) := by decide +kernel
theorem dX3_of_160 : decode cX3_of 160 = .ok (.getfield 129, 3) := by decide +kernel
theorem dX3_of_163 : decode cX3_of 163 = .ok (.iload_n 1, 1) := by decide +kernel
theorem dX3_of_164 : decode cX3_of 164 = .ok (.ishr, 1) := by decide +kernel
theorem dX3_of_165 : decode cX3_of 165 = .ok (.iconst 1, 1) := by decide +kernel
theorem dX3_of_166 : decode cX3_of 166 = .ok (.iand, 1) := by decide +kernel
theorem dX3_of_167 : decode cX3_of 167 = .ok (.ireturn, 1) := by decide +kernel
theorem dX3_of_168 : decode cX3_of 168 = .ok (.aload_n 0, 1) := by decide +kernel
theorem dX3_of_169 : decode cX3_of 169 = .ok (.ldc 52, 2) := by decide +kernel
theorem dX3_of_171 : decode cX3_of 171 = .ok (.invokevirtual 53, 3) := by decide +kernel
theorem dX3_of_174 : decode cX3_of 174 = .ok (.ireturn, 1) := by decide +kernel
set_option maxRecDepth 20000 in
theorem ggX3_set_X3_isPerson : GoodIn wsX3_set wsX3_isPerson := goodIn_r _ [10, 2, 11, 12, 13, 9, 14, 26, 27, 28, 29, 30, 31, 32, 33, 34, 35, 36, 37, 38, 39, 40, 41, 42, 43] (by decide +kernel) (by decide +kernel)
set_option maxRecDepth 20000 in
theorem gX3_set_X3_isPerson : GoodIn wsX3_set (wsV RX3 104 RX3 yX3_isPerson wsX3_isPerson) := goodIn_app (goodIn_of _ (by decide +kernel)) ggX3_set_X3_isPerson
set_option maxRecDepth 20000 in
theorem ggX3_set_X3_found : GoodIn wsX3_set wsX3_found := goodIn_r _ [18, 1, 19, 12, 13, 9, 14, 26, 27, 28, 29, 30, 31, 32] (by decide +kernel) (by decide +kernel)
set_option maxRecDepth 20000 in
theorem gX3_set_X3_found : GoodIn wsX3_set (wsV RX3 53 RX3 yX3_found wsX3_found) := goodIn_app (goodIn_of _ (by decide +kernel)) ggX3_set_X3_found
set_option maxRecDepth 20000 in
theorem ggX3_set_X3_isHouse : GoodIn wsX3_set wsX3_isHouse := goodIn_r _ [22, 12, 13, 9, 14] (by decide +kernel) (by decide +kernel)
set_option maxRecDepth 20000 in
theorem gX3_set_X3_isHouse : GoodIn wsX3_set (va_wsS RX3 44 yX3_isHouse wsX3_isHouse) := goodIn_app (goodIn_of _ (by decide +kernel)) ggX3_set_X3_isHouse
set_option maxRecDepth 20000 in
theorem ggX3_set_X3_replace : GoodIn wsX3_set wsX3_replace := goodIn_r _ [25] (by decide +kernel) (by decide +kernel)
set_option maxRecDepth 20000 in
theorem gX3_set_X3_replace : GoodIn wsX3_set (va_wsS RX3 132 yX3_replace wsX3_replace) := goodIn_app (goodIn_of _ (by decide +kernel)) ggX3_set_X3_replace
set_option maxRecDepth 20000 in
theorem ggX3_set_X3_isWithin : GoodIn wsX3_set wsX3_isWithin := goodIn_r _ [14] (by decide +kernel) (by decide +kernel)
set_option maxRecDepth 20000 in
theorem gX3_set_X3_isWithin : GoodIn wsX3_set (va_wsS RX3 48 yX3_isWithin wsX3_isWithin) := goodIn_app (goodIn_of _ (by decide +kernel)) ggX3_set_X3_isWithin
theorem dX3_set_0 : decode cX3_set 0 = .ok (.aload_n 0, 1) := by decide +kernel
theorem dX3_set_1 : decode cX3_set 1 = .ok (.iload_n 1, 1) := by decide +kernel
theorem dX3_set_2 : decode cX3_set 2 = .ok (.invokevirtual 104, 3) := by decide +kernel
theorem dX3_set_5 : decode cX3_set 5 = .ok (.ifCond .ne 10, 3) := by decide +kernel
theorem dX3_set_8 : decode cX3_set 8 = .ok (.aload_n 0, 1) := by decide +kernel
theorem dX3_set_9 : decode cX3_set 9 = .ok (.ldc 52, 2) := by decide +kernel
theorem dX3_set_11 : decode cX3_set 11 = .ok (.invokevirtual 53, 3) := by decide +kernel
theorem dX3_set_14 : decode cX3_set 14 = .ok (.ireturn, 1) := by decide +kernel
theorem dX3_set_15 : decode cX3_set 15 = .ok (.iload_n 2, 1) := by decide +kernel
theorem dX3_set_16 : decode cX3_set 16 = .ok (.iconst 1, 1) := by decide +kernel
theorem dX3_set_17 : decode cX3_set 17 = .ok (.if_icmp .ne 23, 3) := by decide +kernel
theorem dX3_set_20 : decode cX3_set 20 = .ok (.iload_n 3, 1) := by decide +kernel
theorem dX3_set_21 : decode cX3_set 21 = .ok (.invokestatic 44, 3) := by decide +kernel
theorem dX3_set_24 : decode cX3_set 24 = .ok (.ifCond .eq 16, 3) := by decide +kernel
theorem dX3_set_27 : decode cX3_set 27 = .ok (.aload_n 0, 1) := by decide +kernel
theorem dX3_set_28 : decode cX3_set 28 = .ok (.getfield 12, 3) := by decide +kernel
theorem dX3_set_31 : decode cX3_set 31 = .ok (.getfield 110, 3) := by decide +kernel
theorem dX3_set_34 : decode cX3_set 34 = .ok (.iload_n 1, 1) := by decide +kernel
theorem dX3_set_35 : decode cX3_set 35 = .ok (.iload_n 3, 1) := by decide +kernel
theorem dX3_set_36 : decode cX3_set 36 = .ok (.invokestatic 132, 3) := by decide +kernel
theorem dX3_set_39 : decode cX3_set 39 = .ok (.ireturn, 1) := by decide +kernel
theorem dX3_set_40 : decode cX3_set 40 = .ok (.iload_n 2, 1) := by decide +kernel
theorem dX3_set_41 : decode cX3_set 41 = .ok (.iconst 2, 1) := by decide +kernel
theorem dX3_set_42 : decode cX3_set 42 = .ok (.if_icmp .ne 27, 3) := by decide +kernel
theorem dX3_set_45 : decode cX3_set 45 = .ok (.iload_n 3, 1) := by decide +kernel
theorem dX3_set_46 : decode cX3_set 46 = .ok (.iconst 0, 1) := by decide +kernel
theorem dX3_set_47 : decode cX3_set 47 = .ok (.sipush 9999, 3) := by decide +kernel
theorem dX3_set_50 : decode cX3_set 50 = .ok (.invokestatic 48, 3) := by decide +kernel
theorem dX3_set_53 : decode cX3_set 53 = .ok (.ifCond .eq 16, 3) := by decide +kernel
theorem dX3_set_56 : decode cX3_set 56 = .ok (.aload_n 0, 1) := by decide +kernel
theorem dX3_set_57 : decode cX3_set 57 = .ok (.getfield 12, 3) := by decide +kernel
theorem dX3_set_60 : decode cX3_set 60 = .ok (.getfield 113, 3) := by decide +kernel
theorem dX3_set_63 : decode cX3_set 63 = .ok (.iload_n 1, 1) := by decide +kernel
theorem dX3_set_64 : decode cX3_set 64 = .ok (.iload_n 3, 1) := by decide +kernel
theorem dX3_set_65 : decode cX3_set 65 = .ok (.invokestatic 132, 3) := by decide +kernel
theorem dX3_set_68 : decode cX3_set 68 = .ok (.ireturn, 1) := by decide +kernel
theorem dX3_set_69 : decode cX3_set 69 = .ok (.iload_n 2, 1) := by decide +kernel
theorem dX3_set_70 : decode cX3_set 70 = .ok (.iconst 3, 1) := by decide +kernel
theorem dX3_set_71 : decode cX3_set 71 = .ok (.if_icmp .ne 27, 3) := by decide +kernel
theorem dX3_set_74 : decode cX3_set 74 = .ok (.iload_n 3, 1) := by decide +kernel
theorem dX3_set_75 : decode cX3_set 75 = .ok (.iconst 0, 1) := by decide +kernel
theorem dX3_set_76 : decode cX3_set 76 = .ok (.sipush 9999, 3) := by decide +kernel
theorem dX3_set_79 : decode cX3_set 79 = .ok (.invokestatic 48, 3) := by decide +kernel
theorem dX3_set_82 : decode cX3_set 82 = .ok (.ifCond .eq 16, 3) := by decide +kernel
theorem dX3_set_85 : decode cX3_set 85 = .ok (.aload_n 0, 1) := by decide +kernel
theorem dX3_set_86 : decode cX3_set 86 = .ok (.getfield 12, 3) := by decide +kernel
theorem dX3_set_89 : decode cX3_set 89 = .ok (.getfield 116, 3) := by decide +kernel
theorem dX3_set_92 : decode cX3_set 92 = .ok (.iload_n 1, 1) := by decide +kernel
theorem dX3_set_93 : decode cX3_set 93 = .ok (.iload_n 3, 1) := by decide +kernel
theorem dX3_set_94 : decode cX3_set 94 = .ok (.invokestatic 132, 3) := by decide +kernel
theorem dX3_set_97 : decode cX3_set 97 = .ok (.ireturn, 1) := by decide +kernel
theorem dX3_set_98 : decode cX3_set 98 = .ok (.aload_n 0, 1) := by decide +kernel
theorem dX3_set_99 : decode cX3_set 99 = .ok (.ldc 52, 2) := by decide +kernel
theorem dX3_set_101 : decode cX3_set 101 = .ok (.invokevirtual 53, 3) := by decide +kernel
theorem dX3_set_104 : decode cX3_set 104 = .ok (.ireturn, 1) := by decide +kernel
set_option maxRecDepth 20000 in
theorem ggX3_turn_X3_isPerson : GoodIn wsX3_turn wsX3_isPerson := goodIn_r _ [8, 2, 9, 10, 11, 7, 12, 24, 25, 26, 27, 28, 29, 30, 31, 32, 33, 34, 35, 36, 37, 38, 39, 40, 41] (by decide +kernel) (by decide +kernel)
set_option maxRecDepth 20000 in
theorem gX3_turn_X3_isPerson : GoodIn wsX3_turn (wsV RX3 104 RX3 yX3_isPerson wsX3_isPerson) := goodIn_app (goodIn_of _ (by decide +kernel)) ggX3_turn_X3_isPerson
set_option maxRecDepth 20000 in
theorem ggX3_turn_X3_isKind : GoodIn wsX3_turn wsX3_isKind := goodIn_r _ [15, 10, 11, 7, 12] (by decide +kernel) (by decide +kernel)
set_option maxRecDepth 20000 in
theorem gX3_turn_X3_isKind : GoodIn wsX3_turn (va_wsS RX3 93 yX3_isKind wsX3_isKind) := goodIn_app (goodIn_of _ (by decide +kernel)) ggX3_turn_X3_isKind
set_option maxRecDepth 20000 in
theorem ggX3_turn_X3_found : GoodIn wsX3_turn wsX3_found := goodIn_r _ [19, 1, 20, 10, 11, 7, 12, 24, 25, 26, 27, 28, 29, 30] (by decide +kernel) (by decide +kernel)
set_option maxRecDepth 20000 in
theorem gX3_turn_X3_found : GoodIn wsX3_turn (wsV RX3 53 RX3 yX3_found wsX3_found) := goodIn_app (goodIn_of _ (by decide +kernel)) ggX3_turn_X3_found
set_option maxRecDepth 20000 in
theorem ggX3_turn_X3_replace : GoodIn wsX3_turn wsX3_replace := goodIn_r _ [23] (by decide +kernel) (by decide +kernel)
set_option maxRecDepth 20000 in
theorem gX3_turn_X3_replace : GoodIn wsX3_turn (va_wsS RX3 132 yX3_replace wsX3_replace) := goodIn_app (goodIn_of _ (by decide +kernel)) ggX3_turn_X3_replace
theorem dX3_turn_0 : decode cX3_turn 0 = .ok (.aload_n 0, 1) := by decide +kernel
theorem dX3_turn_1 : decode cX3_turn 1 = .ok (.iload_n 1, 1) := by decide +kernel
theorem dX3_turn_2 : decode cX3_turn 2 = .ok (.invokevirtual 104, 3) := by decide +kernel
theorem dX3_turn_5 : decode cX3_turn 5 = .ok (.ifCond .eq 10, 3) := by decide +kernel
theorem dX3_turn_8 : decode cX3_turn 8 = .ok (.iload_n 2, 1) := by decide +kernel
theorem dX3_turn_9 : decode cX3_turn 9 = .ok (.invokestatic 93, 3) := by decide +kernel
theorem dX3_turn_12 : decode cX3_turn 12 = .ok (.ifCond .ne 10, 3) := by decide +kernel
theorem dX3_turn_15 : decode cX3_turn 15 = .ok (.aload_n 0, 1) := by decide +kernel
theorem dX3_turn_16 : decode cX3_turn 16 = .ok (.ldc 52, 2) := by decide +kernel
theorem dX3_turn_18 : decode cX3_turn 18 = .ok (.invokevirtual 53, 3) := by decide +kernel
theorem dX3_turn_21 : decode cX3_turn 21 = .ok (.ireturn, 1) := by decide +kernel
theorem dX3_turn_22 : decode cX3_turn 22 = .ok (.aload_n 0, 1) := by decide +kernel
theorem dX3_turn_23 : decode cX3_turn 23 = .ok (.getfield 12, 3) := by decide +kernel
theorem dX3_turn_26 : decode cX3_turn 26 = .ok (.getfield 107, 3) := by decide +kernel
theorem dX3_turn_29 : decode cX3_turn 29 = .ok (.iload_n 1, 1) := by decide +kernel
theorem dX3_turn_30 : decode cX3_turn 30 = .ok (.iload_n 2, 1) := by decide +kernel
theorem dX3_turn_31 : decode cX3_turn 31 = .ok (.invokestatic 132, 3) := by decide +kernel
theorem dX3_turn_34 : decode cX3_turn 34 = .ok (.ireturn, 1) := by decide +kernel
set_option maxRecDepth 20000 in
theorem ggX3_as_X3_isPerson : GoodIn wsX3_as wsX3_isPerson := goodIn_r _ [10, 2, 11, 12, 13, 9, 14, 26, 27, 28, 29, 30, 31, 32, 33, 34, 35, 36, 37, 38, 39, 40, 41, 42, 43] (by decide +kernel) (by decide +kernel)
set_option maxRecDepth 20000 in
theorem gX3_as_X3_isPerson : GoodIn wsX3_as (wsV RX3 104 RX3 yX3_isPerson wsX3_isPerson) := goodIn_app (goodIn_of _ (by decide +kernel)) ggX3_as_X3_isPerson
set_option maxRecDepth 20000 in
theorem ggX3_as_X3_isKind : GoodIn wsX3_as wsX3_isKind := goodIn_r _ [17, 12, 13, 9, 14] (by decide +kernel) (by decide +kernel)
set_option maxRecDepth 20000 in
theorem gX3_as_X3_isKind : GoodIn wsX3_as (va_wsS RX3 93 yX3_isKind wsX3_isKind) := goodIn_app (goodIn_of _ (by decide +kernel)) ggX3_as_X3_isKind
set_option maxRecDepth 20000 in
theorem ggX3_as_X3_found : GoodIn wsX3_as wsX3_found := goodIn_r _ [21, 1, 22, 12, 13, 9, 14, 26, 27, 28, 29, 30, 31, 32] (by decide +kernel) (by decide +kernel)
set_option maxRecDepth 20000 in
theorem gX3_as_X3_found : GoodIn wsX3_as (wsV RX3 53 RX3 yX3_found wsX3_found) := goodIn_app (goodIn_of _ (by decide +kernel)) ggX3_as_X3_found
set_option maxRecDepth 20000 in
theorem ggX3_as_X3_isOfKind : GoodIn wsX3_as wsX3_isOfKind := goodIn_r _ [25] (by decide +kernel) (by decide +kernel)
set_option maxRecDepth 20000 in
theorem gX3_as_X3_isOfKind : GoodIn wsX3_as (va_wsS RX3 136 yX3_isOfKind wsX3_isOfKind) := goodIn_app (goodIn_of _ (by decide +kernel)) ggX3_as_X3_isOfKind
theorem dX3_as_0 : decode cX3_as 0 = .ok (.aload_n 0, 1) := by decide +kernel
theorem dX3_as_1 : decode cX3_as 1 = .ok (.iload_n 1, 1) := by decide +kernel
theorem dX3_as_2 : decode cX3_as 2 = .ok (.invokevirtual 104, 3) := by decide +kernel
theorem dX3_as_5 : decode cX3_as 5 = .ok (.ifCond .eq 10, 3) := by decide +kernel
theorem dX3_as_8 : decode cX3_as 8 = .ok (.iload_n 2, 1) := by decide +kernel
theorem dX3_as_9 : decode cX3_as 9 = .ok (.invokestatic 93, 3) := by decide +kernel
theorem dX3_as_12 : decode cX3_as 12 = .ok (.ifCond .ne 10, 3) := by decide +kernel
theorem dX3_as_15 : decode cX3_as 15 = .ok (.aload_n 0, 1) := by decide +kernel
theorem dX3_as_16 : decode cX3_as 16 = .ok (.ldc 52, 2) := by decide +kernel
theorem dX3_as_18 : decode cX3_as 18 = .ok (.invokevirtual 53, 3) := by decide +kernel
theorem dX3_as_21 : decode cX3_as 21 = .ok (.ireturn, 1) := by decide +kernel
theorem dX3_as_22 : decode cX3_as 22 = .ok (.aload_n 0, 1) := by decide +kernel
theorem dX3_as_23 : decode cX3_as 23 = .ok (.getfield 12, 3) := by decide +kernel
theorem dX3_as_26 : decode cX3_as 26 = .ok (.getfield 107, 3) := by decide +kernel
theorem dX3_as_29 : decode cX3_as 29 = .ok (.iload_n 1, 1) := by decide +kernel
theorem dX3_as_30 : decode cX3_as 30 = .ok (.iaload, 1) := by decide +kernel
theorem dX3_as_31 : decode cX3_as 31 = .ok (.iload_n 2, 1) := by decide +kernel
theorem dX3_as_32 : decode cX3_as 32 = .ok (.invokestatic 136, 3) := by decide +kernel
theorem dX3_as_35 : decode cX3_as 35 = .ok (.ifCond .ne 10, 3) := by decide +kernel
theorem dX3_as_38 : decode cX3_as 38 = .ok (.aload_n 0, 1) := by decide +kernel
theorem dX3_as_39 : decode cX3_as 39 = .ok (.ldc 139, 2) := by decide +kernel
theorem dX3_as_41 : decode cX3_as 41 = .ok (.invokevirtual 53, 3) := by decide +kernel
theorem dX3_as_44 : decode cX3_as 44 = .ok (.ireturn, 1) := by decide +kernel
theorem dX3_as_45 : decode cX3_as 45 = .ok (.aload_n 0, 1) := by decide +kernel
theorem dX3_as_46 : decode cX3_as 46 = .ok (.getfield 12, 3) := by decide +kernel
theorem dX3_as_49 : decode cX3_as 49 = .ok (.getfield 113, 3) := by decide +kernel
theorem dX3_as_52 : decode cX3_as 52 = .ok (.iload_n 1, 1) := by decide +kernel
theorem dX3_as_53 : decode cX3_as 53 = .ok (.iaload, 1) := by decide +kernel
theorem dX3_as_54 : decode cX3_as 54 = .ok (.ireturn, 1) := by decide +kernel
set_option maxRecDepth 20000 in
theorem ggX3_minutes_X3_isWithin : GoodIn wsX3_minutes wsX3_isWithin := goodIn_r _ [9] (by decide +kernel) (by decide +kernel)
set_option maxRecDepth 20000 in
theorem gX3_minutes_X3_isWithin : GoodIn wsX3_minutes (va_wsS RX3 48 yX3_isWithin wsX3_isWithin) := goodIn_app (goodIn_of _ (by decide +kernel)) ggX3_minutes_X3_isWithin
set_option maxRecDepth 20000 in
theorem ggX3_minutes_X3_found : GoodIn wsX3_minutes wsX3_found := goodIn_r _ [13, 1, 14, 6, 7, 8, 9, 85, 86, 87, 88, 89, 90, 91] (by decide +kernel) (by decide +kernel)
set_option maxRecDepth 20000 in
theorem gX3_minutes_X3_found : GoodIn wsX3_minutes (wsV RX3 53 RX3 yX3_found wsX3_found) := goodIn_app (goodIn_of _ (by decide +kernel)) ggX3_minutes_X3_found
set_option maxRecDepth 20000 in
theorem ggX3_minutes_X2_goOn : GoodIn wsX3_minutes wsX2_goOn := goodIn_r _ [19, 20, 21, 22, 18, 23, 24, 25, 26, 27, 28, 29, 30, 31, 32, 33, 34, 35, 36, 37, 38, 39, 40, 41, 42, 43, 44, 45, 46, 47, 48, 49, 50, 51, 52, 53, 54, 55, 56, 57, 58, 59, 60, 61, 62, 63, 64, 65, 66, 67, 68, 69, 70, 71, 72, 73, 7, 8, 9, 74, 75, 76, 77, 78, 79, 80, 81, 82, 83, 92, 93, 94, 95, 96, 97, 98, 99, 100, 101, 102] (by decide +kernel) (by decide +kernel)
set_option maxRecDepth 20000 in
theorem gX3_minutes_X2_goOn : GoodIn wsX3_minutes (wsV RX3 142 RX2 yX2_goOn wsX2_goOn) := goodIn_app (goodIn_of _ (by decide +kernel)) ggX3_minutes_X2_goOn
set_option maxRecDepth 20000 in
theorem ggX3_minutes_X2_whoIsIn : GoodIn wsX3_minutes wsX2_whoIsIn := goodIn_r _ [42, 24, 25, 28, 29, 30, 18, 31, 32, 33, 34, 35, 36, 37, 38, 27, 43, 44, 45, 46, 92, 93, 94, 95, 96, 97, 98, 99, 100, 101, 102] (by decide +kernel) (by decide +kernel)
set_option maxRecDepth 20000 in
theorem gX3_minutes_X2_whoIsIn : GoodIn wsX3_minutes (wsV RX3 90 RX2 yX2_whoIsIn wsX2_whoIsIn) := goodIn_app (goodIn_of _ (by decide +kernel)) ggX3_minutes_X2_whoIsIn
theorem dX3_minutes_0 : decode cX3_minutes 0 = .ok (.iload_n 1, 1) := by decide +kernel
theorem dX3_minutes_1 : decode cX3_minutes 1 = .ok (.iconst 1, 1) := by decide +kernel
theorem dX3_minutes_2 : decode cX3_minutes 2 = .ok (.sipush 200, 3) := by decide +kernel
theorem dX3_minutes_5 : decode cX3_minutes 5 = .ok (.invokestatic 48, 3) := by decide +kernel
theorem dX3_minutes_8 : decode cX3_minutes 8 = .ok (.ifCond .ne 10, 3) := by decide +kernel
theorem dX3_minutes_11 : decode cX3_minutes 11 = .ok (.aload_n 0, 1) := by decide +kernel
theorem dX3_minutes_12 : decode cX3_minutes 12 = .ok (.ldc 52, 2) := by decide +kernel
theorem dX3_minutes_14 : decode cX3_minutes 14 = .ok (.invokevirtual 53, 3) := by decide +kernel
theorem dX3_minutes_17 : decode cX3_minutes 17 = .ok (.ireturn, 1) := by decide +kernel
theorem dX3_minutes_18 : decode cX3_minutes 18 = .ok (.aload_n 0, 1) := by decide +kernel
theorem dX3_minutes_19 : decode cX3_minutes 19 = .ok (.getfield 12, 3) := by decide +kernel
theorem dX3_minutes_22 : decode cX3_minutes 22 = .ok (.getfield 81, 3) := by decide +kernel
theorem dX3_minutes_25 : decode cX3_minutes 25 = .ok (.iload_n 1, 1) := by decide +kernel
theorem dX3_minutes_26 : decode cX3_minutes 26 = .ok (.iadd, 1) := by decide +kernel
theorem dX3_minutes_27 : decode cX3_minutes 27 = .ok (.ldc 140, 2) := by decide +kernel
theorem dX3_minutes_29 : decode cX3_minutes 29 = .ok (.if_icmp .le 10, 3) := by decide +kernel
theorem dX3_minutes_32 : decode cX3_minutes 32 = .ok (.aload_n 0, 1) := by decide +kernel
theorem dX3_minutes_33 : decode cX3_minutes 33 = .ok (.ldc 141, 2) := by decide +kernel
theorem dX3_minutes_35 : decode cX3_minutes 35 = .ok (.invokevirtual 53, 3) := by decide +kernel
theorem dX3_minutes_38 : decode cX3_minutes 38 = .ok (.ireturn, 1) := by decide +kernel
theorem dX3_minutes_39 : decode cX3_minutes 39 = .ok (.aload_n 0, 1) := by decide +kernel
theorem dX3_minutes_40 : decode cX3_minutes 40 = .ok (.getfield 12, 3) := by decide +kernel
theorem dX3_minutes_43 : decode cX3_minutes 43 = .ok (.iload_n 1, 1) := by decide +kernel
theorem dX3_minutes_44 : decode cX3_minutes 44 = .ok (.invokevirtual 142, 3) := by decide +kernel
theorem dX3_minutes_47 : decode cX3_minutes 47 = .ok (.aload_n 0, 1) := by decide +kernel
theorem dX3_minutes_48 : decode cX3_minutes 48 = .ok (.getfield 12, 3) := by decide +kernel
theorem dX3_minutes_51 : decode cX3_minutes 51 = .ok (.invokevirtual 90, 3) := by decide +kernel
theorem dX3_minutes_54 : decode cX3_minutes 54 = .ok (.ireturn, 1) := by decide +kernel
set_option maxRecDepth 20000 in
theorem ggX3_on_X3_isPerson : GoodIn wsX3_on wsX3_isPerson := goodIn_r _ [11, 3, 12, 13, 14, 10, 15, 103, 104, 105, 106, 107, 108, 109, 110, 111, 112, 113, 114, 115, 116, 117, 118, 119, 120] (by decide +kernel) (by decide +kernel)
set_option maxRecDepth 20000 in
theorem gX3_on_X3_isPerson : GoodIn wsX3_on (wsV RX3 104 RX3 yX3_isPerson wsX3_isPerson) := goodIn_app (goodIn_of _ (by decide +kernel)) ggX3_on_X3_isPerson
set_option maxRecDepth 20000 in
theorem ggX3_on_X3_isWithin : GoodIn wsX3_on wsX3_isWithin := goodIn_r _ [15] (by decide +kernel) (by decide +kernel)
set_option maxRecDepth 20000 in
theorem gX3_on_X3_isWithin : GoodIn wsX3_on (va_wsS RX3 48 yX3_isWithin wsX3_isWithin) := goodIn_app (goodIn_of _ (by decide +kernel)) ggX3_on_X3_isWithin
set_option maxRecDepth 20000 in
theorem ggX3_on_X3_found : GoodIn wsX3_on wsX3_found := goodIn_r _ [19, 1, 20, 13, 14, 10, 15, 103, 104, 105, 106, 107, 108, 109] (by decide +kernel) (by decide +kernel)
set_option maxRecDepth 20000 in
theorem gX3_on_X3_found : GoodIn wsX3_on (wsV RX3 53 RX3 yX3_found wsX3_found) := goodIn_app (goodIn_of _ (by decide +kernel)) ggX3_on_X3_found
set_option maxRecDepth 20000 in
theorem ggX3_on_X2_becomeWithOne : GoodIn wsX3_on wsX2_becomeWithOne := goodIn_r _ [25, 26, 27, 28, 29, 30, 31, 32, 33, 34, 24, 35, 36, 37, 38, 39, 40, 41, 42, 43, 44, 110, 111, 112, 113, 114, 115, 116, 117, 118, 119, 120] (by decide +kernel) (by decide +kernel)
set_option maxRecDepth 20000 in
theorem gX3_on_X2_becomeWithOne : GoodIn wsX3_on (wsV RX3 146 RX2 yX2_becomeWithOne wsX2_becomeWithOne) := goodIn_app (goodIn_of _ (by decide +kernel)) ggX3_on_X2_becomeWithOne
set_option maxRecDepth 20000 in
theorem ggX3_on_X2_goOn : GoodIn wsX3_on wsX2_goOn := goodIn_r _ [48, 49, 50, 51, 24, 52, 26, 28, 31, 36, 53, 54, 55, 56, 37, 39, 38, 57, 58, 59, 60, 61, 62, 63, 64, 65, 66, 67, 68, 69, 70, 71, 72, 29, 73, 74, 75, 76, 30, 77, 78, 79, 80, 27, 81, 82, 83, 84, 85, 86, 87, 88, 89, 90, 91, 92, 14, 10, 15, 93, 94, 95, 96, 97, 98, 99, 100, 101, 102, 110, 111, 112, 113, 114, 115, 116, 117, 118, 119, 120] (by decide +kernel) (by decide +kernel)
set_option maxRecDepth 20000 in
theorem gX3_on_X2_goOn : GoodIn wsX3_on (wsV RX3 142 RX2 yX2_goOn wsX2_goOn) := goodIn_app (goodIn_of _ (by decide +kernel)) ggX3_on_X2_goOn
theorem dX3_on_0 : decode cX3_on 0 = .ok (.aload_n 0, 1) := by decide +kernel
theorem dX3_on_1 : decode cX3_on 1 = .ok (.iload_n 1, 1) := by decide +kernel
theorem dX3_on_2 : decode cX3_on 2 = .ok (.invokevirtual 104, 3) := by decide +kernel
theorem dX3_on_5 : decode cX3_on 5 = .ok (.ifCond .eq 23, 3) := by decide +kernel
theorem dX3_on_8 : decode cX3_on 8 = .ok (.iload_n 2, 1) := by decide +kernel
theorem dX3_on_9 : decode cX3_on 9 = .ok (.iconst 0, 1) := by decide +kernel
theorem dX3_on_10 : decode cX3_on 10 = .ok (.sipush 400, 3) := by decide +kernel
theorem dX3_on_13 : decode cX3_on 13 = .ok (.invokestatic 48, 3) := by decide +kernel
theorem dX3_on_16 : decode cX3_on 16 = .ok (.ifCond .eq 12, 3) := by decide +kernel
theorem dX3_on_19 : decode cX3_on 19 = .ok (.iload_n 3, 1) := by decide +kernel
theorem dX3_on_20 : decode cX3_on 20 = .ok (.iconst 0, 1) := by decide +kernel
theorem dX3_on_21 : decode cX3_on 21 = .ok (.iconst 2, 1) := by decide +kernel
theorem dX3_on_22 : decode cX3_on 22 = .ok (.invokestatic 48, 3) := by decide +kernel
theorem dX3_on_25 : decode cX3_on 25 = .ok (.ifCond .ne 10, 3) := by decide +kernel
theorem dX3_on_28 : decode cX3_on 28 = .ok (.aload_n 0, 1) := by decide +kernel
theorem dX3_on_29 : decode cX3_on 29 = .ok (.ldc 52, 2) := by decide +kernel
theorem dX3_on_31 : decode cX3_on 31 = .ok (.invokevirtual 53, 3) := by decide +kernel
theorem dX3_on_34 : decode cX3_on 34 = .ok (.ireturn, 1) := by decide +kernel
theorem dX3_on_35 : decode cX3_on 35 = .ok (.aload_n 0, 1) := by decide +kernel
theorem dX3_on_36 : decode cX3_on 36 = .ok (.getfield 19, 3) := by decide +kernel
theorem dX3_on_39 : decode cX3_on 39 = .ok (.aload_n 0, 1) := by decide +kernel
theorem dX3_on_40 : decode cX3_on 40 = .ok (.getfield 12, 3) := by decide +kernel
theorem dX3_on_43 : decode cX3_on 43 = .ok (.iload_n 1, 1) := by decide +kernel
theorem dX3_on_44 : decode cX3_on 44 = .ok (.invokevirtual 146, 3) := by decide +kernel
theorem dX3_on_47 : decode cX3_on 47 = .ok (.aload_n 0, 1) := by decide +kernel
theorem dX3_on_48 : decode cX3_on 48 = .ok (.getfield 19, 3) := by decide +kernel
theorem dX3_on_51 : decode cX3_on 51 = .ok (.iload_n 2, 1) := by decide +kernel
theorem dX3_on_52 : decode cX3_on 52 = .ok (.invokevirtual 142, 3) := by decide +kernel
theorem dX3_on_55 : decode cX3_on 55 = .ok (.iload_n 3, 1) := by decide +kernel
theorem dX3_on_56 : decode cX3_on 56 = .ok (.ifCond .ne 13, 3) := by decide +kernel
theorem dX3_on_59 : decode cX3_on 59 = .ok (.aload_n 0, 1) := by decide +kernel
theorem dX3_on_60 : decode cX3_on 60 = .ok (.getfield 19, 3) := by decide +kernel
theorem dX3_on_63 : decode cX3_on 63 = .ok (.getfield 110, 3) := by decide +kernel
theorem dX3_on_66 : decode cX3_on 66 = .ok (.iconst 0, 1) := by decide +kernel
theorem dX3_on_67 : decode cX3_on 67 = .ok (.iaload, 1) := by decide +kernel
theorem dX3_on_68 : decode cX3_on 68 = .ok (.ireturn, 1) := by decide +kernel
theorem dX3_on_69 : decode cX3_on 69 = .ok (.iload_n 3, 1) := by decide +kernel
theorem dX3_on_70 : decode cX3_on 70 = .ok (.iconst 1, 1) := by decide +kernel
theorem dX3_on_71 : decode cX3_on 71 = .ok (.if_icmp .ne 15, 3) := by decide +kernel
theorem dX3_on_74 : decode cX3_on 74 = .ok (.aload_n 0, 1) := by decide +kernel
theorem dX3_on_75 : decode cX3_on 75 = .ok (.getfield 19, 3) := by decide +kernel
theorem dX3_on_78 : decode cX3_on 78 = .ok (.getfield 113, 3) := by decide +kernel
theorem dX3_on_81 : decode cX3_on 81 = .ok (.iconst 0, 1) := by decide +kernel
theorem dX3_on_82 : decode cX3_on 82 = .ok (.iaload, 1) := by decide +kernel
theorem dX3_on_83 : decode cX3_on 83 = .ok (.goto 12, 3) := by decide +kernel
theorem dX3_on_86 : decode cX3_on 86 = .ok (.aload_n 0, 1) := by decide +kernel
theorem dX3_on_87 : decode cX3_on 87 = .ok (.getfield 19, 3) := by decide +kernel
theorem dX3_on_90 : decode cX3_on 90 = .ok (.getfield 116, 3) := by decide +kernel
theorem dX3_on_93 : decode cX3_on 93 = .ok (.iconst 0, 1) := by decide +kernel
theorem dX3_on_94 : decode cX3_on 94 = .ok (.iaload, 1) := by decide +kernel
theorem dX3_on_95 : decode cX3_on 95 = .ok (.ireturn, 1) := by decide +kernel
set_option maxRecDepth 20000 in
theorem ggX3_heard_X3_isWithin : GoodIn wsX3_heard wsX3_isWithin := goodIn_r _ [6] (by decide +kernel) (by decide +kernel)
set_option maxRecDepth 20000 in
theorem gX3_heard_X3_isWithin : GoodIn wsX3_heard (va_wsS RX3 48 yX3_isWithin wsX3_isWithin) := goodIn_app (goodIn_of _ (by decide +kernel)) ggX3_heard_X3_isWithin
set_option maxRecDepth 20000 in
theorem ggX3_heard_X3_found : GoodIn wsX3_heard wsX3_found := goodIn_r _ [10, 1, 11, 3, 4, 5, 6, 107, 108, 109, 110, 111, 112, 113] (by decide +kernel) (by decide +kernel)
set_option maxRecDepth 20000 in
theorem gX3_heard_X3_found : GoodIn wsX3_heard (wsV RX3 53 RX3 yX3_found wsX3_found) := goodIn_app (goodIn_of _ (by decide +kernel)) ggX3_heard_X3_found
set_option maxRecDepth 20000 in
theorem ggX3_heard_X3_tryOn : GoodIn wsX3_heard wsX3_tryOn := goodIn_r _ [15, 2, 16, 17, 18, 19, 20, 21, 22, 23, 24, 25, 26, 27, 28, 29, 30, 31, 32, 33, 34, 35, 36, 37, 38, 39, 40, 41, 42, 43, 44, 45, 46, 47, 48, 49, 50, 51, 52, 53, 54, 55, 56, 57, 58, 59, 60, 61, 62, 63, 64, 65, 66, 67, 68, 69, 70, 71, 72, 73, 74, 75, 76, 77, 78, 79, 80, 81, 82, 83, 84, 85, 86, 87, 88, 4, 5, 6, 89, 90, 91, 92, 93, 94, 95, 96, 97, 98, 107, 108, 109, 110, 111, 112, 113, 114, 115, 116, 117, 118, 119, 120, 121, 122, 123, 124] (by decide +kernel) (by decide +kernel)
set_option maxRecDepth 20000 in
theorem gX3_heard_X3_tryOn : GoodIn wsX3_heard (wsV RX3 150 RX3 yX3_tryOn wsX3_tryOn) := goodIn_app (goodIn_of _ (by decide +kernel)) ggX3_heard_X3_tryOn
set_option maxRecDepth 20000 in
theorem ggX3_heard_X2_loudness : GoodIn wsX3_heard wsX2_loudness := goodIn_r _ [102, 40, 22, 49, 50, 51, 20, 52, 37, 39, 38, 53, 54, 55, 56, 36, 61, 62, 63, 64, 103, 104, 105, 106, 23, 28, 95, 96, 97, 98, 114, 115, 116, 117, 118, 119, 120, 121, 122, 123, 124] (by decide +kernel) (by decide +kernel)
set_option maxRecDepth 20000 in
theorem gX3_heard_X2_loudness : GoodIn wsX3_heard (wsV RX3 87 RX2 yX2_loudness wsX2_loudness) := goodIn_app (goodIn_of _ (by decide +kernel)) ggX3_heard_X2_loudness
theorem dX3_heard_0 : decode cX3_heard 0 = .ok (.iload_n 1, 1) := by decide +kernel
theorem dX3_heard_1 : decode cX3_heard 1 = .ok (.iconst 0, 1) := by decide +kernel
theorem dX3_heard_2 : decode cX3_heard 2 = .ok (.sipush 400, 3) := by decide +kernel
theorem dX3_heard_5 : decode cX3_heard 5 = .ok (.invokestatic 48, 3) := by decide +kernel
theorem dX3_heard_8 : decode cX3_heard 8 = .ok (.ifCond .ne 10, 3) := by decide +kernel
theorem dX3_heard_11 : decode cX3_heard 11 = .ok (.aload_n 0, 1) := by decide +kernel
theorem dX3_heard_12 : decode cX3_heard 12 = .ok (.ldc 52, 2) := by decide +kernel
theorem dX3_heard_14 : decode cX3_heard 14 = .ok (.invokevirtual 53, 3) := by decide +kernel
theorem dX3_heard_17 : decode cX3_heard 17 = .ok (.ireturn, 1) := by decide +kernel
theorem dX3_heard_18 : decode cX3_heard 18 = .ok (.aload_n 0, 1) := by decide +kernel
theorem dX3_heard_19 : decode cX3_heard 19 = .ok (.iload_n 1, 1) := by decide +kernel
theorem dX3_heard_20 : decode cX3_heard 20 = .ok (.invokevirtual 150, 3) := by decide +kernel
theorem dX3_heard_23 : decode cX3_heard 23 = .ok (.aload_n 0, 1) := by decide +kernel
theorem dX3_heard_24 : decode cX3_heard 24 = .ok (.getfield 19, 3) := by decide +kernel
theorem dX3_heard_27 : decode cX3_heard 27 = .ok (.invokevirtual 87, 3) := by decide +kernel
theorem dX3_heard_30 : decode cX3_heard 30 = .ok (.ireturn, 1) := by decide +kernel
set_option maxRecDepth 20000 in
theorem ggX3_reaches_X3_isHouse : GoodIn wsX3_reaches wsX3_isHouse := goodIn_r _ [8, 9, 10, 7, 11] (by decide +kernel) (by decide +kernel)
set_option maxRecDepth 20000 in
theorem gX3_reaches_X3_isHouse : GoodIn wsX3_reaches (va_wsS RX3 44 yX3_isHouse wsX3_isHouse) := goodIn_app (goodIn_of _ (by decide +kernel)) ggX3_reaches_X3_isHouse
set_option maxRecDepth 20000 in
theorem ggX3_reaches_X3_found : GoodIn wsX3_reaches wsX3_found := goodIn_r _ [15, 1, 16, 9, 10, 7, 11, 97, 98, 99, 100, 101, 102, 103] (by decide +kernel) (by decide +kernel)
set_option maxRecDepth 20000 in
theorem gX3_reaches_X3_found : GoodIn wsX3_reaches (wsV RX3 53 RX3 yX3_found wsX3_found) := goodIn_app (goodIn_of _ (by decide +kernel)) ggX3_reaches_X3_found
set_option maxRecDepth 20000 in
theorem ggX3_reaches_X2_becomeEmpty : GoodIn wsX3_reaches wsX2_becomeEmpty := goodIn_r _ [21, 22, 23, 24, 25, 26, 27, 28, 29, 30, 31, 32, 104, 105, 106, 107, 108, 109, 110, 111, 112, 113, 114] (by decide +kernel) (by decide +kernel)
set_option maxRecDepth 20000 in
theorem gX3_reaches_X2_becomeEmpty : GoodIn wsX3_reaches (wsV RX3 153 RX2 yX2_becomeEmpty wsX2_becomeEmpty) := goodIn_app (goodIn_of _ (by decide +kernel)) ggX3_reaches_X2_becomeEmpty
set_option maxRecDepth 20000 in
theorem ggX3_reaches_X2_edge : GoodIn wsX3_reaches wsX2_edge := goodIn_r _ [36, 23, 25, 24, 37, 38, 39, 20, 40, 22, 104, 105, 106, 107, 108, 109, 110, 111, 112, 113, 114] (by decide +kernel) (by decide +kernel)
set_option maxRecDepth 20000 in
theorem gX3_reaches_X2_edge : GoodIn wsX3_reaches (wsV RX3 70 RX2 yX2_edge wsX2_edge) := goodIn_app (goodIn_of _ (by decide +kernel)) ggX3_reaches_X2_edge
set_option maxRecDepth 20000 in
theorem ggX3_reaches_X2_takes : GoodIn wsX3_reaches wsX2_takes := goodIn_r _ [44, 24, 104, 105, 106, 107, 108, 109, 110, 111, 112, 113, 114] (by decide +kernel) (by decide +kernel)
set_option maxRecDepth 20000 in
theorem gX3_reaches_X2_takes : GoodIn wsX3_reaches (wsV RX3 74 RX2 yX2_takes wsX2_takes) := goodIn_app (goodIn_of _ (by decide +kernel)) ggX3_reaches_X2_takes
set_option maxRecDepth 20000 in
theorem ggX3_reaches_X2_goOn : GoodIn wsX3_reaches wsX2_goOn := goodIn_r _ [48, 49, 50, 51, 20, 52, 31, 53, 32, 22, 54, 34, 35, 36, 23, 25, 24, 37, 38, 39, 40, 55, 56, 57, 58, 59, 42, 43, 44, 60, 61, 62, 63, 64, 65, 66, 67, 68, 69, 70, 71, 72, 73, 74, 75, 76, 77, 78, 79, 80, 81, 82, 83, 84, 85, 86, 10, 7, 11, 87, 88, 89, 90, 91, 92, 93, 94, 95, 96, 104, 105, 106, 107, 108, 109, 110, 111, 112, 113, 114] (by decide +kernel) (by decide +kernel)
set_option maxRecDepth 20000 in
theorem gX3_reaches_X2_goOn : GoodIn wsX3_reaches (wsV RX3 142 RX2 yX2_goOn wsX2_goOn) := goodIn_app (goodIn_of _ (by decide +kernel)) ggX3_reaches_X2_goOn
theorem dX3_reaches_0 : decode cX3_reaches 0 = .ok (.iload_n 1, 1) := by decide +kernel
theorem dX3_reaches_1 : decode cX3_reaches 1 = .ok (.invokestatic 44, 3) := by decide +kernel
theorem dX3_reaches_4 : decode cX3_reaches 4 = .ok (.ifCond .ne 10, 3) := by decide +kernel
theorem dX3_reaches_7 : decode cX3_reaches 7 = .ok (.aload_n 0, 1) := by decide +kernel
theorem dX3_reaches_8 : decode cX3_reaches 8 = .ok (.ldc 52, 2) := by decide +kernel
theorem dX3_reaches_10 : decode cX3_reaches 10 = .ok (.invokevirtual 53, 3) := by decide +kernel
theorem dX3_reaches_13 : decode cX3_reaches 13 = .ok (.ireturn, 1) := by decide +kernel
theorem dX3_reaches_14 : decode cX3_reaches 14 = .ok (.aload_n 0, 1) := by decide +kernel
theorem dX3_reaches_15 : decode cX3_reaches 15 = .ok (.getfield 19, 3) := by decide +kernel
theorem dX3_reaches_18 : decode cX3_reaches 18 = .ok (.aload_n 0, 1) := by decide +kernel
theorem dX3_reaches_19 : decode cX3_reaches 19 = .ok (.getfield 12, 3) := by decide +kernel
theorem dX3_reaches_22 : decode cX3_reaches 22 = .ok (.invokevirtual 153, 3) := by decide +kernel
theorem dX3_reaches_25 : decode cX3_reaches 25 = .ok (.iconst 0, 1) := by decide +kernel
theorem dX3_reaches_26 : decode cX3_reaches 26 = .ok (.istore_n 2, 1) := by decide +kernel
theorem dX3_reaches_27 : decode cX3_reaches 27 = .ok (.iload_n 2, 1) := by decide +kernel
theorem dX3_reaches_28 : decode cX3_reaches 28 = .ok (.sipush 400, 3) := by decide +kernel
theorem dX3_reaches_31 : decode cX3_reaches 31 = .ok (.if_icmp .gt 37, 3) := by decide +kernel
theorem dX3_reaches_34 : decode cX3_reaches 34 = .ok (.aload_n 0, 1) := by decide +kernel
theorem dX3_reaches_35 : decode cX3_reaches 35 = .ok (.getfield 19, 3) := by decide +kernel
theorem dX3_reaches_38 : decode cX3_reaches 38 = .ok (.aload_n 0, 1) := by decide +kernel
theorem dX3_reaches_39 : decode cX3_reaches 39 = .ok (.getfield 19, 3) := by decide +kernel
theorem dX3_reaches_42 : decode cX3_reaches 42 = .ok (.invokevirtual 70, 3) := by decide +kernel
theorem dX3_reaches_45 : decode cX3_reaches 45 = .ok (.iload_n 1, 1) := by decide +kernel
theorem dX3_reaches_46 : decode cX3_reaches 46 = .ok (.invokevirtual 74, 3) := by decide +kernel
theorem dX3_reaches_49 : decode cX3_reaches 49 = .ok (.ifCond .eq 5, 3) := by decide +kernel
theorem dX3_reaches_52 : decode cX3_reaches 52 = .ok (.iload_n 2, 1) := by decide +kernel
theorem dX3_reaches_53 : decode cX3_reaches 53 = .ok (.ireturn, 1) := by decide +kernel
theorem dX3_reaches_54 : decode cX3_reaches 54 = .ok (.aload_n 0, 1) := by decide +kernel
theorem dX3_reaches_55 : decode cX3_reaches 55 = .ok (.getfield 19, 3) := by decide +kernel
theorem dX3_reaches_58 : decode cX3_reaches 58 = .ok (.iconst 1, 1) := by decide +kernel
theorem dX3_reaches_59 : decode cX3_reaches 59 = .ok (.invokevirtual 142, 3) := by decide +kernel
theorem dX3_reaches_62 : decode cX3_reaches 62 = .ok (.iinc 2 1, 3) := by decide +kernel
theorem dX3_reaches_65 : decode cX3_reaches 65 = .ok (.goto (-38), 3) := by decide +kernel
theorem dX3_reaches_68 : decode cX3_reaches 68 = .ok (.aload_n 0, 1) := by decide +kernel
theorem dX3_reaches_69 : decode cX3_reaches 69 = .ok (.ldc 157, 2) := by decide +kernel
theorem dX3_reaches_71 : decode cX3_reaches 71 = .ok (.invokevirtual 53, 3) := by decide +kernel
theorem dX3_reaches_74 : decode cX3_reaches 74 = .ok (.ireturn, 1) := by decide +kernel
set_option maxRecDepth 20000 in
theorem ggX3_catches_X3_isPerson : GoodIn wsX3_catches wsX3_isPerson := goodIn_r _ [9, 3, 10, 11, 12, 8, 13, 102, 103, 104, 105, 106, 107, 108, 109, 110, 111, 112, 113, 114, 115, 116, 117, 118, 119] (by decide +kernel) (by decide +kernel)
set_option maxRecDepth 20000 in
theorem gX3_catches_X3_isPerson : GoodIn wsX3_catches (wsV RX3 104 RX3 yX3_isPerson wsX3_isPerson) := goodIn_app (goodIn_of _ (by decide +kernel)) ggX3_catches_X3_isPerson
set_option maxRecDepth 20000 in
theorem ggX3_catches_X3_found : GoodIn wsX3_catches wsX3_found := goodIn_r _ [17, 1, 18, 11, 12, 8, 13, 102, 103, 104, 105, 106, 107, 108] (by decide +kernel) (by decide +kernel)
set_option maxRecDepth 20000 in
theorem gX3_catches_X3_found : GoodIn wsX3_catches (wsV RX3 53 RX3 yX3_found wsX3_found) := goodIn_app (goodIn_of _ (by decide +kernel)) ggX3_catches_X3_found
set_option maxRecDepth 20000 in
theorem ggX3_catches_X2_becomeWithOne : GoodIn wsX3_catches wsX2_becomeWithOne := goodIn_r _ [23, 24, 25, 26, 27, 28, 29, 30, 31, 32, 22, 33, 34, 35, 36, 37, 38, 39, 40, 41, 42, 109, 110, 111, 112, 113, 114, 115, 116, 117, 118, 119] (by decide +kernel) (by decide +kernel)
set_option maxRecDepth 20000 in
theorem gX3_catches_X2_becomeWithOne : GoodIn wsX3_catches (wsV RX3 146 RX2 yX2_becomeWithOne wsX2_becomeWithOne) := goodIn_app (goodIn_of _ (by decide +kernel)) ggX3_catches_X2_becomeWithOne
set_option maxRecDepth 20000 in
theorem ggX3_catches_X2_whoIsIn : GoodIn wsX3_catches wsX2_whoIsIn := goodIn_r _ [46, 24, 26, 47, 48, 49, 22, 50, 35, 37, 36, 51, 52, 53, 54, 34, 55, 56, 57, 58, 109, 110, 111, 112, 113, 114, 115, 116, 117, 118, 119] (by decide +kernel) (by decide +kernel)
set_option maxRecDepth 20000 in
theorem gX3_catches_X2_whoIsIn : GoodIn wsX3_catches (wsV RX3 90 RX2 yX2_whoIsIn wsX2_whoIsIn) := goodIn_app (goodIn_of _ (by decide +kernel)) ggX3_catches_X2_whoIsIn
set_option maxRecDepth 20000 in
theorem ggX3_catches_X2_goOn : GoodIn wsX3_catches wsX2_goOn := goodIn_r _ [62, 63, 64, 65, 22, 66, 24, 26, 29, 34, 47, 48, 49, 50, 35, 37, 36, 51, 52, 53, 54, 67, 44, 45, 46, 55, 56, 57, 58, 68, 69, 70, 71, 27, 72, 73, 74, 75, 28, 76, 77, 78, 79, 25, 80, 81, 82, 83, 84, 85, 86, 87, 88, 89, 90, 91, 12, 8, 13, 92, 93, 94, 95, 96, 97, 98, 99, 100, 101, 109, 110, 111, 112, 113, 114, 115, 116, 117, 118, 119] (by decide +kernel) (by decide +kernel)
set_option maxRecDepth 20000 in
theorem gX3_catches_X2_goOn : GoodIn wsX3_catches (wsV RX3 142 RX2 yX2_goOn wsX2_goOn) := goodIn_app (goodIn_of _ (by decide +kernel)) ggX3_catches_X2_goOn
theorem dX3_catches_0 : decode cX3_catches 0 = .ok (.aload_n 0, 1) := by decide +kernel
theorem dX3_catches_1 : decode cX3_catches 1 = .ok (.iload_n 1, 1) := by decide +kernel
theorem dX3_catches_2 : decode cX3_catches 2 = .ok (.invokevirtual 104, 3) := by decide +kernel
theorem dX3_catches_5 : decode cX3_catches 5 = .ok (.ifCond .ne 10, 3) := by decide +kernel
theorem dX3_catches_8 : decode cX3_catches 8 = .ok (.aload_n 0, 1) := by decide +kernel
theorem dX3_catches_9 : decode cX3_catches 9 = .ok (.ldc 52, 2) := by decide +kernel
theorem dX3_catches_11 : decode cX3_catches 11 = .ok (.invokevirtual 53, 3) := by decide +kernel
theorem dX3_catches_14 : decode cX3_catches 14 = .ok (.ireturn, 1) := by decide +kernel
theorem dX3_catches_15 : decode cX3_catches 15 = .ok (.aload_n 0, 1) := by decide +kernel
theorem dX3_catches_16 : decode cX3_catches 16 = .ok (.getfield 19, 3) := by decide +kernel
theorem dX3_catches_19 : decode cX3_catches 19 = .ok (.aload_n 0, 1) := by decide +kernel
theorem dX3_catches_20 : decode cX3_catches 20 = .ok (.getfield 12, 3) := by decide +kernel
theorem dX3_catches_23 : decode cX3_catches 23 = .ok (.iload_n 1, 1) := by decide +kernel
theorem dX3_catches_24 : decode cX3_catches 24 = .ok (.invokevirtual 146, 3) := by decide +kernel
theorem dX3_catches_27 : decode cX3_catches 27 = .ok (.iconst 0, 1) := by decide +kernel
theorem dX3_catches_28 : decode cX3_catches 28 = .ok (.istore_n 2, 1) := by decide +kernel
theorem dX3_catches_29 : decode cX3_catches 29 = .ok (.iload_n 2, 1) := by decide +kernel
theorem dX3_catches_30 : decode cX3_catches 30 = .ok (.sipush 400, 3) := by decide +kernel
theorem dX3_catches_33 : decode cX3_catches 33 = .ok (.if_icmp .gt 29, 3) := by decide +kernel
theorem dX3_catches_36 : decode cX3_catches 36 = .ok (.aload_n 0, 1) := by decide +kernel
theorem dX3_catches_37 : decode cX3_catches 37 = .ok (.getfield 19, 3) := by decide +kernel
theorem dX3_catches_40 : decode cX3_catches 40 = .ok (.invokevirtual 90, 3) := by decide +kernel
theorem dX3_catches_43 : decode cX3_catches 43 = .ok (.ifCond .eq 5, 3) := by decide +kernel
theorem dX3_catches_46 : decode cX3_catches 46 = .ok (.iload_n 2, 1) := by decide +kernel
theorem dX3_catches_47 : decode cX3_catches 47 = .ok (.ireturn, 1) := by decide +kernel
theorem dX3_catches_48 : decode cX3_catches 48 = .ok (.aload_n 0, 1) := by decide +kernel
theorem dX3_catches_49 : decode cX3_catches 49 = .ok (.getfield 19, 3) := by decide +kernel
theorem dX3_catches_52 : decode cX3_catches 52 = .ok (.iconst 1, 1) := by decide +kernel
theorem dX3_catches_53 : decode cX3_catches 53 = .ok (.invokevirtual 142, 3) := by decide +kernel
theorem dX3_catches_56 : decode cX3_catches 56 = .ok (.iinc 2 1, 3) := by decide +kernel
theorem dX3_catches_59 : decode cX3_catches 59 = .ok (.goto (-30), 3) := by decide +kernel
theorem dX3_catches_62 : decode cX3_catches 62 = .ok (.aload_n 0, 1) := by decide +kernel
theorem dX3_catches_63 : decode cX3_catches 63 = .ok (.ldc 157, 2) := by decide +kernel
theorem dX3_catches_65 : decode cX3_catches 65 = .ok (.invokevirtual 53, 3) := by decide +kernel
theorem dX3_catches_68 : decode cX3_catches 68 = .ok (.ireturn, 1) := by decide +kernel
set_option maxRecDepth 20000 in
theorem ggX3_out_X2_becomeEmpty : GoodIn wsX3_out wsX2_becomeEmpty := goodIn_r _ [8, 9, 10, 11, 12, 13, 14, 15, 16, 17, 18, 19, 100, 101, 102, 103, 104, 105, 106, 107, 108, 109, 110] (by decide +kernel) (by decide +kernel)
set_option maxRecDepth 20000 in
theorem gX3_out_X2_becomeEmpty : GoodIn wsX3_out (wsV RX3 153 RX2 yX2_becomeEmpty wsX2_becomeEmpty) := goodIn_app (goodIn_of _ (by decide +kernel)) ggX3_out_X2_becomeEmpty
set_option maxRecDepth 20000 in
theorem ggX3_out_X2_edge : GoodIn wsX3_out wsX2_edge := goodIn_r _ [23, 10, 12, 11, 24, 25, 26, 7, 27, 9, 100, 101, 102, 103, 104, 105, 106, 107, 108, 109, 110] (by decide +kernel) (by decide +kernel)
set_option maxRecDepth 20000 in
theorem gX3_out_X2_edge : GoodIn wsX3_out (wsV RX3 70 RX2 yX2_edge wsX2_edge) := goodIn_app (goodIn_of _ (by decide +kernel)) ggX3_out_X2_edge
set_option maxRecDepth 20000 in
theorem ggX3_out_X2_goOn : GoodIn wsX3_out wsX2_goOn := goodIn_r _ [31, 32, 33, 34, 7, 35, 18, 36, 19, 9, 37, 21, 22, 23, 10, 12, 11, 24, 25, 26, 27, 38, 39, 40, 41, 42, 43, 44, 45, 46, 47, 48, 49, 50, 51, 52, 53, 54, 55, 56, 57, 58, 59, 60, 61, 62, 63, 64, 65, 66, 67, 68, 69, 70, 71, 72, 73, 74, 75, 76, 77, 78, 79, 80, 81, 82, 83, 84, 85, 100, 101, 102, 103, 104, 105, 106, 107, 108, 109, 110] (by decide +kernel) (by decide +kernel)
set_option maxRecDepth 20000 in
theorem gX3_out_X2_goOn : GoodIn wsX3_out (wsV RX3 142 RX2 yX2_goOn wsX2_goOn) := goodIn_app (goodIn_of _ (by decide +kernel)) ggX3_out_X2_goOn
set_option maxRecDepth 20000 in
theorem ggX3_out_X3_found : GoodIn wsX3_out wsX3_found := goodIn_r _ [89, 90, 91, 92, 73, 74, 75, 93, 94, 95, 96, 97, 98, 99] (by decide +kernel) (by decide +kernel)
set_option maxRecDepth 20000 in
theorem gX3_out_X3_found : GoodIn wsX3_out (wsV RX3 53 RX3 yX3_found wsX3_found) := goodIn_app (goodIn_of _ (by decide +kernel)) ggX3_out_X3_found
theorem dX3_out_0 : decode cX3_out 0 = .ok (.aload_n 0, 1) := by decide +kernel
theorem dX3_out_1 : decode cX3_out 1 = .ok (.getfield 19, 3) := by decide +kernel
theorem dX3_out_4 : decode cX3_out 4 = .ok (.aload_n 0, 1) := by decide +kernel
theorem dX3_out_5 : decode cX3_out 5 = .ok (.getfield 12, 3) := by decide +kernel
theorem dX3_out_8 : decode cX3_out 8 = .ok (.invokevirtual 153, 3) := by decide +kernel
theorem dX3_out_11 : decode cX3_out 11 = .ok (.iconst 0, 1) := by decide +kernel
theorem dX3_out_12 : decode cX3_out 12 = .ok (.istore_n 1, 1) := by decide +kernel
theorem dX3_out_13 : decode cX3_out 13 = .ok (.iload_n 1, 1) := by decide +kernel
theorem dX3_out_14 : decode cX3_out 14 = .ok (.sipush 400, 3) := by decide +kernel
theorem dX3_out_17 : decode cX3_out 17 = .ok (.if_icmp .gt 30, 3) := by decide +kernel
theorem dX3_out_20 : decode cX3_out 20 = .ok (.aload_n 0, 1) := by decide +kernel
theorem dX3_out_21 : decode cX3_out 21 = .ok (.getfield 19, 3) := by decide +kernel
theorem dX3_out_24 : decode cX3_out 24 = .ok (.invokevirtual 70, 3) := by decide +kernel
theorem dX3_out_27 : decode cX3_out 27 = .ok (.iconst (-1), 1) := by decide +kernel
theorem dX3_out_28 : decode cX3_out 28 = .ok (.if_icmp .ne 5, 3) := by decide +kernel
theorem dX3_out_31 : decode cX3_out 31 = .ok (.iload_n 1, 1) := by decide +kernel
theorem dX3_out_32 : decode cX3_out 32 = .ok (.ireturn, 1) := by decide +kernel
theorem dX3_out_33 : decode cX3_out 33 = .ok (.aload_n 0, 1) := by decide +kernel
theorem dX3_out_34 : decode cX3_out 34 = .ok (.getfield 19, 3) := by decide +kernel
theorem dX3_out_37 : decode cX3_out 37 = .ok (.iconst 1, 1) := by decide +kernel
theorem dX3_out_38 : decode cX3_out 38 = .ok (.invokevirtual 142, 3) := by decide +kernel
theorem dX3_out_41 : decode cX3_out 41 = .ok (.iinc 1 1, 3) := by decide +kernel
theorem dX3_out_44 : decode cX3_out 44 = .ok (.goto (-31), 3) := by decide +kernel
theorem dX3_out_47 : decode cX3_out 47 = .ok (.aload_n 0, 1) := by decide +kernel
theorem dX3_out_48 : decode cX3_out 48 = .ok (.ldc 157, 2) := by decide +kernel
theorem dX3_out_50 : decode cX3_out 50 = .ok (.invokevirtual 53, 3) := by decide +kernel
theorem dX3_out_53 : decode cX3_out 53 = .ok (.ireturn, 1) := by decide +kernel
set_option maxRecDepth 20000 in
theorem ggX3_where_X3_isPerson : GoodIn wsX3_where wsX3_isPerson := goodIn_r _ [8, 2, 9, 10, 11, 7, 12, 111, 112, 113, 114, 115, 116, 117, 118, 119, 120, 121, 122, 123, 124, 125, 126, 127, 128] (by decide +kernel) (by decide +kernel)
set_option maxRecDepth 20000 in
theorem gX3_where_X3_isPerson : GoodIn wsX3_where (wsV RX3 104 RX3 yX3_isPerson wsX3_isPerson) := goodIn_app (goodIn_of _ (by decide +kernel)) ggX3_where_X3_isPerson
set_option maxRecDepth 20000 in
theorem ggX3_where_X3_isWithin : GoodIn wsX3_where wsX3_isWithin := goodIn_r _ [12] (by decide +kernel) (by decide +kernel)
set_option maxRecDepth 20000 in
theorem gX3_where_X3_isWithin : GoodIn wsX3_where (va_wsS RX3 48 yX3_isWithin wsX3_isWithin) := goodIn_app (goodIn_of _ (by decide +kernel)) ggX3_where_X3_isWithin
set_option maxRecDepth 20000 in
theorem ggX3_where_X3_found : GoodIn wsX3_where wsX3_found := goodIn_r _ [16, 1, 17, 10, 11, 7, 12, 111, 112, 113, 114, 115, 116, 117] (by decide +kernel) (by decide +kernel)
set_option maxRecDepth 20000 in
theorem gX3_where_X3_found : GoodIn wsX3_where (wsV RX3 53 RX3 yX3_found wsX3_found) := goodIn_app (goodIn_of _ (by decide +kernel)) ggX3_where_X3_found
set_option maxRecDepth 20000 in
theorem ggX3_where_X3_quietOf : GoodIn wsX3_where wsX3_quietOf := goodIn_r _ [21, 22, 23, 24, 25, 26, 7, 27, 2, 3, 28, 29, 30, 31, 32, 33, 34, 35, 36, 37, 38, 39, 40, 41, 42, 43, 44, 45, 46, 47, 48, 49, 50, 51, 52, 53, 54, 55, 56, 57, 58, 59, 60, 61, 62, 63, 64, 65, 66, 67, 68, 69, 70, 71, 72, 73, 74, 75, 76, 77, 78, 79, 80, 81, 82, 83, 84, 85, 86, 87, 88, 89, 90, 91, 92, 93, 94, 95, 96, 97, 98, 99, 100, 11, 12, 101, 102, 103, 104, 105, 106, 107, 108, 109, 110, 111, 112, 113, 114, 115, 116, 117, 118, 119, 120, 121, 122, 123, 124, 125, 126, 127, 128] (by decide +kernel) (by decide +kernel)
set_option maxRecDepth 20000 in
theorem gX3_where_X3_quietOf : GoodIn wsX3_where (wsV RX3 158 RX3 yX3_quietOf wsX3_quietOf) := goodIn_app (goodIn_of _ (by decide +kernel)) ggX3_where_X3_quietOf
theorem dX3_where_0 : decode cX3_where 0 = .ok (.aload_n 0, 1) := by decide +kernel
theorem dX3_where_1 : decode cX3_where 1 = .ok (.iload_n 1, 1) := by decide +kernel
theorem dX3_where_2 : decode cX3_where 2 = .ok (.invokevirtual 104, 3) := by decide +kernel
theorem dX3_where_5 : decode cX3_where 5 = .ok (.ifCond .eq 14, 3) := by decide +kernel
theorem dX3_where_8 : decode cX3_where 8 = .ok (.iload_n 2, 1) := by decide +kernel
theorem dX3_where_9 : decode cX3_where 9 = .ok (.iconst 1, 1) := by decide +kernel
theorem dX3_where_10 : decode cX3_where 10 = .ok (.sipush 200, 3) := by decide +kernel
theorem dX3_where_13 : decode cX3_where 13 = .ok (.invokestatic 48, 3) := by decide +kernel
theorem dX3_where_16 : decode cX3_where 16 = .ok (.ifCond .ne 10, 3) := by decide +kernel
theorem dX3_where_19 : decode cX3_where 19 = .ok (.aload_n 0, 1) := by decide +kernel
theorem dX3_where_20 : decode cX3_where 20 = .ok (.ldc 52, 2) := by decide +kernel
theorem dX3_where_22 : decode cX3_where 22 = .ok (.invokevirtual 53, 3) := by decide +kernel
theorem dX3_where_25 : decode cX3_where 25 = .ok (.ireturn, 1) := by decide +kernel
theorem dX3_where_26 : decode cX3_where 26 = .ok (.iconst 0, 1) := by decide +kernel
theorem dX3_where_27 : decode cX3_where 27 = .ok (.istore_n 3, 1) := by decide +kernel
theorem dX3_where_28 : decode cX3_where 28 = .ok (.iconst (-1), 1) := by decide +kernel
theorem dX3_where_29 : decode cX3_where 29 = .ok (.istore 4, 2) := by decide +kernel
theorem dX3_where_31 : decode cX3_where 31 = .ok (.iconst 0, 1) := by decide +kernel
theorem dX3_where_32 : decode cX3_where 32 = .ok (.istore 5, 2) := by decide +kernel
theorem dX3_where_34 : decode cX3_where 34 = .ok (.iload 5, 2) := by decide +kernel
theorem dX3_where_36 : decode cX3_where 36 = .ok (.bipush 30, 2) := by decide +kernel
theorem dX3_where_38 : decode cX3_where 38 = .ok (.if_icmp .ge 42, 3) := by decide +kernel
theorem dX3_where_41 : decode cX3_where 41 = .ok (.aload_n 0, 1) := by decide +kernel
theorem dX3_where_42 : decode cX3_where 42 = .ok (.iload_n 1, 1) := by decide +kernel
theorem dX3_where_43 : decode cX3_where 43 = .ok (.aload_n 0, 1) := by decide +kernel
theorem dX3_where_44 : decode cX3_where 44 = .ok (.getfield 12, 3) := by decide +kernel
theorem dX3_where_47 : decode cX3_where 47 = .ok (.getfield 107, 3) := by decide +kernel
theorem dX3_where_50 : decode cX3_where 50 = .ok (.iload_n 1, 1) := by decide +kernel
theorem dX3_where_51 : decode cX3_where 51 = .ok (.iaload, 1) := by decide +kernel
theorem dX3_where_52 : decode cX3_where 52 = .ok (.iload 5, 2) := by decide +kernel
theorem dX3_where_54 : decode cX3_where 54 = .ok (.iload_n 2, 1) := by decide +kernel
theorem dX3_where_55 : decode cX3_where 55 = .ok (.invokevirtual 158, 3) := by decide +kernel
theorem dX3_where_58 : decode cX3_where 58 = .ok (.istore 6, 2) := by decide +kernel
theorem dX3_where_60 : decode cX3_where 60 = .ok (.iload 6, 2) := by decide +kernel
theorem dX3_where_62 : decode cX3_where 62 = .ok (.iload 4, 2) := by decide +kernel
theorem dX3_where_64 : decode cX3_where 64 = .ok (.if_icmp .le 10, 3) := by decide +kernel
theorem dX3_where_67 : decode cX3_where 67 = .ok (.iload 6, 2) := by decide +kernel
theorem dX3_where_69 : decode cX3_where 69 = .ok (.istore 4, 2) := by decide +kernel
theorem dX3_where_71 : decode cX3_where 71 = .ok (.iload 5, 2) := by decide +kernel
theorem dX3_where_73 : decode cX3_where 73 = .ok (.istore_n 3, 1) := by decide +kernel
theorem dX3_where_74 : decode cX3_where 74 = .ok (.iinc 5 1, 3) := by decide +kernel
theorem dX3_where_77 : decode cX3_where 77 = .ok (.goto (-43), 3) := by decide +kernel
theorem dX3_where_80 : decode cX3_where 80 = .ok (.iload_n 3, 1) := by decide +kernel
theorem dX3_where_81 : decode cX3_where 81 = .ok (.ireturn, 1) := by decide +kernel
set_option maxRecDepth 20000 in
theorem ggX3_kind_X3_isPerson : GoodIn wsX3_kind wsX3_isPerson := goodIn_r _ [8, 2, 9, 10, 11, 7, 12, 111, 112, 113, 114, 115, 116, 117, 118, 119, 120, 121, 122, 123, 124, 125, 126, 127, 128] (by decide +kernel) (by decide +kernel)
set_option maxRecDepth 20000 in
theorem gX3_kind_X3_isPerson : GoodIn wsX3_kind (wsV RX3 104 RX3 yX3_isPerson wsX3_isPerson) := goodIn_app (goodIn_of _ (by decide +kernel)) ggX3_kind_X3_isPerson
set_option maxRecDepth 20000 in
theorem ggX3_kind_X3_isWithin : GoodIn wsX3_kind wsX3_isWithin := goodIn_r _ [12] (by decide +kernel) (by decide +kernel)
set_option maxRecDepth 20000 in
theorem gX3_kind_X3_isWithin : GoodIn wsX3_kind (va_wsS RX3 48 yX3_isWithin wsX3_isWithin) := goodIn_app (goodIn_of _ (by decide +kernel)) ggX3_kind_X3_isWithin
set_option maxRecDepth 20000 in
theorem ggX3_kind_X3_found : GoodIn wsX3_kind wsX3_found := goodIn_r _ [16, 1, 17, 10, 11, 7, 12, 111, 112, 113, 114, 115, 116, 117] (by decide +kernel) (by decide +kernel)
set_option maxRecDepth 20000 in
theorem gX3_kind_X3_found : GoodIn wsX3_kind (wsV RX3 53 RX3 yX3_found wsX3_found) := goodIn_app (goodIn_of _ (by decide +kernel)) ggX3_kind_X3_found
set_option maxRecDepth 20000 in
theorem ggX3_kind_X3_quietOf : GoodIn wsX3_kind wsX3_quietOf := goodIn_r _ [21, 22, 23, 24, 25, 26, 7, 27, 2, 28, 3, 29, 30, 31, 32, 33, 34, 35, 36, 37, 38, 39, 40, 41, 42, 43, 44, 45, 46, 47, 48, 49, 50, 51, 52, 53, 54, 55, 56, 57, 58, 59, 60, 61, 62, 63, 64, 65, 66, 67, 68, 69, 70, 71, 72, 73, 74, 75, 76, 77, 78, 79, 80, 81, 82, 83, 84, 85, 86, 87, 88, 89, 90, 91, 92, 93, 94, 95, 96, 97, 98, 99, 100, 11, 12, 101, 102, 103, 104, 105, 106, 107, 108, 109, 110, 111, 112, 113, 114, 115, 116, 117, 118, 119, 120, 121, 122, 123, 124, 125, 126, 127, 128] (by decide +kernel) (by decide +kernel)
set_option maxRecDepth 20000 in
theorem gX3_kind_X3_quietOf : GoodIn wsX3_kind (wsV RX3 158 RX3 yX3_quietOf wsX3_quietOf) := goodIn_app (goodIn_of _ (by decide +kernel)) ggX3_kind_X3_quietOf
theorem dX3_kind_0 : decode cX3_kind 0 = .ok (.aload_n 0, 1) := by decide +kernel
theorem dX3_kind_1 : decode cX3_kind 1 = .ok (.iload_n 1, 1) := by decide +kernel
theorem dX3_kind_2 : decode cX3_kind 2 = .ok (.invokevirtual 104, 3) := by decide +kernel
theorem dX3_kind_5 : decode cX3_kind 5 = .ok (.ifCond .eq 14, 3) := by decide +kernel
theorem dX3_kind_8 : decode cX3_kind 8 = .ok (.iload_n 2, 1) := by decide +kernel
theorem dX3_kind_9 : decode cX3_kind 9 = .ok (.iconst 1, 1) := by decide +kernel
theorem dX3_kind_10 : decode cX3_kind 10 = .ok (.sipush 200, 3) := by decide +kernel
theorem dX3_kind_13 : decode cX3_kind 13 = .ok (.invokestatic 48, 3) := by decide +kernel
theorem dX3_kind_16 : decode cX3_kind 16 = .ok (.ifCond .ne 10, 3) := by decide +kernel
theorem dX3_kind_19 : decode cX3_kind 19 = .ok (.aload_n 0, 1) := by decide +kernel
theorem dX3_kind_20 : decode cX3_kind 20 = .ok (.ldc 52, 2) := by decide +kernel
theorem dX3_kind_22 : decode cX3_kind 22 = .ok (.invokevirtual 53, 3) := by decide +kernel
theorem dX3_kind_25 : decode cX3_kind 25 = .ok (.ireturn, 1) := by decide +kernel
theorem dX3_kind_26 : decode cX3_kind 26 = .ok (.iconst 0, 1) := by decide +kernel
theorem dX3_kind_27 : decode cX3_kind 27 = .ok (.istore_n 3, 1) := by decide +kernel
theorem dX3_kind_28 : decode cX3_kind 28 = .ok (.iconst (-1), 1) := by decide +kernel
theorem dX3_kind_29 : decode cX3_kind 29 = .ok (.istore 4, 2) := by decide +kernel
theorem dX3_kind_31 : decode cX3_kind 31 = .ok (.iconst 0, 1) := by decide +kernel
theorem dX3_kind_32 : decode cX3_kind 32 = .ok (.istore 5, 2) := by decide +kernel
theorem dX3_kind_34 : decode cX3_kind 34 = .ok (.iload 5, 2) := by decide +kernel
theorem dX3_kind_36 : decode cX3_kind 36 = .ok (.bipush 6, 2) := by decide +kernel
theorem dX3_kind_38 : decode cX3_kind 38 = .ok (.if_icmp .ge 42, 3) := by decide +kernel
theorem dX3_kind_41 : decode cX3_kind 41 = .ok (.aload_n 0, 1) := by decide +kernel
theorem dX3_kind_42 : decode cX3_kind 42 = .ok (.iload_n 1, 1) := by decide +kernel
theorem dX3_kind_43 : decode cX3_kind 43 = .ok (.iload 5, 2) := by decide +kernel
theorem dX3_kind_45 : decode cX3_kind 45 = .ok (.aload_n 0, 1) := by decide +kernel
theorem dX3_kind_46 : decode cX3_kind 46 = .ok (.getfield 12, 3) := by decide +kernel
theorem dX3_kind_49 : decode cX3_kind 49 = .ok (.getfield 110, 3) := by decide +kernel
theorem dX3_kind_52 : decode cX3_kind 52 = .ok (.iload_n 1, 1) := by decide +kernel
theorem dX3_kind_53 : decode cX3_kind 53 = .ok (.iaload, 1) := by decide +kernel
theorem dX3_kind_54 : decode cX3_kind 54 = .ok (.iload_n 2, 1) := by decide +kernel
theorem dX3_kind_55 : decode cX3_kind 55 = .ok (.invokevirtual 158, 3) := by decide +kernel
theorem dX3_kind_58 : decode cX3_kind 58 = .ok (.istore 6, 2) := by decide +kernel
theorem dX3_kind_60 : decode cX3_kind 60 = .ok (.iload 6, 2) := by decide +kernel
theorem dX3_kind_62 : decode cX3_kind 62 = .ok (.iload 4, 2) := by decide +kernel
theorem dX3_kind_64 : decode cX3_kind 64 = .ok (.if_icmp .le 10, 3) := by decide +kernel
theorem dX3_kind_67 : decode cX3_kind 67 = .ok (.iload 6, 2) := by decide +kernel
theorem dX3_kind_69 : decode cX3_kind 69 = .ok (.istore 4, 2) := by decide +kernel
theorem dX3_kind_71 : decode cX3_kind 71 = .ok (.iload 5, 2) := by decide +kernel
theorem dX3_kind_73 : decode cX3_kind 73 = .ok (.istore_n 3, 1) := by decide +kernel
theorem dX3_kind_74 : decode cX3_kind 74 = .ok (.iinc 5 1, 3) := by decide +kernel
theorem dX3_kind_77 : decode cX3_kind 77 = .ok (.goto (-43), 3) := by decide +kernel
theorem dX3_kind_80 : decode cX3_kind 80 = .ok (.iload_n 3, 1) := by decide +kernel
theorem dX3_kind_81 : decode cX3_kind 81 = .ok (.ireturn, 1) := by decide +kernel
set_option maxRecDepth 20000 in
theorem ggX3_wide_X3_isWithin : GoodIn wsX3_wide wsX3_isWithin := goodIn_r _ [9] (by decide +kernel) (by decide +kernel)
set_option maxRecDepth 20000 in
theorem gX3_wide_X3_isWithin : GoodIn wsX3_wide (va_wsS RX3 48 yX3_isWithin wsX3_isWithin) := goodIn_app (goodIn_of _ (by decide +kernel)) ggX3_wide_X3_isWithin
set_option maxRecDepth 20000 in
theorem ggX3_wide_X3_found : GoodIn wsX3_wide wsX3_found := goodIn_r _ [13, 1, 14, 6, 7, 8, 9, 103, 104, 105, 106, 107, 108, 109] (by decide +kernel) (by decide +kernel)
set_option maxRecDepth 20000 in
theorem gX3_wide_X3_found : GoodIn wsX3_wide (wsV RX3 53 RX3 yX3_found wsX3_found) := goodIn_app (goodIn_of _ (by decide +kernel)) ggX3_wide_X3_found
set_option maxRecDepth 20000 in
theorem ggX3_wide_X2_caughtOfAll : GoodIn wsX3_wide wsX2_caughtOfAll := goodIn_r _ [19, 20, 21, 22, 8, 23, 110, 111, 112, 113, 114, 115, 116, 117, 118, 119, 120] (by decide +kernel) (by decide +kernel)
set_option maxRecDepth 20000 in
theorem gX3_wide_X2_caughtOfAll : GoodIn wsX3_wide (wsV RX3 162 RX2 yX2_caughtOfAll wsX2_caughtOfAll) := goodIn_app (goodIn_of _ (by decide +kernel)) ggX3_wide_X2_caughtOfAll
set_option maxRecDepth 20000 in
theorem ggX3_wide_X2_become : GoodIn wsX3_wide wsX2_become := goodIn_r _ [27, 21, 28, 29, 30, 31, 32, 33, 34, 20, 35, 36, 37, 38, 18, 39, 40, 41, 42, 43, 44, 110, 111, 112, 113, 114, 115, 116, 117, 118, 119, 120] (by decide +kernel) (by decide +kernel)
set_option maxRecDepth 20000 in
theorem gX3_wide_X2_become : GoodIn wsX3_wide (wsV RX3 165 RX2 yX2_become wsX2_become) := goodIn_app (goodIn_of _ (by decide +kernel)) ggX3_wide_X2_become
set_option maxRecDepth 20000 in
theorem ggX3_wide_X2_goOn : GoodIn wsX3_wide wsX2_goOn := goodIn_r _ [48, 49, 50, 51, 18, 52, 21, 33, 35, 40, 53, 54, 55, 56, 41, 43, 42, 57, 58, 59, 60, 61, 62, 63, 64, 65, 66, 67, 68, 69, 70, 71, 72, 34, 73, 74, 75, 76, 20, 77, 78, 79, 80, 28, 81, 82, 83, 84, 85, 86, 87, 88, 89, 90, 91, 92, 7, 8, 9, 93, 94, 95, 96, 97, 98, 99, 100, 101, 102, 110, 111, 112, 113, 114, 115, 116, 117, 118, 119, 120] (by decide +kernel) (by decide +kernel)
set_option maxRecDepth 20000 in
theorem gX3_wide_X2_goOn : GoodIn wsX3_wide (wsV RX3 142 RX2 yX2_goOn wsX2_goOn) := goodIn_app (goodIn_of _ (by decide +kernel)) ggX3_wide_X2_goOn
theorem dX3_wide_0 : decode cX3_wide 0 = .ok (.iload_n 1, 1) := by decide +kernel
theorem dX3_wide_1 : decode cX3_wide 1 = .ok (.iconst 1, 1) := by decide +kernel
theorem dX3_wide_2 : decode cX3_wide 2 = .ok (.bipush 100, 2) := by decide +kernel
theorem dX3_wide_4 : decode cX3_wide 4 = .ok (.invokestatic 48, 3) := by decide +kernel
theorem dX3_wide_7 : decode cX3_wide 7 = .ok (.ifCond .ne 10, 3) := by decide +kernel
theorem dX3_wide_10 : decode cX3_wide 10 = .ok (.aload_n 0, 1) := by decide +kernel
theorem dX3_wide_11 : decode cX3_wide 11 = .ok (.ldc 52, 2) := by decide +kernel
theorem dX3_wide_13 : decode cX3_wide 13 = .ok (.invokevirtual 53, 3) := by decide +kernel
theorem dX3_wide_16 : decode cX3_wide 16 = .ok (.ireturn, 1) := by decide +kernel
theorem dX3_wide_17 : decode cX3_wide 17 = .ok (.aload_n 0, 1) := by decide +kernel
theorem dX3_wide_18 : decode cX3_wide 18 = .ok (.getfield 12, 3) := by decide +kernel
theorem dX3_wide_21 : decode cX3_wide 21 = .ok (.invokevirtual 162, 3) := by decide +kernel
theorem dX3_wide_24 : decode cX3_wide 24 = .ok (.istore_n 2, 1) := by decide +kernel
theorem dX3_wide_25 : decode cX3_wide 25 = .ok (.bipush 10, 2) := by decide +kernel
theorem dX3_wide_27 : decode cX3_wide 27 = .ok (.istore_n 3, 1) := by decide +kernel
theorem dX3_wide_28 : decode cX3_wide 28 = .ok (.iload_n 3, 1) := by decide +kernel
theorem dX3_wide_29 : decode cX3_wide 29 = .ok (.ifCond .lt 49, 3) := by decide +kernel
theorem dX3_wide_32 : decode cX3_wide 32 = .ok (.aload_n 0, 1) := by decide +kernel
theorem dX3_wide_33 : decode cX3_wide 33 = .ok (.getfield 19, 3) := by decide +kernel
theorem dX3_wide_36 : decode cX3_wide 36 = .ok (.aload_n 0, 1) := by decide +kernel
theorem dX3_wide_37 : decode cX3_wide 37 = .ok (.getfield 12, 3) := by decide +kernel
theorem dX3_wide_40 : decode cX3_wide 40 = .ok (.invokevirtual 165, 3) := by decide +kernel
theorem dX3_wide_43 : decode cX3_wide 43 = .ok (.aload_n 0, 1) := by decide +kernel
theorem dX3_wide_44 : decode cX3_wide 44 = .ok (.getfield 19, 3) := by decide +kernel
theorem dX3_wide_47 : decode cX3_wide 47 = .ok (.iload_n 3, 1) := by decide +kernel
theorem dX3_wide_48 : decode cX3_wide 48 = .ok (.putfield 64, 3) := by decide +kernel
theorem dX3_wide_51 : decode cX3_wide 51 = .ok (.aload_n 0, 1) := by decide +kernel
theorem dX3_wide_52 : decode cX3_wide 52 = .ok (.getfield 19, 3) := by decide +kernel
theorem dX3_wide_55 : decode cX3_wide 55 = .ok (.iload_n 1, 1) := by decide +kernel
theorem dX3_wide_56 : decode cX3_wide 56 = .ok (.invokevirtual 142, 3) := by decide +kernel
theorem dX3_wide_59 : decode cX3_wide 59 = .ok (.aload_n 0, 1) := by decide +kernel
theorem dX3_wide_60 : decode cX3_wide 60 = .ok (.getfield 19, 3) := by decide +kernel
theorem dX3_wide_63 : decode cX3_wide 63 = .ok (.invokevirtual 162, 3) := by decide +kernel
theorem dX3_wide_66 : decode cX3_wide 66 = .ok (.iload_n 2, 1) := by decide +kernel
theorem dX3_wide_67 : decode cX3_wide 67 = .ok (.if_icmp .gt 5, 3) := by decide +kernel
theorem dX3_wide_70 : decode cX3_wide 70 = .ok (.iload_n 3, 1) := by decide +kernel
theorem dX3_wide_71 : decode cX3_wide 71 = .ok (.ireturn, 1) := by decide +kernel
theorem dX3_wide_72 : decode cX3_wide 72 = .ok (.iinc 3 (-1), 3) := by decide +kernel
theorem dX3_wide_75 : decode cX3_wide 75 = .ok (.goto (-47), 3) := by decide +kernel
theorem dX3_wide_78 : decode cX3_wide 78 = .ok (.aload_n 0, 1) := by decide +kernel
theorem dX3_wide_79 : decode cX3_wide 79 = .ok (.ldc 157, 2) := by decide +kernel
theorem dX3_wide_81 : decode cX3_wide 81 = .ok (.invokevirtual 53, 3) := by decide +kernel
theorem dX3_wide_84 : decode cX3_wide 84 = .ok (.ireturn, 1) := by decide +kernel
set_option maxRecDepth 20000 in
theorem ggX3_pace_X3_isWithin : GoodIn wsX3_pace wsX3_isWithin := goodIn_r _ [8] (by decide +kernel) (by decide +kernel)
set_option maxRecDepth 20000 in
theorem gX3_pace_X3_isWithin : GoodIn wsX3_pace (va_wsS RX3 48 yX3_isWithin wsX3_isWithin) := goodIn_app (goodIn_of _ (by decide +kernel)) ggX3_pace_X3_isWithin
set_option maxRecDepth 20000 in
theorem ggX3_pace_X3_found : GoodIn wsX3_pace wsX3_found := goodIn_r _ [12, 1, 13, 5, 6, 7, 8, 102, 103, 104, 105, 106, 107, 108] (by decide +kernel) (by decide +kernel)
set_option maxRecDepth 20000 in
theorem gX3_pace_X3_found : GoodIn wsX3_pace (wsV RX3 53 RX3 yX3_found wsX3_found) := goodIn_app (goodIn_of _ (by decide +kernel)) ggX3_pace_X3_found
set_option maxRecDepth 20000 in
theorem ggX3_pace_X2_become : GoodIn wsX3_pace wsX2_become := goodIn_r _ [18, 19, 20, 21, 22, 23, 24, 25, 26, 27, 28, 29, 30, 31, 17, 32, 33, 34, 35, 36, 37, 109, 110, 111, 112, 113, 114, 115, 116, 117, 118, 119] (by decide +kernel) (by decide +kernel)
set_option maxRecDepth 20000 in
theorem gX3_pace_X2_become : GoodIn wsX3_pace (wsV RX3 165 RX2 yX2_become wsX2_become) := goodIn_app (goodIn_of _ (by decide +kernel)) ggX3_pace_X2_become
set_option maxRecDepth 20000 in
theorem ggX3_pace_X2_goOn : GoodIn wsX3_pace wsX2_goOn := goodIn_r _ [41, 42, 43, 44, 17, 45, 19, 25, 28, 33, 46, 47, 48, 49, 34, 36, 35, 50, 51, 52, 53, 54, 55, 56, 57, 58, 59, 60, 61, 62, 63, 64, 65, 26, 66, 67, 68, 69, 27, 70, 71, 72, 73, 20, 74, 75, 76, 77, 78, 79, 80, 81, 82, 83, 84, 85, 6, 7, 8, 86, 87, 88, 89, 90, 91, 92, 93, 94, 95, 109, 110, 111, 112, 113, 114, 115, 116, 117, 118, 119] (by decide +kernel) (by decide +kernel)
set_option maxRecDepth 20000 in
theorem gX3_pace_X2_goOn : GoodIn wsX3_pace (wsV RX3 142 RX2 yX2_goOn wsX2_goOn) := goodIn_app (goodIn_of _ (by decide +kernel)) ggX3_pace_X2_goOn
set_option maxRecDepth 20000 in
theorem ggX3_pace_X2_quietOfAll : GoodIn wsX3_pace wsX2_quietOfAll := goodIn_r _ [99, 26, 19, 100, 7, 101, 109, 110, 111, 112, 113, 114, 115, 116, 117, 118, 119] (by decide +kernel) (by decide +kernel)
set_option maxRecDepth 20000 in
theorem gX3_pace_X2_quietOfAll : GoodIn wsX3_pace (wsV RX3 168 RX2 yX2_quietOfAll wsX2_quietOfAll) := goodIn_app (goodIn_of _ (by decide +kernel)) ggX3_pace_X2_quietOfAll
theorem dX3_pace_0 : decode cX3_pace 0 = .ok (.iload_n 1, 1) := by decide +kernel
theorem dX3_pace_1 : decode cX3_pace 1 = .ok (.iconst 1, 1) := by decide +kernel
theorem dX3_pace_2 : decode cX3_pace 2 = .ok (.bipush 100, 2) := by decide +kernel
theorem dX3_pace_4 : decode cX3_pace 4 = .ok (.invokestatic 48, 3) := by decide +kernel
theorem dX3_pace_7 : decode cX3_pace 7 = .ok (.ifCond .ne 10, 3) := by decide +kernel
theorem dX3_pace_10 : decode cX3_pace 10 = .ok (.aload_n 0, 1) := by decide +kernel
theorem dX3_pace_11 : decode cX3_pace 11 = .ok (.ldc 52, 2) := by decide +kernel
theorem dX3_pace_13 : decode cX3_pace 13 = .ok (.invokevirtual 53, 3) := by decide +kernel
theorem dX3_pace_16 : decode cX3_pace 16 = .ok (.ireturn, 1) := by decide +kernel
theorem dX3_pace_17 : decode cX3_pace 17 = .ok (.iconst 1, 1) := by decide +kernel
theorem dX3_pace_18 : decode cX3_pace 18 = .ok (.istore_n 2, 1) := by decide +kernel
theorem dX3_pace_19 : decode cX3_pace 19 = .ok (.iconst (-1), 1) := by decide +kernel
theorem dX3_pace_20 : decode cX3_pace 20 = .ok (.istore_n 3, 1) := by decide +kernel
theorem dX3_pace_21 : decode cX3_pace 21 = .ok (.iconst 1, 1) := by decide +kernel
theorem dX3_pace_22 : decode cX3_pace 22 = .ok (.istore 4, 2) := by decide +kernel
theorem dX3_pace_24 : decode cX3_pace 24 = .ok (.iload 4, 2) := by decide +kernel
theorem dX3_pace_26 : decode cX3_pace 26 = .ok (.iconst 5, 1) := by decide +kernel
theorem dX3_pace_27 : decode cX3_pace 27 = .ok (.if_icmp .gt 58, 3) := by decide +kernel
theorem dX3_pace_30 : decode cX3_pace 30 = .ok (.aload_n 0, 1) := by decide +kernel
theorem dX3_pace_31 : decode cX3_pace 31 = .ok (.getfield 19, 3) := by decide +kernel
theorem dX3_pace_34 : decode cX3_pace 34 = .ok (.aload_n 0, 1) := by decide +kernel
theorem dX3_pace_35 : decode cX3_pace 35 = .ok (.getfield 12, 3) := by decide +kernel
theorem dX3_pace_38 : decode cX3_pace 38 = .ok (.invokevirtual 165, 3) := by decide +kernel
theorem dX3_pace_41 : decode cX3_pace 41 = .ok (.aload_n 0, 1) := by decide +kernel
theorem dX3_pace_42 : decode cX3_pace 42 = .ok (.getfield 19, 3) := by decide +kernel
theorem dX3_pace_45 : decode cX3_pace 45 = .ok (.iload 4, 2) := by decide +kernel
theorem dX3_pace_47 : decode cX3_pace 47 = .ok (.putfield 67, 3) := by decide +kernel
theorem dX3_pace_50 : decode cX3_pace 50 = .ok (.aload_n 0, 1) := by decide +kernel
theorem dX3_pace_51 : decode cX3_pace 51 = .ok (.getfield 19, 3) := by decide +kernel
theorem dX3_pace_54 : decode cX3_pace 54 = .ok (.iload_n 1, 1) := by decide +kernel
theorem dX3_pace_55 : decode cX3_pace 55 = .ok (.invokevirtual 142, 3) := by decide +kernel
theorem dX3_pace_58 : decode cX3_pace 58 = .ok (.aload_n 0, 1) := by decide +kernel
theorem dX3_pace_59 : decode cX3_pace 59 = .ok (.getfield 19, 3) := by decide +kernel
theorem dX3_pace_62 : decode cX3_pace 62 = .ok (.invokevirtual 168, 3) := by decide +kernel
theorem dX3_pace_65 : decode cX3_pace 65 = .ok (.istore 5, 2) := by decide +kernel
theorem dX3_pace_67 : decode cX3_pace 67 = .ok (.iload 5, 2) := by decide +kernel
theorem dX3_pace_69 : decode cX3_pace 69 = .ok (.iload_n 3, 1) := by decide +kernel
theorem dX3_pace_70 : decode cX3_pace 70 = .ok (.if_icmp .le 9, 3) := by decide +kernel
theorem dX3_pace_73 : decode cX3_pace 73 = .ok (.iload 5, 2) := by decide +kernel
theorem dX3_pace_75 : decode cX3_pace 75 = .ok (.istore_n 3, 1) := by decide +kernel
theorem dX3_pace_76 : decode cX3_pace 76 = .ok (.iload 4, 2) := by decide +kernel
theorem dX3_pace_78 : decode cX3_pace 78 = .ok (.istore_n 2, 1) := by decide +kernel
theorem dX3_pace_79 : decode cX3_pace 79 = .ok (.iinc 4 1, 3) := by decide +kernel
theorem dX3_pace_82 : decode cX3_pace 82 = .ok (.goto (-58), 3) := by decide +kernel
theorem dX3_pace_85 : decode cX3_pace 85 = .ok (.iload_n 2, 1) := by decide +kernel
theorem dX3_pace_86 : decode cX3_pace 86 = .ok (.ireturn, 1) := by decide +kernel
set_option maxRecDepth 20000 in
theorem ggX3_four_X3_isWithin : GoodIn wsX3_four wsX3_isWithin := goodIn_r _ [8] (by decide +kernel) (by decide +kernel)
set_option maxRecDepth 20000 in
theorem gX3_four_X3_isWithin : GoodIn wsX3_four (va_wsS RX3 48 yX3_isWithin wsX3_isWithin) := goodIn_app (goodIn_of _ (by decide +kernel)) ggX3_four_X3_isWithin
set_option maxRecDepth 20000 in
theorem ggX3_four_X3_found : GoodIn wsX3_four wsX3_found := goodIn_r _ [12, 1, 13, 5, 6, 7, 8, 104, 105, 106, 107, 108, 109, 110] (by decide +kernel) (by decide +kernel)
set_option maxRecDepth 20000 in
theorem gX3_four_X3_found : GoodIn wsX3_four (wsV RX3 53 RX3 yX3_found wsX3_found) := goodIn_app (goodIn_of _ (by decide +kernel)) ggX3_four_X3_found
set_option maxRecDepth 20000 in
theorem ggX3_four_X2_become : GoodIn wsX3_four wsX2_become := goodIn_r _ [18, 19, 20, 21, 22, 23, 24, 25, 26, 27, 28, 29, 30, 31, 17, 32, 33, 34, 35, 36, 37, 111, 112, 113, 114, 115, 116, 117, 118, 119, 120, 121] (by decide +kernel) (by decide +kernel)
set_option maxRecDepth 20000 in
theorem gX3_four_X2_become : GoodIn wsX3_four (wsV RX3 165 RX2 yX2_become wsX2_become) := goodIn_app (goodIn_of _ (by decide +kernel)) ggX3_four_X2_become
set_option maxRecDepth 20000 in
theorem ggX3_four_X2_goOn : GoodIn wsX3_four wsX2_goOn := goodIn_r _ [41, 42, 43, 44, 17, 45, 19, 25, 28, 33, 46, 47, 48, 49, 34, 36, 35, 50, 51, 52, 53, 54, 55, 56, 57, 58, 59, 60, 61, 62, 63, 64, 65, 26, 66, 67, 68, 69, 27, 70, 71, 72, 73, 20, 74, 75, 76, 77, 78, 79, 80, 81, 82, 83, 84, 85, 6, 7, 8, 86, 87, 88, 89, 90, 91, 92, 93, 94, 95, 111, 112, 113, 114, 115, 116, 117, 118, 119, 120, 121] (by decide +kernel) (by decide +kernel)
set_option maxRecDepth 20000 in
theorem gX3_four_X2_goOn : GoodIn wsX3_four (wsV RX3 142 RX2 yX2_goOn wsX2_goOn) := goodIn_app (goodIn_of _ (by decide +kernel)) ggX3_four_X2_goOn
set_option maxRecDepth 20000 in
theorem ggX3_four_X2_loudness : GoodIn wsX3_four wsX2_loudness := goodIn_r _ [99, 37, 19, 46, 47, 48, 17, 49, 34, 36, 35, 50, 51, 52, 53, 33, 58, 59, 60, 61, 100, 101, 102, 103, 20, 25, 92, 93, 94, 95, 111, 112, 113, 114, 115, 116, 117, 118, 119, 120, 121] (by decide +kernel) (by decide +kernel)
set_option maxRecDepth 20000 in
theorem gX3_four_X2_loudness : GoodIn wsX3_four (wsV RX3 87 RX2 yX2_loudness wsX2_loudness) := goodIn_app (goodIn_of _ (by decide +kernel)) ggX3_four_X2_loudness
theorem dX3_four_0 : decode cX3_four 0 = .ok (.iload_n 1, 1) := by decide +kernel
theorem dX3_four_1 : decode cX3_four 1 = .ok (.iconst 0, 1) := by decide +kernel
theorem dX3_four_2 : decode cX3_four 2 = .ok (.bipush 100, 2) := by decide +kernel
theorem dX3_four_4 : decode cX3_four 4 = .ok (.invokestatic 48, 3) := by decide +kernel
theorem dX3_four_7 : decode cX3_four 7 = .ok (.ifCond .ne 10, 3) := by decide +kernel
theorem dX3_four_10 : decode cX3_four 10 = .ok (.aload_n 0, 1) := by decide +kernel
theorem dX3_four_11 : decode cX3_four 11 = .ok (.ldc 52, 2) := by decide +kernel
theorem dX3_four_13 : decode cX3_four 13 = .ok (.invokevirtual 53, 3) := by decide +kernel
theorem dX3_four_16 : decode cX3_four 16 = .ok (.ireturn, 1) := by decide +kernel
theorem dX3_four_17 : decode cX3_four 17 = .ok (.iconst 0, 1) := by decide +kernel
theorem dX3_four_18 : decode cX3_four 18 = .ok (.istore_n 2, 1) := by decide +kernel
theorem dX3_four_19 : decode cX3_four 19 = .ok (.iconst 0, 1) := by decide +kernel
theorem dX3_four_20 : decode cX3_four 20 = .ok (.istore_n 3, 1) := by decide +kernel
theorem dX3_four_21 : decode cX3_four 21 = .ok (.iconst 0, 1) := by decide +kernel
theorem dX3_four_22 : decode cX3_four 22 = .ok (.istore 4, 2) := by decide +kernel
theorem dX3_four_24 : decode cX3_four 24 = .ok (.iload 4, 2) := by decide +kernel
theorem dX3_four_26 : decode cX3_four 26 = .ok (.bipush 100, 2) := by decide +kernel
theorem dX3_four_28 : decode cX3_four 28 = .ok (.if_icmp .ge 63, 3) := by decide +kernel
theorem dX3_four_31 : decode cX3_four 31 = .ok (.aload_n 0, 1) := by decide +kernel
theorem dX3_four_32 : decode cX3_four 32 = .ok (.getfield 19, 3) := by decide +kernel
theorem dX3_four_35 : decode cX3_four 35 = .ok (.aload_n 0, 1) := by decide +kernel
theorem dX3_four_36 : decode cX3_four 36 = .ok (.getfield 12, 3) := by decide +kernel
theorem dX3_four_39 : decode cX3_four 39 = .ok (.invokevirtual 165, 3) := by decide +kernel
theorem dX3_four_42 : decode cX3_four 42 = .ok (.aload_n 0, 1) := by decide +kernel
theorem dX3_four_43 : decode cX3_four 43 = .ok (.getfield 19, 3) := by decide +kernel
theorem dX3_four_46 : decode cX3_four 46 = .ok (.iload 4, 2) := by decide +kernel
theorem dX3_four_48 : decode cX3_four 48 = .ok (.putfield 60, 3) := by decide +kernel
theorem dX3_four_51 : decode cX3_four 51 = .ok (.aload_n 0, 1) := by decide +kernel
theorem dX3_four_52 : decode cX3_four 52 = .ok (.getfield 19, 3) := by decide +kernel
theorem dX3_four_55 : decode cX3_four 55 = .ok (.iload_n 1, 1) := by decide +kernel
theorem dX3_four_56 : decode cX3_four 56 = .ok (.invokevirtual 142, 3) := by decide +kernel
theorem dX3_four_59 : decode cX3_four 59 = .ok (.aload_n 0, 1) := by decide +kernel
theorem dX3_four_60 : decode cX3_four 60 = .ok (.getfield 19, 3) := by decide +kernel
theorem dX3_four_63 : decode cX3_four 63 = .ok (.invokevirtual 87, 3) := by decide +kernel
theorem dX3_four_66 : decode cX3_four 66 = .ok (.istore 5, 2) := by decide +kernel
theorem dX3_four_68 : decode cX3_four 68 = .ok (.iload 4, 2) := by decide +kernel
theorem dX3_four_70 : decode cX3_four 70 = .ok (.ifCond .eq 9, 3) := by decide +kernel
theorem dX3_four_73 : decode cX3_four 73 = .ok (.iload 5, 2) := by decide +kernel
theorem dX3_four_75 : decode cX3_four 75 = .ok (.iload_n 3, 1) := by decide +kernel
theorem dX3_four_76 : decode cX3_four 76 = .ok (.if_icmp .ge 9, 3) := by decide +kernel
theorem dX3_four_79 : decode cX3_four 79 = .ok (.iload 5, 2) := by decide +kernel
theorem dX3_four_81 : decode cX3_four 81 = .ok (.istore_n 3, 1) := by decide +kernel
theorem dX3_four_82 : decode cX3_four 82 = .ok (.iload 4, 2) := by decide +kernel
theorem dX3_four_84 : decode cX3_four 84 = .ok (.istore_n 2, 1) := by decide +kernel
theorem dX3_four_85 : decode cX3_four 85 = .ok (.iinc 4 1, 3) := by decide +kernel
theorem dX3_four_88 : decode cX3_four 88 = .ok (.goto (-64), 3) := by decide +kernel
theorem dX3_four_91 : decode cX3_four 91 = .ok (.iload_n 2, 1) := by decide +kernel
theorem dX3_four_92 : decode cX3_four 92 = .ok (.ireturn, 1) := by decide +kernel
set_option maxRecDepth 20000 in
theorem ggX3_still_X3_isWithin : GoodIn wsX3_still wsX3_isWithin := goodIn_r _ [8] (by decide +kernel) (by decide +kernel)
set_option maxRecDepth 20000 in
theorem gX3_still_X3_isWithin : GoodIn wsX3_still (va_wsS RX3 48 yX3_isWithin wsX3_isWithin) := goodIn_app (goodIn_of _ (by decide +kernel)) ggX3_still_X3_isWithin
set_option maxRecDepth 20000 in
theorem ggX3_still_X3_found : GoodIn wsX3_still wsX3_found := goodIn_r _ [12, 1, 13, 5, 6, 7, 8, 94, 95, 96, 97, 98, 99, 100] (by decide +kernel) (by decide +kernel)
set_option maxRecDepth 20000 in
theorem gX3_still_X3_found : GoodIn wsX3_still (wsV RX3 53 RX3 yX3_found wsX3_found) := goodIn_app (goodIn_of _ (by decide +kernel)) ggX3_still_X3_found
set_option maxRecDepth 20000 in
theorem ggX3_still_X2_becomeEmpty : GoodIn wsX3_still wsX2_becomeEmpty := goodIn_r _ [18, 19, 20, 21, 22, 23, 24, 25, 26, 27, 28, 29, 101, 102, 103, 104, 105, 106, 107, 108, 109, 110, 111] (by decide +kernel) (by decide +kernel)
set_option maxRecDepth 20000 in
theorem gX3_still_X2_becomeEmpty : GoodIn wsX3_still (wsV RX3 153 RX2 yX2_becomeEmpty wsX2_becomeEmpty) := goodIn_app (goodIn_of _ (by decide +kernel)) ggX3_still_X2_becomeEmpty
set_option maxRecDepth 20000 in
theorem ggX3_still_X2_goOn : GoodIn wsX3_still wsX2_goOn := goodIn_r _ [33, 34, 35, 36, 17, 37, 28, 38, 29, 19, 39, 40, 41, 42, 20, 22, 21, 43, 44, 45, 46, 47, 48, 49, 50, 51, 52, 53, 54, 55, 56, 57, 58, 59, 60, 61, 62, 63, 64, 65, 66, 67, 68, 69, 70, 71, 72, 73, 74, 75, 76, 77, 78, 79, 80, 81, 6, 7, 8, 82, 83, 84, 85, 86, 87, 88, 89, 90, 91, 101, 102, 103, 104, 105, 106, 107, 108, 109, 110, 111] (by decide +kernel) (by decide +kernel)
set_option maxRecDepth 20000 in
theorem gX3_still_X2_goOn : GoodIn wsX3_still (wsV RX3 142 RX2 yX2_goOn wsX2_goOn) := goodIn_app (goodIn_of _ (by decide +kernel)) ggX3_still_X2_goOn
set_option maxRecDepth 20000 in
theorem ggX3_still_X2_edge : GoodIn wsX3_still wsX2_edge := goodIn_r _ [42, 20, 22, 21, 43, 44, 45, 17, 46, 19, 101, 102, 103, 104, 105, 106, 107, 108, 109, 110, 111] (by decide +kernel) (by decide +kernel)
set_option maxRecDepth 20000 in
theorem gX3_still_X2_edge : GoodIn wsX3_still (wsV RX3 70 RX2 yX2_edge wsX2_edge) := goodIn_app (goodIn_of _ (by decide +kernel)) ggX3_still_X2_edge
set_option maxRecDepth 20000 in
theorem ggX3_still_X2_takes : GoodIn wsX3_still wsX2_takes := goodIn_r _ [54, 21, 101, 102, 103, 104, 105, 106, 107, 108, 109, 110, 111] (by decide +kernel) (by decide +kernel)
set_option maxRecDepth 20000 in
theorem gX3_still_X2_takes : GoodIn wsX3_still (wsV RX3 74 RX2 yX2_takes wsX2_takes) := goodIn_app (goodIn_of _ (by decide +kernel)) ggX3_still_X2_takes
theorem dX3_still_0 : decode cX3_still 0 = .ok (.iload_n 1, 1) := by decide +kernel
theorem dX3_still_1 : decode cX3_still 1 = .ok (.iconst 0, 1) := by decide +kernel
theorem dX3_still_2 : decode cX3_still 2 = .ok (.bipush 100, 2) := by decide +kernel
theorem dX3_still_4 : decode cX3_still 4 = .ok (.invokestatic 48, 3) := by decide +kernel
theorem dX3_still_7 : decode cX3_still 7 = .ok (.ifCond .ne 10, 3) := by decide +kernel
theorem dX3_still_10 : decode cX3_still 10 = .ok (.aload_n 0, 1) := by decide +kernel
theorem dX3_still_11 : decode cX3_still 11 = .ok (.ldc 52, 2) := by decide +kernel
theorem dX3_still_13 : decode cX3_still 13 = .ok (.invokevirtual 53, 3) := by decide +kernel
theorem dX3_still_16 : decode cX3_still 16 = .ok (.ireturn, 1) := by decide +kernel
theorem dX3_still_17 : decode cX3_still 17 = .ok (.aload_n 0, 1) := by decide +kernel
theorem dX3_still_18 : decode cX3_still 18 = .ok (.getfield 19, 3) := by decide +kernel
theorem dX3_still_21 : decode cX3_still 21 = .ok (.aload_n 0, 1) := by decide +kernel
theorem dX3_still_22 : decode cX3_still 22 = .ok (.getfield 12, 3) := by decide +kernel
theorem dX3_still_25 : decode cX3_still 25 = .ok (.invokevirtual 153, 3) := by decide +kernel
theorem dX3_still_28 : decode cX3_still 28 = .ok (.aload_n 0, 1) := by decide +kernel
theorem dX3_still_29 : decode cX3_still 29 = .ok (.getfield 19, 3) := by decide +kernel
theorem dX3_still_32 : decode cX3_still 32 = .ok (.iload_n 1, 1) := by decide +kernel
theorem dX3_still_33 : decode cX3_still 33 = .ok (.invokevirtual 142, 3) := by decide +kernel
theorem dX3_still_36 : decode cX3_still 36 = .ok (.aload_n 0, 1) := by decide +kernel
theorem dX3_still_37 : decode cX3_still 37 = .ok (.getfield 19, 3) := by decide +kernel
theorem dX3_still_40 : decode cX3_still 40 = .ok (.invokevirtual 70, 3) := by decide +kernel
theorem dX3_still_43 : decode cX3_still 43 = .ok (.istore_n 2, 1) := by decide +kernel
theorem dX3_still_44 : decode cX3_still 44 = .ok (.iconst 0, 1) := by decide +kernel
theorem dX3_still_45 : decode cX3_still 45 = .ok (.istore_n 3, 1) := by decide +kernel
theorem dX3_still_46 : decode cX3_still 46 = .ok (.iconst (-1), 1) := by decide +kernel
theorem dX3_still_47 : decode cX3_still 47 = .ok (.istore 4, 2) := by decide +kernel
theorem dX3_still_49 : decode cX3_still 49 = .ok (.iconst 0, 1) := by decide +kernel
theorem dX3_still_50 : decode cX3_still 50 = .ok (.istore 5, 2) := by decide +kernel
theorem dX3_still_52 : decode cX3_still 52 = .ok (.iload 5, 2) := by decide +kernel
theorem dX3_still_54 : decode cX3_still 54 = .ok (.bipush 30, 2) := by decide +kernel
theorem dX3_still_56 : decode cX3_still 56 = .ok (.if_icmp .ge 52, 3) := by decide +kernel
theorem dX3_still_59 : decode cX3_still 59 = .ok (.aload_n 0, 1) := by decide +kernel
theorem dX3_still_60 : decode cX3_still 60 = .ok (.getfield 19, 3) := by decide +kernel
theorem dX3_still_63 : decode cX3_still 63 = .ok (.iload_n 2, 1) := by decide +kernel
theorem dX3_still_64 : decode cX3_still 64 = .ok (.iload 5, 2) := by decide +kernel
theorem dX3_still_66 : decode cX3_still 66 = .ok (.invokevirtual 74, 3) := by decide +kernel
theorem dX3_still_69 : decode cX3_still 69 = .ok (.ifCond .eq 7, 3) := by decide +kernel
theorem dX3_still_72 : decode cX3_still 72 = .ok (.iconst 0, 1) := by decide +kernel
theorem dX3_still_73 : decode cX3_still 73 = .ok (.goto 13, 3) := by decide +kernel
theorem dX3_still_76 : decode cX3_still 76 = .ok (.aload_n 0, 1) := by decide +kernel
theorem dX3_still_77 : decode cX3_still 77 = .ok (.getfield 19, 3) := by decide +kernel
theorem dX3_still_80 : decode cX3_still 80 = .ok (.getfield 57, 3) := by decide +kernel
theorem dX3_still_83 : decode cX3_still 83 = .ok (.iload 5, 2) := by decide +kernel
theorem dX3_still_85 : decode cX3_still 85 = .ok (.iaload, 1) := by decide +kernel
theorem dX3_still_86 : decode cX3_still 86 = .ok (.istore 6, 2) := by decide +kernel
theorem dX3_still_88 : decode cX3_still 88 = .ok (.iload 6, 2) := by decide +kernel
theorem dX3_still_90 : decode cX3_still 90 = .ok (.iload 4, 2) := by decide +kernel
theorem dX3_still_92 : decode cX3_still 92 = .ok (.if_icmp .le 10, 3) := by decide +kernel
theorem dX3_still_95 : decode cX3_still 95 = .ok (.iload 6, 2) := by decide +kernel
theorem dX3_still_97 : decode cX3_still 97 = .ok (.istore 4, 2) := by decide +kernel
theorem dX3_still_99 : decode cX3_still 99 = .ok (.iload 5, 2) := by decide +kernel
theorem dX3_still_101 : decode cX3_still 101 = .ok (.istore_n 3, 1) := by decide +kernel
theorem dX3_still_102 : decode cX3_still 102 = .ok (.iinc 5 1, 3) := by decide +kernel
theorem dX3_still_105 : decode cX3_still 105 = .ok (.goto (-53), 3) := by decide +kernel
theorem dX3_still_108 : decode cX3_still 108 = .ok (.iload_n 3, 1) := by decide +kernel
theorem dX3_still_109 : decode cX3_still 109 = .ok (.ireturn, 1) := by decide +kernel
set_option maxRecDepth 20000 in
theorem ggX3_quietest_X3_isWithin : GoodIn wsX3_quietest wsX3_isWithin := goodIn_r _ [10] (by decide +kernel) (by decide +kernel)
set_option maxRecDepth 20000 in
theorem gX3_quietest_X3_isWithin : GoodIn wsX3_quietest (va_wsS RX3 48 yX3_isWithin wsX3_isWithin) := goodIn_app (goodIn_of _ (by decide +kernel)) ggX3_quietest_X3_isWithin
set_option maxRecDepth 20000 in
theorem ggX3_quietest_X3_found : GoodIn wsX3_quietest wsX3_found := goodIn_r _ [14, 1, 15, 7, 8, 9, 10, 102, 103, 104, 105, 106, 107, 108] (by decide +kernel) (by decide +kernel)
set_option maxRecDepth 20000 in
theorem gX3_quietest_X3_found : GoodIn wsX3_quietest (wsV RX3 53 RX3 yX3_found wsX3_found) := goodIn_app (goodIn_of _ (by decide +kernel)) ggX3_quietest_X3_found
set_option maxRecDepth 20000 in
theorem ggX3_quietest_X3_tryOn : GoodIn wsX3_quietest wsX3_tryOn := goodIn_r _ [19, 5, 2, 20, 21, 22, 23, 24, 25, 26, 27, 28, 29, 30, 31, 32, 33, 34, 35, 36, 37, 38, 39, 40, 41, 42, 43, 44, 45, 46, 47, 48, 49, 50, 51, 52, 53, 54, 55, 56, 57, 58, 59, 60, 61, 62, 63, 64, 65, 66, 67, 68, 69, 70, 71, 72, 73, 74, 75, 76, 77, 78, 79, 80, 81, 82, 83, 84, 85, 86, 87, 88, 89, 90, 91, 8, 9, 10, 92, 93, 94, 95, 96, 97, 98, 99, 100, 101, 102, 103, 104, 105, 106, 107, 108, 109, 110, 111, 112, 113, 114, 115, 116, 117, 118, 119] (by decide +kernel) (by decide +kernel)
set_option maxRecDepth 20000 in
theorem gX3_quietest_X3_tryOn : GoodIn wsX3_quietest (wsV RX3 150 RX3 yX3_tryOn wsX3_tryOn) := goodIn_app (goodIn_of _ (by decide +kernel)) ggX3_quietest_X3_tryOn
theorem dX3_quietest_0 : decode cX3_quietest 0 = .ok (.iload_n 1, 1) := by decide +kernel
theorem dX3_quietest_1 : decode cX3_quietest 1 = .ok (.iconst 0, 1) := by decide +kernel
theorem dX3_quietest_2 : decode cX3_quietest 2 = .ok (.sipush 400, 3) := by decide +kernel
theorem dX3_quietest_5 : decode cX3_quietest 5 = .ok (.invokestatic 48, 3) := by decide +kernel
theorem dX3_quietest_8 : decode cX3_quietest 8 = .ok (.ifCond .ne 10, 3) := by decide +kernel
theorem dX3_quietest_11 : decode cX3_quietest 11 = .ok (.aload_n 0, 1) := by decide +kernel
theorem dX3_quietest_12 : decode cX3_quietest 12 = .ok (.ldc 52, 2) := by decide +kernel
theorem dX3_quietest_14 : decode cX3_quietest 14 = .ok (.invokevirtual 53, 3) := by decide +kernel
theorem dX3_quietest_17 : decode cX3_quietest 17 = .ok (.ireturn, 1) := by decide +kernel
theorem dX3_quietest_18 : decode cX3_quietest 18 = .ok (.aload_n 0, 1) := by decide +kernel
theorem dX3_quietest_19 : decode cX3_quietest 19 = .ok (.getfield 12, 3) := by decide +kernel
theorem dX3_quietest_22 : decode cX3_quietest 22 = .ok (.getfield 96, 3) := by decide +kernel
theorem dX3_quietest_25 : decode cX3_quietest 25 = .ok (.ifCond .ne 10, 3) := by decide +kernel
theorem dX3_quietest_28 : decode cX3_quietest 28 = .ok (.aload_n 0, 1) := by decide +kernel
theorem dX3_quietest_29 : decode cX3_quietest 29 = .ok (.ldc 157, 2) := by decide +kernel
theorem dX3_quietest_31 : decode cX3_quietest 31 = .ok (.invokevirtual 53, 3) := by decide +kernel
theorem dX3_quietest_34 : decode cX3_quietest 34 = .ok (.ireturn, 1) := by decide +kernel
theorem dX3_quietest_35 : decode cX3_quietest 35 = .ok (.aload_n 0, 1) := by decide +kernel
theorem dX3_quietest_36 : decode cX3_quietest 36 = .ok (.iload_n 1, 1) := by decide +kernel
theorem dX3_quietest_37 : decode cX3_quietest 37 = .ok (.invokevirtual 150, 3) := by decide +kernel
theorem dX3_quietest_40 : decode cX3_quietest 40 = .ok (.iconst 0, 1) := by decide +kernel
theorem dX3_quietest_41 : decode cX3_quietest 41 = .ok (.istore_n 2, 1) := by decide +kernel
theorem dX3_quietest_42 : decode cX3_quietest 42 = .ok (.iconst 1, 1) := by decide +kernel
theorem dX3_quietest_43 : decode cX3_quietest 43 = .ok (.istore_n 3, 1) := by decide +kernel
theorem dX3_quietest_44 : decode cX3_quietest 44 = .ok (.iload_n 3, 1) := by decide +kernel
theorem dX3_quietest_45 : decode cX3_quietest 45 = .ok (.aload_n 0, 1) := by decide +kernel
theorem dX3_quietest_46 : decode cX3_quietest 46 = .ok (.getfield 19, 3) := by decide +kernel
theorem dX3_quietest_49 : decode cX3_quietest 49 = .ok (.getfield 96, 3) := by decide +kernel
theorem dX3_quietest_52 : decode cX3_quietest 52 = .ok (.if_icmp .ge 32, 3) := by decide +kernel
theorem dX3_quietest_55 : decode cX3_quietest 55 = .ok (.aload_n 0, 1) := by decide +kernel
theorem dX3_quietest_56 : decode cX3_quietest 56 = .ok (.getfield 19, 3) := by decide +kernel
theorem dX3_quietest_59 : decode cX3_quietest 59 = .ok (.getfield 113, 3) := by decide +kernel
theorem dX3_quietest_62 : decode cX3_quietest 62 = .ok (.iload_n 3, 1) := by decide +kernel
theorem dX3_quietest_63 : decode cX3_quietest 63 = .ok (.iaload, 1) := by decide +kernel
theorem dX3_quietest_64 : decode cX3_quietest 64 = .ok (.aload_n 0, 1) := by decide +kernel
theorem dX3_quietest_65 : decode cX3_quietest 65 = .ok (.getfield 19, 3) := by decide +kernel
theorem dX3_quietest_68 : decode cX3_quietest 68 = .ok (.getfield 113, 3) := by decide +kernel
theorem dX3_quietest_71 : decode cX3_quietest 71 = .ok (.iload_n 2, 1) := by decide +kernel
theorem dX3_quietest_72 : decode cX3_quietest 72 = .ok (.iaload, 1) := by decide +kernel
theorem dX3_quietest_73 : decode cX3_quietest 73 = .ok (.if_icmp .le 5, 3) := by decide +kernel
theorem dX3_quietest_76 : decode cX3_quietest 76 = .ok (.iload_n 3, 1) := by decide +kernel
theorem dX3_quietest_77 : decode cX3_quietest 77 = .ok (.istore_n 2, 1) := by decide +kernel
theorem dX3_quietest_78 : decode cX3_quietest 78 = .ok (.iinc 3 1, 3) := by decide +kernel
theorem dX3_quietest_81 : decode cX3_quietest 81 = .ok (.goto (-37), 3) := by decide +kernel
theorem dX3_quietest_84 : decode cX3_quietest 84 = .ok (.iload_n 2, 1) := by decide +kernel
theorem dX3_quietest_85 : decode cX3_quietest 85 = .ok (.ireturn, 1) := by decide +kernel
set_option maxRecDepth 20000 in
theorem ggX3_feed_X3_isWithin : GoodIn wsX3_feed wsX3_isWithin := goodIn_r _ [8] (by decide +kernel) (by decide +kernel)
set_option maxRecDepth 20000 in
theorem gX3_feed_X3_isWithin : GoodIn wsX3_feed (va_wsS RX3 48 yX3_isWithin wsX3_isWithin) := goodIn_app (goodIn_of _ (by decide +kernel)) ggX3_feed_X3_isWithin
set_option maxRecDepth 20000 in
theorem ggX3_feed_X3_found : GoodIn wsX3_feed wsX3_found := goodIn_r _ [12, 1, 13, 5, 6, 7, 8, 21, 22, 23, 24, 25, 26, 27] (by decide +kernel) (by decide +kernel)
set_option maxRecDepth 20000 in
theorem gX3_feed_X3_found : GoodIn wsX3_feed (wsV RX3 53 RX3 yX3_found wsX3_found) := goodIn_app (goodIn_of _ (by decide +kernel)) ggX3_feed_X3_found
set_option maxRecDepth 20000 in
theorem ggX3_feed_X1_add : GoodIn wsX3_feed wsX1_add := goodIn_r _ [18, 19, 20, 28, 29, 30, 31, 32, 33, 34] (by decide +kernel) (by decide +kernel)
set_option maxRecDepth 20000 in
theorem gX3_feed_X1_add : GoodIn wsX3_feed (wsV RX3 174 RX1 yX1_add wsX1_add) := goodIn_app (goodIn_of _ (by decide +kernel)) ggX3_feed_X1_add
theorem dX3_feed_0 : decode cX3_feed 0 = .ok (.iload_n 2, 1) := by decide +kernel
theorem dX3_feed_1 : decode cX3_feed 1 = .ok (.iconst 1, 1) := by decide +kernel
theorem dX3_feed_2 : decode cX3_feed 2 = .ok (.iconst 4, 1) := by decide +kernel
theorem dX3_feed_3 : decode cX3_feed 3 = .ok (.invokestatic 48, 3) := by decide +kernel
theorem dX3_feed_6 : decode cX3_feed 6 = .ok (.ifCond .ne 10, 3) := by decide +kernel
theorem dX3_feed_9 : decode cX3_feed 9 = .ok (.aload_n 0, 1) := by decide +kernel
theorem dX3_feed_10 : decode cX3_feed 10 = .ok (.ldc 52, 2) := by decide +kernel
theorem dX3_feed_12 : decode cX3_feed 12 = .ok (.invokevirtual 53, 3) := by decide +kernel
theorem dX3_feed_15 : decode cX3_feed 15 = .ok (.ireturn, 1) := by decide +kernel
theorem dX3_feed_16 : decode cX3_feed 16 = .ok (.aload_n 0, 1) := by decide +kernel
theorem dX3_feed_17 : decode cX3_feed 17 = .ok (.getfield 25, 3) := by decide +kernel
theorem dX3_feed_20 : decode cX3_feed 20 = .ok (.getfield 171, 3) := by decide +kernel
theorem dX3_feed_23 : decode cX3_feed 23 = .ok (.iload_n 2, 1) := by decide +kernel
theorem dX3_feed_24 : decode cX3_feed 24 = .ok (.iadd, 1) := by decide +kernel
theorem dX3_feed_25 : decode cX3_feed 25 = .ok (.bipush 120, 2) := by decide +kernel
theorem dX3_feed_27 : decode cX3_feed 27 = .ok (.if_icmp .le 10, 3) := by decide +kernel
theorem dX3_feed_30 : decode cX3_feed 30 = .ok (.aload_n 0, 1) := by decide +kernel
theorem dX3_feed_31 : decode cX3_feed 31 = .ok (.ldc 99, 2) := by decide +kernel
theorem dX3_feed_33 : decode cX3_feed 33 = .ok (.invokevirtual 53, 3) := by decide +kernel
theorem dX3_feed_36 : decode cX3_feed 36 = .ok (.ireturn, 1) := by decide +kernel
theorem dX3_feed_37 : decode cX3_feed 37 = .ok (.iload_n 2, 1) := by decide +kernel
theorem dX3_feed_38 : decode cX3_feed 38 = .ok (.iconst 1, 1) := by decide +kernel
theorem dX3_feed_39 : decode cX3_feed 39 = .ok (.isub, 1) := by decide +kernel
theorem dX3_feed_40 : decode cX3_feed 40 = .ok (.istore_n 3, 1) := by decide +kernel
theorem dX3_feed_41 : decode cX3_feed 41 = .ok (.iload_n 3, 1) := by decide +kernel
theorem dX3_feed_42 : decode cX3_feed 42 = .ok (.ifCond .lt 26, 3) := by decide +kernel
theorem dX3_feed_45 : decode cX3_feed 45 = .ok (.aload_n 0, 1) := by decide +kernel
theorem dX3_feed_46 : decode cX3_feed 46 = .ok (.getfield 25, 3) := by decide +kernel
theorem dX3_feed_49 : decode cX3_feed 49 = .ok (.iload_n 1, 1) := by decide +kernel
theorem dX3_feed_50 : decode cX3_feed 50 = .ok (.bipush 8, 2) := by decide +kernel
theorem dX3_feed_52 : decode cX3_feed 52 = .ok (.iload_n 3, 1) := by decide +kernel
theorem dX3_feed_53 : decode cX3_feed 53 = .ok (.imul, 1) := by decide +kernel
theorem dX3_feed_54 : decode cX3_feed 54 = .ok (.ishr, 1) := by decide +kernel
theorem dX3_feed_55 : decode cX3_feed 55 = .ok (.sipush 255, 3) := by decide +kernel
theorem dX3_feed_58 : decode cX3_feed 58 = .ok (.iand, 1) := by decide +kernel
theorem dX3_feed_59 : decode cX3_feed 59 = .ok (.invokevirtual 174, 3) := by decide +kernel
theorem dX3_feed_62 : decode cX3_feed 62 = .ok (.iinc 3 (-1), 3) := by decide +kernel
theorem dX3_feed_65 : decode cX3_feed 65 = .ok (.goto (-24), 3) := by decide +kernel
theorem dX3_feed_68 : decode cX3_feed 68 = .ok (.aload_n 0, 1) := by decide +kernel
theorem dX3_feed_69 : decode cX3_feed 69 = .ok (.getfield 25, 3) := by decide +kernel
theorem dX3_feed_72 : decode cX3_feed 72 = .ok (.getfield 171, 3) := by decide +kernel
theorem dX3_feed_75 : decode cX3_feed 75 = .ok (.ireturn, 1) := by decide +kernel
theorem dX3_wipe_0 : decode cX3_wipe 0 = .ok (.aload_n 0, 1) := by decide +kernel
theorem dX3_wipe_1 : decode cX3_wipe 1 = .ok (.getfield 25, 3) := by decide +kernel
theorem dX3_wipe_4 : decode cX3_wipe 4 = .ok (.getfield 171, 3) := by decide +kernel
theorem dX3_wipe_7 : decode cX3_wipe 7 = .ok (.istore_n 1, 1) := by decide +kernel
theorem dX3_wipe_8 : decode cX3_wipe 8 = .ok (.aload_n 0, 1) := by decide +kernel
theorem dX3_wipe_9 : decode cX3_wipe 9 = .ok (.getfield 25, 3) := by decide +kernel
theorem dX3_wipe_12 : decode cX3_wipe 12 = .ok (.iconst 0, 1) := by decide +kernel
theorem dX3_wipe_13 : decode cX3_wipe 13 = .ok (.putfield 171, 3) := by decide +kernel
theorem dX3_wipe_16 : decode cX3_wipe 16 = .ok (.iload_n 1, 1) := by decide +kernel
theorem dX3_wipe_17 : decode cX3_wipe 17 = .ok (.ireturn, 1) := by decide +kernel
set_option maxRecDepth 20000 in
theorem ggX3_town_X2_become : GoodIn wsX3_town wsX2_become := goodIn_r _ [11, 12, 13, 14, 15, 16, 17, 18, 19, 20, 21, 22, 23, 24, 10, 25, 26, 27, 28, 29, 30, 165, 166, 167, 168, 169, 170, 171, 172, 173, 174, 175] (by decide +kernel) (by decide +kernel)
set_option maxRecDepth 20000 in
theorem gX3_town_X2_become : GoodIn wsX3_town (wsV RX3 165 RX2 yX2_become wsX2_become) := goodIn_app (goodIn_of _ (by decide +kernel)) ggX3_town_X2_become
set_option maxRecDepth 20000 in
theorem ggX3_town_X1_tells : GoodIn wsX3_town wsX1_tells := goodIn_r _ [35, 36, 37, 38, 39, 40, 41, 34, 42, 43, 44, 45, 46, 47, 48, 49, 50, 51, 52, 53, 54, 55, 56, 57, 58, 59, 60, 61, 62, 63, 64, 65, 66, 67, 68, 69, 70, 71, 72, 73, 74, 75, 76, 77, 78, 79, 80, 81, 82, 83, 84, 85, 86, 87, 88, 89, 90, 91, 92, 93, 94, 95, 96, 97, 98, 99, 100, 101, 102, 103, 104, 105, 106, 107, 108, 109, 110, 111, 112, 113, 114, 115, 116, 117, 118, 119, 120, 121, 122, 123, 124, 125, 126, 127, 128, 129, 130, 131, 132, 133, 134, 135, 136, 137, 10, 138, 12, 13, 18, 19, 20, 21, 139, 140, 141, 142, 143, 144, 145, 146, 147, 148, 149, 150, 158, 159, 160, 161, 162, 163, 164, 165, 166, 167, 168, 169, 170, 171, 172, 173, 174, 175] (by decide +kernel) (by decide +kernel)
set_option maxRecDepth 20000 in
theorem gX3_town_X1_tells : GoodIn wsX3_town (wsV RX3 176 RX1 yX1_tells wsX1_tells) := goodIn_app (goodIn_of _ (by decide +kernel)) ggX3_town_X1_tells
theorem dX3_town_0 : decode cX3_town 0 = .ok (.aload_n 0, 1) := by decide +kernel
theorem dX3_town_1 : decode cX3_town 1 = .ok (.getfield 19, 3) := by decide +kernel
theorem dX3_town_4 : decode cX3_town 4 = .ok (.aload_n 0, 1) := by decide +kernel
theorem dX3_town_5 : decode cX3_town 5 = .ok (.getfield 12, 3) := by decide +kernel
theorem dX3_town_8 : decode cX3_town 8 = .ok (.invokevirtual 165, 3) := by decide +kernel
theorem dX3_town_11 : decode cX3_town 11 = .ok (.aload_n 0, 1) := by decide +kernel
theorem dX3_town_12 : decode cX3_town 12 = .ok (.getfield 25, 3) := by decide +kernel
theorem dX3_town_15 : decode cX3_town 15 = .ok (.aload_n 0, 1) := by decide +kernel
theorem dX3_town_16 : decode cX3_town 16 = .ok (.getfield 19, 3) := by decide +kernel
theorem dX3_town_19 : decode cX3_town 19 = .ok (.invokevirtual 176, 3) := by decide +kernel
theorem dX3_town_22 : decode cX3_town 22 = .ok (.istore_n 1, 1) := by decide +kernel
theorem dX3_town_23 : decode cX3_town 23 = .ok (.aload_n 0, 1) := by decide +kernel
theorem dX3_town_24 : decode cX3_town 24 = .ok (.getfield 25, 3) := by decide +kernel
theorem dX3_town_27 : decode cX3_town 27 = .ok (.iconst 0, 1) := by decide +kernel
theorem dX3_town_28 : decode cX3_town 28 = .ok (.putfield 171, 3) := by decide +kernel
theorem dX3_town_31 : decode cX3_town 31 = .ok (.iload_n 1, 1) := by decide +kernel
theorem dX3_town_32 : decode cX3_town 32 = .ok (.ifCond .ne 13, 3) := by decide +kernel
theorem dX3_town_35 : decode cX3_town 35 = .ok (.iconst (-1), 1) := by decide +kernel
theorem dX3_town_36 : decode cX3_town 36 = .ok (.aload_n 0, 1) := by decide +kernel
theorem dX3_town_37 : decode cX3_town 37 = .ok (.getfield 25, 3) := by decide +kernel
theorem dX3_town_40 : decode cX3_town 40 = .ok (.getfield 180, 3) := by decide +kernel
theorem dX3_town_43 : decode cX3_town 43 = .ok (.isub, 1) := by decide +kernel
theorem dX3_town_44 : decode cX3_town 44 = .ok (.ireturn, 1) := by decide +kernel
theorem dX3_town_45 : decode cX3_town 45 = .ok (.aload_n 0, 1) := by decide +kernel
theorem dX3_town_46 : decode cX3_town 46 = .ok (.getfield 12, 3) := by decide +kernel
theorem dX3_town_49 : decode cX3_town 49 = .ok (.aload_n 0, 1) := by decide +kernel
theorem dX3_town_50 : decode cX3_town 50 = .ok (.getfield 19, 3) := by decide +kernel
theorem dX3_town_53 : decode cX3_town 53 = .ok (.invokevirtual 165, 3) := by decide +kernel
theorem dX3_town_56 : decode cX3_town 56 = .ok (.aload_n 0, 1) := by decide +kernel
theorem dX3_town_57 : decode cX3_town 57 = .ok (.getfield 25, 3) := by decide +kernel
theorem dX3_town_60 : decode cX3_town 60 = .ok (.getfield 183, 3) := by decide +kernel
theorem dX3_town_63 : decode cX3_town 63 = .ok (.ireturn, 1) := by decide +kernel
set_option maxRecDepth 20000 in
theorem ggX3_sheet_X3_isSheet : GoodIn wsX3_sheet wsX3_isSheet := goodIn_r _ [8, 9, 10, 7, 11] (by decide +kernel) (by decide +kernel)
set_option maxRecDepth 20000 in
theorem gX3_sheet_X3_isSheet : GoodIn wsX3_sheet (va_wsS RX3 186 yX3_isSheet wsX3_isSheet) := goodIn_app (goodIn_of _ (by decide +kernel)) ggX3_sheet_X3_isSheet
set_option maxRecDepth 20000 in
theorem ggX3_sheet_X3_isWidthOfNumbers : GoodIn wsX3_sheet wsX3_isWidthOfNumbers := goodIn_r _ [14] (by decide +kernel) (by decide +kernel)
set_option maxRecDepth 20000 in
theorem gX3_sheet_X3_isWidthOfNumbers : GoodIn wsX3_sheet (va_wsS RX3 189 yX3_isWidthOfNumbers wsX3_isWidthOfNumbers) := goodIn_app (goodIn_of _ (by decide +kernel)) ggX3_sheet_X3_isWidthOfNumbers
set_option maxRecDepth 20000 in
theorem ggX3_sheet_X3_found : GoodIn wsX3_sheet wsX3_found := goodIn_r _ [18, 1, 19, 9, 10, 7, 11, 28, 29, 30, 31, 32, 33, 34] (by decide +kernel) (by decide +kernel)
set_option maxRecDepth 20000 in
theorem gX3_sheet_X3_found : GoodIn wsX3_sheet (wsV RX3 53 RX3 yX3_found wsX3_found) := goodIn_app (goodIn_of _ (by decide +kernel)) ggX3_sheet_X3_found
set_option maxRecDepth 20000 in
theorem ggX3_sheet_X0_begin : GoodIn wsX3_sheet wsX0_begin := goodIn_r _ [24, 25, 26, 27, 35, 36, 37] (by decide +kernel) (by decide +kernel)
set_option maxRecDepth 20000 in
theorem gX3_sheet_X0_begin : GoodIn wsX3_sheet (wsV RX3 193 RX0 yX0_begin wsX0_begin) := goodIn_app (goodIn_of _ (by decide +kernel)) ggX3_sheet_X0_begin
theorem dX3_sheet_0 : decode cX3_sheet 0 = .ok (.iload_n 1, 1) := by decide +kernel
theorem dX3_sheet_1 : decode cX3_sheet 1 = .ok (.invokestatic 186, 3) := by decide +kernel
theorem dX3_sheet_4 : decode cX3_sheet 4 = .ok (.ifCond .eq 10, 3) := by decide +kernel
theorem dX3_sheet_7 : decode cX3_sheet 7 = .ok (.iload_n 2, 1) := by decide +kernel
theorem dX3_sheet_8 : decode cX3_sheet 8 = .ok (.invokestatic 189, 3) := by decide +kernel
theorem dX3_sheet_11 : decode cX3_sheet 11 = .ok (.ifCond .ne 10, 3) := by decide +kernel
theorem dX3_sheet_14 : decode cX3_sheet 14 = .ok (.aload_n 0, 1) := by decide +kernel
theorem dX3_sheet_15 : decode cX3_sheet 15 = .ok (.ldc 52, 2) := by decide +kernel
theorem dX3_sheet_17 : decode cX3_sheet 17 = .ok (.invokevirtual 53, 3) := by decide +kernel
theorem dX3_sheet_20 : decode cX3_sheet 20 = .ok (.ireturn, 1) := by decide +kernel
theorem dX3_sheet_21 : decode cX3_sheet 21 = .ok (.iload_n 3, 1) := by decide +kernel
theorem dX3_sheet_22 : decode cX3_sheet 22 = .ok (.ifCond .ge 10, 3) := by decide +kernel
theorem dX3_sheet_25 : decode cX3_sheet 25 = .ok (.aload_n 0, 1) := by decide +kernel
theorem dX3_sheet_26 : decode cX3_sheet 26 = .ok (.ldc 192, 2) := by decide +kernel
theorem dX3_sheet_28 : decode cX3_sheet 28 = .ok (.invokevirtual 53, 3) := by decide +kernel
theorem dX3_sheet_31 : decode cX3_sheet 31 = .ok (.ireturn, 1) := by decide +kernel
theorem dX3_sheet_32 : decode cX3_sheet 32 = .ok (.iload_n 3, 1) := by decide +kernel
theorem dX3_sheet_33 : decode cX3_sheet 33 = .ok (.bipush 40, 2) := by decide +kernel
theorem dX3_sheet_35 : decode cX3_sheet 35 = .ok (.if_icmp .le 10, 3) := by decide +kernel
theorem dX3_sheet_38 : decode cX3_sheet 38 = .ok (.aload_n 0, 1) := by decide +kernel
theorem dX3_sheet_39 : decode cX3_sheet 39 = .ok (.ldc 52, 2) := by decide +kernel
theorem dX3_sheet_41 : decode cX3_sheet 41 = .ok (.invokevirtual 53, 3) := by decide +kernel
theorem dX3_sheet_44 : decode cX3_sheet 44 = .ok (.ireturn, 1) := by decide +kernel
theorem dX3_sheet_45 : decode cX3_sheet 45 = .ok (.aload_n 0, 1) := by decide +kernel
theorem dX3_sheet_46 : decode cX3_sheet 46 = .ok (.getfield 31, 3) := by decide +kernel
theorem dX3_sheet_49 : decode cX3_sheet 49 = .ok (.iload_n 1, 1) := by decide +kernel
theorem dX3_sheet_50 : decode cX3_sheet 50 = .ok (.aaload, 1) := by decide +kernel
theorem dX3_sheet_51 : decode cX3_sheet 51 = .ok (.iload_n 2, 1) := by decide +kernel
theorem dX3_sheet_52 : decode cX3_sheet 52 = .ok (.iload_n 2, 1) := by decide +kernel
theorem dX3_sheet_53 : decode cX3_sheet 53 = .ok (.ifCond .ne 7, 3) := by decide +kernel
theorem dX3_sheet_56 : decode cX3_sheet 56 = .ok (.iconst 0, 1) := by decide +kernel
theorem dX3_sheet_57 : decode cX3_sheet 57 = .ok (.goto 4, 3) := by decide +kernel
theorem dX3_sheet_60 : decode cX3_sheet 60 = .ok (.iload_n 3, 1) := by decide +kernel
theorem dX3_sheet_61 : decode cX3_sheet 61 = .ok (.invokevirtual 193, 3) := by decide +kernel
theorem dX3_sheet_64 : decode cX3_sheet 64 = .ok (.aload_n 0, 1) := by decide +kernel
theorem dX3_sheet_65 : decode cX3_sheet 65 = .ok (.getfield 31, 3) := by decide +kernel
theorem dX3_sheet_68 : decode cX3_sheet 68 = .ok (.iload_n 1, 1) := by decide +kernel
theorem dX3_sheet_69 : decode cX3_sheet 69 = .ok (.aaload, 1) := by decide +kernel
theorem dX3_sheet_70 : decode cX3_sheet 70 = .ok (.getfield 196, 3) := by decide +kernel
theorem dX3_sheet_73 : decode cX3_sheet 73 = .ok (.ireturn, 1) := by decide +kernel
set_option maxRecDepth 20000 in
theorem ggX3_write_X3_isSheet : GoodIn wsX3_write wsX3_isSheet := goodIn_r _ [9, 10, 11, 8, 12] (by decide +kernel) (by decide +kernel)
set_option maxRecDepth 20000 in
theorem gX3_write_X3_isSheet : GoodIn wsX3_write (va_wsS RX3 186 yX3_isSheet wsX3_isSheet) := goodIn_app (goodIn_of _ (by decide +kernel)) ggX3_write_X3_isSheet
set_option maxRecDepth 20000 in
theorem ggX3_write_X3_found : GoodIn wsX3_write wsX3_found := goodIn_r _ [16, 1, 17, 10, 11, 8, 12, 29, 30, 31, 32, 33, 34, 35] (by decide +kernel) (by decide +kernel)
set_option maxRecDepth 20000 in
theorem gX3_write_X3_found : GoodIn wsX3_write (wsV RX3 53 RX3 yX3_found wsX3_found) := goodIn_app (goodIn_of _ (by decide +kernel)) ggX3_write_X3_found
set_option maxRecDepth 20000 in
theorem ggX3_write_X0_isMissing : GoodIn wsX3_write wsX0_isMissing := goodIn_r _ [22, 23, 36, 37, 38] (by decide +kernel) (by decide +kernel)
set_option maxRecDepth 20000 in
theorem gX3_write_X0_isMissing : GoodIn wsX3_write (wsV RX3 199 RX0 yX0_isMissing wsX0_isMissing) := goodIn_app (goodIn_of _ (by decide +kernel)) ggX3_write_X0_isMissing
set_option maxRecDepth 20000 in
theorem ggX3_write_X3_isWithin : GoodIn wsX3_write wsX3_isWithin := goodIn_r _ [12] (by decide +kernel) (by decide +kernel)
set_option maxRecDepth 20000 in
theorem gX3_write_X3_isWithin : GoodIn wsX3_write (va_wsS RX3 48 yX3_isWithin wsX3_isWithin) := goodIn_app (goodIn_of _ (by decide +kernel)) ggX3_write_X3_isWithin
set_option maxRecDepth 20000 in
theorem ggX3_write_X0_put : GoodIn wsX3_write wsX0_put := goodIn_r _ [27, 23, 28, 36, 37, 38] (by decide +kernel) (by decide +kernel)
set_option maxRecDepth 20000 in
theorem gX3_write_X0_put : GoodIn wsX3_write (wsV RX3 208 RX0 yX0_put wsX0_put) := goodIn_app (goodIn_of _ (by decide +kernel)) ggX3_write_X0_put
theorem dX3_write_0 : decode cX3_write 0 = .ok (.iload_n 1, 1) := by decide +kernel
theorem dX3_write_1 : decode cX3_write 1 = .ok (.invokestatic 186, 3) := by decide +kernel
theorem dX3_write_4 : decode cX3_write 4 = .ok (.ifCond .ne 11, 3) := by decide +kernel
theorem dX3_write_7 : decode cX3_write 7 = .ok (.aload_n 0, 1) := by decide +kernel
theorem dX3_write_8 : decode cX3_write 8 = .ok (.ldc 52, 2) := by decide +kernel
theorem dX3_write_10 : decode cX3_write 10 = .ok (.invokevirtual 53, 3) := by decide +kernel
theorem dX3_write_13 : decode cX3_write 13 = .ok (.i2l, 1) := by decide +kernel
theorem dX3_write_14 : decode cX3_write 14 = .ok (.lreturn, 1) := by decide +kernel
theorem dX3_write_15 : decode cX3_write 15 = .ok (.aload_n 0, 1) := by decide +kernel
theorem dX3_write_16 : decode cX3_write 16 = .ok (.getfield 31, 3) := by decide +kernel
theorem dX3_write_19 : decode cX3_write 19 = .ok (.iload_n 1, 1) := by decide +kernel
theorem dX3_write_20 : decode cX3_write 20 = .ok (.aaload, 1) := by decide +kernel
theorem dX3_write_21 : decode cX3_write 21 = .ok (.invokevirtual 199, 3) := by decide +kernel
theorem dX3_write_24 : decode cX3_write 24 = .ok (.ifCond .eq 11, 3) := by decide +kernel
theorem dX3_write_27 : decode cX3_write 27 = .ok (.aload_n 0, 1) := by decide +kernel
theorem dX3_write_28 : decode cX3_write 28 = .ok (.ldc 203, 2) := by decide +kernel
theorem dX3_write_30 : decode cX3_write 30 = .ok (.invokevirtual 53, 3) := by decide +kernel
theorem dX3_write_33 : decode cX3_write 33 = .ok (.i2l, 1) := by decide +kernel
theorem dX3_write_34 : decode cX3_write 34 = .ok (.lreturn, 1) := by decide +kernel
theorem dX3_write_35 : decode cX3_write 35 = .ok (.iload_n 2, 1) := by decide +kernel
theorem dX3_write_36 : decode cX3_write 36 = .ok (.iconst 0, 1) := by decide +kernel
theorem dX3_write_37 : decode cX3_write 37 = .ok (.aload_n 0, 1) := by decide +kernel
theorem dX3_write_38 : decode cX3_write 38 = .ok (.getfield 31, 3) := by decide +kernel
theorem dX3_write_41 : decode cX3_write 41 = .ok (.iload_n 1, 1) := by decide +kernel
theorem dX3_write_42 : decode cX3_write 42 = .ok (.aaload, 1) := by decide +kernel
theorem dX3_write_43 : decode cX3_write 43 = .ok (.getfield 196, 3) := by decide +kernel
theorem dX3_write_46 : decode cX3_write 46 = .ok (.iconst 1, 1) := by decide +kernel
theorem dX3_write_47 : decode cX3_write 47 = .ok (.isub, 1) := by decide +kernel
theorem dX3_write_48 : decode cX3_write 48 = .ok (.invokestatic 48, 3) := by decide +kernel
theorem dX3_write_51 : decode cX3_write 51 = .ok (.ifCond .ne 11, 3) := by decide +kernel
theorem dX3_write_54 : decode cX3_write 54 = .ok (.aload_n 0, 1) := by decide +kernel
theorem dX3_write_55 : decode cX3_write 55 = .ok (.ldc 52, 2) := by decide +kernel
theorem dX3_write_57 : decode cX3_write 57 = .ok (.invokevirtual 53, 3) := by decide +kernel
theorem dX3_write_60 : decode cX3_write 60 = .ok (.i2l, 1) := by decide +kernel
theorem dX3_write_61 : decode cX3_write 61 = .ok (.lreturn, 1) := by decide +kernel
theorem dX3_write_62 : decode cX3_write 62 = .ok (.aload_n 0, 1) := by decide +kernel
theorem dX3_write_63 : decode cX3_write 63 = .ok (.getfield 31, 3) := by decide +kernel
theorem dX3_write_66 : decode cX3_write 66 = .ok (.iload_n 1, 1) := by decide +kernel
theorem dX3_write_67 : decode cX3_write 67 = .ok (.aaload, 1) := by decide +kernel
theorem dX3_write_68 : decode cX3_write 68 = .ok (.getfield 204, 3) := by decide +kernel
theorem dX3_write_71 : decode cX3_write 71 = .ok (.iload_n 2, 1) := by decide +kernel
theorem dX3_write_72 : decode cX3_write 72 = .ok (.laload, 1) := by decide +kernel
theorem dX3_write_73 : decode cX3_write 73 = .ok (.lstore 5, 2) := by decide +kernel
theorem dX3_write_75 : decode cX3_write 75 = .ok (.aload_n 0, 1) := by decide +kernel
theorem dX3_write_76 : decode cX3_write 76 = .ok (.getfield 31, 3) := by decide +kernel
theorem dX3_write_79 : decode cX3_write 79 = .ok (.iload_n 1, 1) := by decide +kernel
theorem dX3_write_80 : decode cX3_write 80 = .ok (.aaload, 1) := by decide +kernel
theorem dX3_write_81 : decode cX3_write 81 = .ok (.iload_n 2, 1) := by decide +kernel
theorem dX3_write_82 : decode cX3_write 82 = .ok (.lload_n 3, 1) := by decide +kernel
theorem dX3_write_83 : decode cX3_write 83 = .ok (.invokevirtual 208, 3) := by decide +kernel
theorem dX3_write_86 : decode cX3_write 86 = .ok (.lload 5, 2) := by decide +kernel
theorem dX3_write_88 : decode cX3_write 88 = .ok (.lreturn, 1) := by decide +kernel
set_option maxRecDepth 20000 in
theorem ggX3_copy_X3_isSheet : GoodIn wsX3_copy wsX3_isSheet := goodIn_r _ [14, 15, 16, 13, 17] (by decide +kernel) (by decide +kernel)
set_option maxRecDepth 20000 in
theorem gX3_copy_X3_isSheet : GoodIn wsX3_copy (va_wsS RX3 186 yX3_isSheet wsX3_isSheet) := goodIn_app (goodIn_of _ (by decide +kernel)) ggX3_copy_X3_isSheet
set_option maxRecDepth 20000 in
theorem ggX3_copy_X3_found : GoodIn wsX3_copy wsX3_found := goodIn_r _ [21, 1, 22, 15, 16, 13, 17, 34, 35, 36, 37, 38, 39, 40] (by decide +kernel) (by decide +kernel)
set_option maxRecDepth 20000 in
theorem gX3_copy_X3_found : GoodIn wsX3_copy (wsV RX3 53 RX3 yX3_found wsX3_found) := goodIn_app (goodIn_of _ (by decide +kernel)) ggX3_copy_X3_found
set_option maxRecDepth 20000 in
theorem ggX3_copy_X0_isMissing : GoodIn wsX3_copy wsX0_isMissing := goodIn_r _ [27, 28, 41, 42, 43] (by decide +kernel) (by decide +kernel)
set_option maxRecDepth 20000 in
theorem gX3_copy_X0_isMissing : GoodIn wsX3_copy (wsV RX3 199 RX0 yX0_isMissing wsX0_isMissing) := goodIn_app (goodIn_of _ (by decide +kernel)) ggX3_copy_X0_isMissing
set_option maxRecDepth 20000 in
theorem ggX3_copy_X0_hasRow : GoodIn wsX3_copy wsX0_hasRow := goodIn_r _ [32, 33, 41, 42, 43] (by decide +kernel) (by decide +kernel)
set_option maxRecDepth 20000 in
theorem gX3_copy_X0_hasRow : GoodIn wsX3_copy (wsV RX3 215 RX0 yX0_hasRow wsX0_hasRow) := goodIn_app (goodIn_of _ (by decide +kernel)) ggX3_copy_X0_hasRow
theorem dX3_copy_0 : decode cX3_copy 0 = .ok (.iload_n 1, 1) := by decide +kernel
theorem dX3_copy_1 : decode cX3_copy 1 = .ok (.invokestatic 186, 3) := by decide +kernel
theorem dX3_copy_4 : decode cX3_copy 4 = .ok (.ifCond .eq 10, 3) := by decide +kernel
theorem dX3_copy_7 : decode cX3_copy 7 = .ok (.iload_n 3, 1) := by decide +kernel
theorem dX3_copy_8 : decode cX3_copy 8 = .ok (.invokestatic 186, 3) := by decide +kernel
theorem dX3_copy_11 : decode cX3_copy 11 = .ok (.ifCond .ne 10, 3) := by decide +kernel
theorem dX3_copy_14 : decode cX3_copy 14 = .ok (.aload_n 0, 1) := by decide +kernel
theorem dX3_copy_15 : decode cX3_copy 15 = .ok (.ldc 52, 2) := by decide +kernel
theorem dX3_copy_17 : decode cX3_copy 17 = .ok (.invokevirtual 53, 3) := by decide +kernel
theorem dX3_copy_20 : decode cX3_copy 20 = .ok (.ireturn, 1) := by decide +kernel
theorem dX3_copy_21 : decode cX3_copy 21 = .ok (.aload_n 0, 1) := by decide +kernel
theorem dX3_copy_22 : decode cX3_copy 22 = .ok (.getfield 31, 3) := by decide +kernel
theorem dX3_copy_25 : decode cX3_copy 25 = .ok (.iload_n 1, 1) := by decide +kernel
theorem dX3_copy_26 : decode cX3_copy 26 = .ok (.aaload, 1) := by decide +kernel
theorem dX3_copy_27 : decode cX3_copy 27 = .ok (.invokevirtual 199, 3) := by decide +kernel
theorem dX3_copy_30 : decode cX3_copy 30 = .ok (.ifCond .ne 15, 3) := by decide +kernel
theorem dX3_copy_33 : decode cX3_copy 33 = .ok (.aload_n 0, 1) := by decide +kernel
theorem dX3_copy_34 : decode cX3_copy 34 = .ok (.getfield 31, 3) := by decide +kernel
theorem dX3_copy_37 : decode cX3_copy 37 = .ok (.iload_n 3, 1) := by decide +kernel
theorem dX3_copy_38 : decode cX3_copy 38 = .ok (.aaload, 1) := by decide +kernel
theorem dX3_copy_39 : decode cX3_copy 39 = .ok (.invokevirtual 199, 3) := by decide +kernel
theorem dX3_copy_42 : decode cX3_copy 42 = .ok (.ifCond .eq 10, 3) := by decide +kernel
theorem dX3_copy_45 : decode cX3_copy 45 = .ok (.aload_n 0, 1) := by decide +kernel
theorem dX3_copy_46 : decode cX3_copy 46 = .ok (.ldc 203, 2) := by decide +kernel
theorem dX3_copy_48 : decode cX3_copy 48 = .ok (.invokevirtual 53, 3) := by decide +kernel
theorem dX3_copy_51 : decode cX3_copy 51 = .ok (.ireturn, 1) := by decide +kernel
theorem dX3_copy_52 : decode cX3_copy 52 = .ok (.aload_n 0, 1) := by decide +kernel
theorem dX3_copy_53 : decode cX3_copy 53 = .ok (.getfield 31, 3) := by decide +kernel
theorem dX3_copy_56 : decode cX3_copy 56 = .ok (.iload_n 1, 1) := by decide +kernel
theorem dX3_copy_57 : decode cX3_copy 57 = .ok (.aaload, 1) := by decide +kernel
theorem dX3_copy_58 : decode cX3_copy 58 = .ok (.getfield 212, 3) := by decide +kernel
theorem dX3_copy_61 : decode cX3_copy 61 = .ok (.aload_n 0, 1) := by decide +kernel
theorem dX3_copy_62 : decode cX3_copy 62 = .ok (.getfield 31, 3) := by decide +kernel
theorem dX3_copy_65 : decode cX3_copy 65 = .ok (.iload_n 3, 1) := by decide +kernel
theorem dX3_copy_66 : decode cX3_copy 66 = .ok (.aaload, 1) := by decide +kernel
theorem dX3_copy_67 : decode cX3_copy 67 = .ok (.getfield 212, 3) := by decide +kernel
theorem dX3_copy_70 : decode cX3_copy 70 = .ok (.if_icmp .eq 10, 3) := by decide +kernel
theorem dX3_copy_73 : decode cX3_copy 73 = .ok (.aload_n 0, 1) := by decide +kernel
theorem dX3_copy_74 : decode cX3_copy 74 = .ok (.ldc 139, 2) := by decide +kernel
theorem dX3_copy_76 : decode cX3_copy 76 = .ok (.invokevirtual 53, 3) := by decide +kernel
theorem dX3_copy_79 : decode cX3_copy 79 = .ok (.ireturn, 1) := by decide +kernel
theorem dX3_copy_80 : decode cX3_copy 80 = .ok (.aload_n 0, 1) := by decide +kernel
theorem dX3_copy_81 : decode cX3_copy 81 = .ok (.getfield 31, 3) := by decide +kernel
theorem dX3_copy_84 : decode cX3_copy 84 = .ok (.iload_n 1, 1) := by decide +kernel
theorem dX3_copy_85 : decode cX3_copy 85 = .ok (.aaload, 1) := by decide +kernel
theorem dX3_copy_86 : decode cX3_copy 86 = .ok (.iload_n 2, 1) := by decide +kernel
theorem dX3_copy_87 : decode cX3_copy 87 = .ok (.iload 5, 2) := by decide +kernel
theorem dX3_copy_89 : decode cX3_copy 89 = .ok (.invokevirtual 215, 3) := by decide +kernel
theorem dX3_copy_92 : decode cX3_copy 92 = .ok (.ifCond .eq 19, 3) := by decide +kernel
theorem dX3_copy_95 : decode cX3_copy 95 = .ok (.aload_n 0, 1) := by decide +kernel
theorem dX3_copy_96 : decode cX3_copy 96 = .ok (.getfield 31, 3) := by decide +kernel
theorem dX3_copy_99 : decode cX3_copy 99 = .ok (.iload_n 3, 1) := by decide +kernel
theorem dX3_copy_100 : decode cX3_copy 100 = .ok (.aaload, 1) := by decide +kernel
theorem dX3_copy_101 : decode cX3_copy 101 = .ok (.iload 4, 2) := by decide +kernel
theorem dX3_copy_103 : decode cX3_copy 103 = .ok (.iload 5, 2) := by decide +kernel
theorem dX3_copy_105 : decode cX3_copy 105 = .ok (.invokevirtual 215, 3) := by decide +kernel
theorem dX3_copy_108 : decode cX3_copy 108 = .ok (.ifCond .ne 10, 3) := by decide +kernel
theorem dX3_copy_111 : decode cX3_copy 111 = .ok (.aload_n 0, 1) := by decide +kernel
theorem dX3_copy_112 : decode cX3_copy 112 = .ok (.ldc 52, 2) := by decide +kernel
theorem dX3_copy_114 : decode cX3_copy 114 = .ok (.invokevirtual 53, 3) := by decide +kernel
theorem dX3_copy_117 : decode cX3_copy 117 = .ok (.ireturn, 1) := by decide +kernel
theorem dX3_copy_118 : decode cX3_copy 118 = .ok (.aload_n 0, 1) := by decide +kernel
theorem dX3_copy_119 : decode cX3_copy 119 = .ok (.getfield 31, 3) := by decide +kernel
theorem dX3_copy_122 : decode cX3_copy 122 = .ok (.iload_n 1, 1) := by decide +kernel
theorem dX3_copy_123 : decode cX3_copy 123 = .ok (.aaload, 1) := by decide +kernel
theorem dX3_copy_124 : decode cX3_copy 124 = .ok (.getfield 204, 3) := by decide +kernel
theorem dX3_copy_127 : decode cX3_copy 127 = .ok (.iload_n 2, 1) := by decide +kernel
theorem dX3_copy_128 : decode cX3_copy 128 = .ok (.aload_n 0, 1) := by decide +kernel
theorem dX3_copy_129 : decode cX3_copy 129 = .ok (.getfield 31, 3) := by decide +kernel
theorem dX3_copy_132 : decode cX3_copy 132 = .ok (.iload_n 3, 1) := by decide +kernel
theorem dX3_copy_133 : decode cX3_copy 133 = .ok (.aaload, 1) := by decide +kernel
theorem dX3_copy_134 : decode cX3_copy 134 = .ok (.getfield 204, 3) := by decide +kernel
theorem dX3_copy_137 : decode cX3_copy 137 = .ok (.iload 4, 2) := by decide +kernel
theorem dX3_copy_139 : decode cX3_copy 139 = .ok (.iload 5, 2) := by decide +kernel
theorem dX3_copy_141 : decode cX3_copy 141 = .ok (.invokestatic 218, 3) := by decide +kernel
theorem dX3_copy_144 : decode cX3_copy 144 = .ok (.iload 5, 2) := by decide +kernel
theorem dX3_copy_146 : decode cX3_copy 146 = .ok (.ireturn, 1) := by decide +kernel
set_option maxRecDepth 20000 in
theorem ggX3_lays_X3_isSheet : GoodIn wsX3_lays wsX3_isSheet := goodIn_r _ [12, 13, 14, 11, 15] (by decide +kernel) (by decide +kernel)
set_option maxRecDepth 20000 in
theorem gX3_lays_X3_isSheet : GoodIn wsX3_lays (va_wsS RX3 186 yX3_isSheet wsX3_isSheet) := goodIn_app (goodIn_of _ (by decide +kernel)) ggX3_lays_X3_isSheet
set_option maxRecDepth 20000 in
theorem ggX3_lays_X3_found : GoodIn wsX3_lays wsX3_found := goodIn_r _ [19, 1, 20, 13, 14, 11, 15, 27, 28, 29, 30, 31, 32, 33] (by decide +kernel) (by decide +kernel)
set_option maxRecDepth 20000 in
theorem gX3_lays_X3_found : GoodIn wsX3_lays (wsV RX3 53 RX3 yX3_found wsX3_found) := goodIn_app (goodIn_of _ (by decide +kernel)) ggX3_lays_X3_found
set_option maxRecDepth 20000 in
theorem ggX3_lays_X0_isMissing : GoodIn wsX3_lays wsX0_isMissing := goodIn_r _ [25, 26, 34, 35, 36] (by decide +kernel) (by decide +kernel)
set_option maxRecDepth 20000 in
theorem gX3_lays_X0_isMissing : GoodIn wsX3_lays (wsV RX3 199 RX0 yX0_isMissing wsX0_isMissing) := goodIn_app (goodIn_of _ (by decide +kernel)) ggX3_lays_X0_isMissing
theorem dX3_lays_0 : decode cX3_lays 0 = .ok (.iload_n 1, 1) := by decide +kernel
theorem dX3_lays_1 : decode cX3_lays 1 = .ok (.invokestatic 186, 3) := by decide +kernel
theorem dX3_lays_4 : decode cX3_lays 4 = .ok (.ifCond .ne 10, 3) := by decide +kernel
theorem dX3_lays_7 : decode cX3_lays 7 = .ok (.aload_n 0, 1) := by decide +kernel
theorem dX3_lays_8 : decode cX3_lays 8 = .ok (.ldc 52, 2) := by decide +kernel
theorem dX3_lays_10 : decode cX3_lays 10 = .ok (.invokevirtual 53, 3) := by decide +kernel
theorem dX3_lays_13 : decode cX3_lays 13 = .ok (.ireturn, 1) := by decide +kernel
theorem dX3_lays_14 : decode cX3_lays 14 = .ok (.aload_n 0, 1) := by decide +kernel
theorem dX3_lays_15 : decode cX3_lays 15 = .ok (.getfield 31, 3) := by decide +kernel
theorem dX3_lays_18 : decode cX3_lays 18 = .ok (.iload_n 1, 1) := by decide +kernel
theorem dX3_lays_19 : decode cX3_lays 19 = .ok (.aaload, 1) := by decide +kernel
theorem dX3_lays_20 : decode cX3_lays 20 = .ok (.invokevirtual 199, 3) := by decide +kernel
theorem dX3_lays_23 : decode cX3_lays 23 = .ok (.ifCond .eq 10, 3) := by decide +kernel
theorem dX3_lays_26 : decode cX3_lays 26 = .ok (.aload_n 0, 1) := by decide +kernel
theorem dX3_lays_27 : decode cX3_lays 27 = .ok (.ldc 203, 2) := by decide +kernel
theorem dX3_lays_29 : decode cX3_lays 29 = .ok (.invokevirtual 53, 3) := by decide +kernel
theorem dX3_lays_32 : decode cX3_lays 32 = .ok (.ireturn, 1) := by decide +kernel
theorem dX3_lays_33 : decode cX3_lays 33 = .ok (.iconst 0, 1) := by decide +kernel
theorem dX3_lays_34 : decode cX3_lays 34 = .ok (.istore_n 2, 1) := by decide +kernel
theorem dX3_lays_35 : decode cX3_lays 35 = .ok (.iconst 0, 1) := by decide +kernel
theorem dX3_lays_36 : decode cX3_lays 36 = .ok (.istore_n 3, 1) := by decide +kernel
theorem dX3_lays_37 : decode cX3_lays 37 = .ok (.iload_n 3, 1) := by decide +kernel
theorem dX3_lays_38 : decode cX3_lays 38 = .ok (.aload_n 0, 1) := by decide +kernel
theorem dX3_lays_39 : decode cX3_lays 39 = .ok (.getfield 31, 3) := by decide +kernel
theorem dX3_lays_42 : decode cX3_lays 42 = .ok (.iload_n 1, 1) := by decide +kernel
theorem dX3_lays_43 : decode cX3_lays 43 = .ok (.aaload, 1) := by decide +kernel
theorem dX3_lays_44 : decode cX3_lays 44 = .ok (.getfield 196, 3) := by decide +kernel
theorem dX3_lays_47 : decode cX3_lays 47 = .ok (.if_icmp .ge 59, 3) := by decide +kernel
theorem dX3_lays_50 : decode cX3_lays 50 = .ok (.iload_n 3, 1) := by decide +kernel
theorem dX3_lays_51 : decode cX3_lays 51 = .ok (.bipush 30, 2) := by decide +kernel
theorem dX3_lays_53 : decode cX3_lays 53 = .ok (.if_icmp .ge 53, 3) := by decide +kernel
theorem dX3_lays_56 : decode cX3_lays 56 = .ok (.aload_n 0, 1) := by decide +kernel
theorem dX3_lays_57 : decode cX3_lays 57 = .ok (.getfield 31, 3) := by decide +kernel
theorem dX3_lays_60 : decode cX3_lays 60 = .ok (.iload_n 1, 1) := by decide +kernel
theorem dX3_lays_61 : decode cX3_lays 61 = .ok (.aaload, 1) := by decide +kernel
theorem dX3_lays_62 : decode cX3_lays 62 = .ok (.getfield 204, 3) := by decide +kernel
theorem dX3_lays_65 : decode cX3_lays 65 = .ok (.iload_n 3, 1) := by decide +kernel
theorem dX3_lays_66 : decode cX3_lays 66 = .ok (.laload, 1) := by decide +kernel
theorem dX3_lays_67 : decode cX3_lays 67 = .ok (.lstore 4, 2) := by decide +kernel
theorem dX3_lays_69 : decode cX3_lays 69 = .ok (.lload 4, 2) := by decide +kernel
theorem dX3_lays_71 : decode cX3_lays 71 = .ok (.lconst 0, 1) := by decide +kernel
theorem dX3_lays_72 : decode cX3_lays 72 = .ok (.lcmp, 1) := by decide +kernel
theorem dX3_lays_73 : decode cX3_lays 73 = .ok (.ifCond .lt 27, 3) := by decide +kernel
theorem dX3_lays_76 : decode cX3_lays 76 = .ok (.lload 4, 2) := by decide +kernel
theorem dX3_lays_78 : decode cX3_lays 78 = .ok (.ldc2_w 224, 3) := by decide +kernel
theorem dX3_lays_81 : decode cX3_lays 81 = .ok (.lcmp, 1) := by decide +kernel
theorem dX3_lays_82 : decode cX3_lays 82 = .ok (.ifCond .gt 18, 3) := by decide +kernel
theorem dX3_lays_85 : decode cX3_lays 85 = .ok (.aload_n 0, 1) := by decide +kernel
theorem dX3_lays_86 : decode cX3_lays 86 = .ok (.getfield 12, 3) := by decide +kernel
theorem dX3_lays_89 : decode cX3_lays 89 = .ok (.getfield 57, 3) := by decide +kernel
theorem dX3_lays_92 : decode cX3_lays 92 = .ok (.iload_n 3, 1) := by decide +kernel
theorem dX3_lays_93 : decode cX3_lays 93 = .ok (.lload 4, 2) := by decide +kernel
theorem dX3_lays_95 : decode cX3_lays 95 = .ok (.l2i, 1) := by decide +kernel
theorem dX3_lays_96 : decode cX3_lays 96 = .ok (.iastore, 1) := by decide +kernel
theorem dX3_lays_97 : decode cX3_lays 97 = .ok (.iinc 2 1, 3) := by decide +kernel
theorem dX3_lays_100 : decode cX3_lays 100 = .ok (.iinc 3 1, 3) := by decide +kernel
theorem dX3_lays_103 : decode cX3_lays 103 = .ok (.goto (-66), 3) := by decide +kernel
theorem dX3_lays_106 : decode cX3_lays 106 = .ok (.iload_n 2, 1) := by decide +kernel
theorem dX3_lays_107 : decode cX3_lays 107 = .ok (.ireturn, 1) := by decide +kernel
set_option maxRecDepth 20000 in
theorem ggX3_book_X3_findingOfBook : GoodIn wsX3_book wsX3_findingOfBook := goodIn_r _ [10, 11, 3, 12, 13, 14, 9, 15, 16, 17, 18, 19, 20, 21, 22, 23, 24, 25, 26, 27, 28, 2, 29, 122, 123, 124, 125, 126, 127, 128, 129, 130, 131, 132, 133, 134, 135, 136, 137, 138, 139, 140, 141, 142] (by decide +kernel) (by decide +kernel)
set_option maxRecDepth 20000 in
theorem gX3_book_X3_findingOfBook : GoodIn wsX3_book (wsV RX3 226 RX3 yX3_findingOfBook wsX3_findingOfBook) := goodIn_app (goodIn_of _ (by decide +kernel)) ggX3_book_X3_findingOfBook
set_option maxRecDepth 20000 in
theorem ggX3_book_X3_found : GoodIn wsX3_book wsX3_found := goodIn_r _ [33, 11, 34, 16, 17, 9, 18, 122, 123, 124, 125, 126, 127, 128] (by decide +kernel) (by decide +kernel)
set_option maxRecDepth 20000 in
theorem gX3_book_X3_found : GoodIn wsX3_book (wsV RX3 53 RX3 yX3_found wsX3_found) := goodIn_app (goodIn_of _ (by decide +kernel)) ggX3_book_X3_found
set_option maxRecDepth 20000 in
theorem ggX3_book_X2_becomeWithOne : GoodIn wsX3_book wsX2_becomeWithOne := goodIn_r _ [39, 40, 41, 42, 43, 44, 45, 46, 47, 48, 38, 49, 50, 51, 52, 53, 54, 55, 56, 57, 58, 132, 133, 134, 135, 136, 137, 138, 139, 140, 141, 142] (by decide +kernel) (by decide +kernel)
set_option maxRecDepth 20000 in
theorem gX3_book_X2_becomeWithOne : GoodIn wsX3_book (wsV RX3 146 RX2 yX2_becomeWithOne wsX2_becomeWithOne) := goodIn_app (goodIn_of _ (by decide +kernel)) ggX3_book_X2_becomeWithOne
set_option maxRecDepth 20000 in
theorem ggX3_book_X0_put : GoodIn wsX3_book wsX0_put := goodIn_r _ [62, 24, 63, 129, 130, 131] (by decide +kernel) (by decide +kernel)
set_option maxRecDepth 20000 in
theorem gX3_book_X0_put : GoodIn wsX3_book (wsV RX3 208 RX0 yX0_put wsX0_put) := goodIn_app (goodIn_of _ (by decide +kernel)) ggX3_book_X0_put
set_option maxRecDepth 20000 in
theorem ggX3_book_X2_goOn : GoodIn wsX3_book wsX2_goOn := goodIn_r _ [67, 68, 69, 70, 38, 71, 40, 42, 45, 50, 72, 73, 74, 75, 51, 53, 52, 76, 77, 78, 79, 80, 81, 82, 83, 84, 85, 86, 87, 88, 89, 90, 91, 43, 92, 93, 94, 95, 44, 96, 97, 98, 99, 41, 100, 101, 102, 103, 104, 105, 106, 107, 108, 109, 110, 111, 17, 9, 18, 112, 113, 114, 115, 116, 117, 118, 119, 120, 121, 132, 133, 134, 135, 136, 137, 138, 139, 140, 141, 142] (by decide +kernel) (by decide +kernel)
set_option maxRecDepth 20000 in
theorem gX3_book_X2_goOn : GoodIn wsX3_book (wsV RX3 142 RX2 yX2_goOn wsX2_goOn) := goodIn_app (goodIn_of _ (by decide +kernel)) ggX3_book_X2_goOn
theorem dX3_book_0 : decode cX3_book 0 = .ok (.aload_n 0, 1) := by decide +kernel
theorem dX3_book_1 : decode cX3_book 1 = .ok (.iload_n 1, 1) := by decide +kernel
theorem dX3_book_2 : decode cX3_book 2 = .ok (.iload_n 2, 1) := by decide +kernel
theorem dX3_book_3 : decode cX3_book 3 = .ok (.invokevirtual 226, 3) := by decide +kernel
theorem dX3_book_6 : decode cX3_book 6 = .ok (.istore_n 3, 1) := by decide +kernel
theorem dX3_book_7 : decode cX3_book 7 = .ok (.iload_n 3, 1) := by decide +kernel
theorem dX3_book_8 : decode cX3_book 8 = .ok (.ifCond .eq 9, 3) := by decide +kernel
theorem dX3_book_11 : decode cX3_book 11 = .ok (.aload_n 0, 1) := by decide +kernel
theorem dX3_book_12 : decode cX3_book 12 = .ok (.iload_n 3, 1) := by decide +kernel
theorem dX3_book_13 : decode cX3_book 13 = .ok (.invokevirtual 53, 3) := by decide +kernel
theorem dX3_book_16 : decode cX3_book 16 = .ok (.ireturn, 1) := by decide +kernel
theorem dX3_book_17 : decode cX3_book 17 = .ok (.aload_n 0, 1) := by decide +kernel
theorem dX3_book_18 : decode cX3_book 18 = .ok (.getfield 19, 3) := by decide +kernel
theorem dX3_book_21 : decode cX3_book 21 = .ok (.aload_n 0, 1) := by decide +kernel
theorem dX3_book_22 : decode cX3_book 22 = .ok (.getfield 12, 3) := by decide +kernel
theorem dX3_book_25 : decode cX3_book 25 = .ok (.iload_n 2, 1) := by decide +kernel
theorem dX3_book_26 : decode cX3_book 26 = .ok (.invokevirtual 146, 3) := by decide +kernel
theorem dX3_book_29 : decode cX3_book 29 = .ok (.iconst 0, 1) := by decide +kernel
theorem dX3_book_30 : decode cX3_book 30 = .ok (.istore 4, 2) := by decide +kernel
theorem dX3_book_32 : decode cX3_book 32 = .ok (.iload 4, 2) := by decide +kernel
theorem dX3_book_34 : decode cX3_book 34 = .ok (.aload_n 0, 1) := by decide +kernel
theorem dX3_book_35 : decode cX3_book 35 = .ok (.getfield 31, 3) := by decide +kernel
theorem dX3_book_38 : decode cX3_book 38 = .ok (.iload_n 1, 1) := by decide +kernel
theorem dX3_book_39 : decode cX3_book 39 = .ok (.aaload, 1) := by decide +kernel
theorem dX3_book_40 : decode cX3_book 40 = .ok (.getfield 196, 3) := by decide +kernel
theorem dX3_book_43 : decode cX3_book 43 = .ok (.if_icmp .ge 38, 3) := by decide +kernel
theorem dX3_book_46 : decode cX3_book 46 = .ok (.aload_n 0, 1) := by decide +kernel
theorem dX3_book_47 : decode cX3_book 47 = .ok (.getfield 31, 3) := by decide +kernel
theorem dX3_book_50 : decode cX3_book 50 = .ok (.iload_n 1, 1) := by decide +kernel
theorem dX3_book_51 : decode cX3_book 51 = .ok (.aaload, 1) := by decide +kernel
theorem dX3_book_52 : decode cX3_book 52 = .ok (.iload 4, 2) := by decide +kernel
theorem dX3_book_54 : decode cX3_book 54 = .ok (.aload_n 0, 1) := by decide +kernel
theorem dX3_book_55 : decode cX3_book 55 = .ok (.getfield 19, 3) := by decide +kernel
theorem dX3_book_58 : decode cX3_book 58 = .ok (.getfield 110, 3) := by decide +kernel
theorem dX3_book_61 : decode cX3_book 61 = .ok (.iconst 0, 1) := by decide +kernel
theorem dX3_book_62 : decode cX3_book 62 = .ok (.iaload, 1) := by decide +kernel
theorem dX3_book_63 : decode cX3_book 63 = .ok (.i2l, 1) := by decide +kernel
theorem dX3_book_64 : decode cX3_book 64 = .ok (.invokevirtual 208, 3) := by decide +kernel
theorem dX3_book_67 : decode cX3_book 67 = .ok (.aload_n 0, 1) := by decide +kernel
theorem dX3_book_68 : decode cX3_book 68 = .ok (.getfield 19, 3) := by decide +kernel
theorem dX3_book_71 : decode cX3_book 71 = .ok (.iconst 1, 1) := by decide +kernel
theorem dX3_book_72 : decode cX3_book 72 = .ok (.invokevirtual 142, 3) := by decide +kernel
theorem dX3_book_75 : decode cX3_book 75 = .ok (.iinc 4 1, 3) := by decide +kernel
theorem dX3_book_78 : decode cX3_book 78 = .ok (.goto (-46), 3) := by decide +kernel
theorem dX3_book_81 : decode cX3_book 81 = .ok (.aload_n 0, 1) := by decide +kernel
theorem dX3_book_82 : decode cX3_book 82 = .ok (.getfield 31, 3) := by decide +kernel
theorem dX3_book_85 : decode cX3_book 85 = .ok (.iload_n 1, 1) := by decide +kernel
theorem dX3_book_86 : decode cX3_book 86 = .ok (.aaload, 1) := by decide +kernel
theorem dX3_book_87 : decode cX3_book 87 = .ok (.getfield 196, 3) := by decide +kernel
theorem dX3_book_90 : decode cX3_book 90 = .ok (.ireturn, 1) := by decide +kernel
set_option maxRecDepth 20000 in
theorem ggX3_read_X3_findingOfBook : GoodIn wsX3_read wsX3_findingOfBook := goodIn_r _ [6, 7, 1, 8, 9, 10, 5, 11, 12, 13, 14, 15, 16, 17, 18, 19, 20, 21, 22, 23, 24, 25, 26, 127, 128, 129, 130, 131, 132, 133, 134, 135, 136, 137, 138, 139, 140, 141, 142, 143, 144, 145, 146, 147] (by decide +kernel) (by decide +kernel)
set_option maxRecDepth 20000 in
theorem gX3_read_X3_findingOfBook : GoodIn wsX3_read (wsV RX3 226 RX3 yX3_findingOfBook wsX3_findingOfBook) := goodIn_app (goodIn_of _ (by decide +kernel)) ggX3_read_X3_findingOfBook
set_option maxRecDepth 20000 in
theorem ggX3_read_X3_found : GoodIn wsX3_read wsX3_found := goodIn_r _ [30, 7, 31, 12, 13, 5, 14, 127, 128, 129, 130, 131, 132, 133] (by decide +kernel) (by decide +kernel)
set_option maxRecDepth 20000 in
theorem gX3_read_X3_found : GoodIn wsX3_read (wsV RX3 53 RX3 yX3_found wsX3_found) := goodIn_app (goodIn_of _ (by decide +kernel)) ggX3_read_X3_found
set_option maxRecDepth 20000 in
theorem ggX3_read_X3_tryOne : GoodIn wsX3_read wsX3_tryOne := goodIn_r _ [35, 36, 25, 37, 38, 39, 40, 41, 42, 43, 44, 45, 46, 47, 48, 49, 50, 51, 52, 53, 54, 55, 56, 57, 58, 59, 60, 61, 62, 127, 128, 129, 130, 131, 132, 133, 137, 138, 139, 140, 141, 142, 143, 144, 145, 146, 147] (by decide +kernel) (by decide +kernel)
set_option maxRecDepth 20000 in
theorem gX3_read_X3_tryOne : GoodIn wsX3_read (wsV RX3 229 RX3 yX3_tryOne wsX3_tryOne) := goodIn_app (goodIn_of _ (by decide +kernel)) ggX3_read_X3_tryOne
set_option maxRecDepth 20000 in
theorem ggX3_read_X3_goesAsWritten : GoodIn wsX3_read wsX3_goesAsWritten := goodIn_r _ [66, 67, 68, 36, 38, 69, 70, 71, 42, 72, 73, 74, 75, 76, 44, 46, 49, 54, 77, 78, 79, 80, 55, 57, 56, 81, 82, 83, 84, 85, 86, 87, 88, 89, 90, 91, 92, 93, 94, 95, 96, 47, 97, 98, 99, 100, 48, 101, 102, 103, 104, 45, 105, 106, 107, 108, 109, 110, 111, 112, 113, 114, 115, 116, 13, 5, 14, 117, 118, 119, 120, 121, 122, 123, 124, 125, 126, 134, 135, 136, 127, 128, 129, 130, 131, 132, 133, 137, 138, 139, 140, 141, 142, 143, 144, 145, 146, 147] (by decide +kernel) (by decide +kernel)
set_option maxRecDepth 20000 in
theorem gX3_read_X3_goesAsWritten : GoodIn wsX3_read (wsV RX3 233 RX3 yX3_goesAsWritten wsX3_goesAsWritten) := goodIn_app (goodIn_of _ (by decide +kernel)) ggX3_read_X3_goesAsWritten
theorem dX3_read_0 : decode cX3_read 0 = .ok (.aload_n 0, 1) := by decide +kernel
theorem dX3_read_1 : decode cX3_read 1 = .ok (.iload_n 1, 1) := by decide +kernel
theorem dX3_read_2 : decode cX3_read 2 = .ok (.iload_n 2, 1) := by decide +kernel
theorem dX3_read_3 : decode cX3_read 3 = .ok (.invokevirtual 226, 3) := by decide +kernel
theorem dX3_read_6 : decode cX3_read 6 = .ok (.istore_n 3, 1) := by decide +kernel
theorem dX3_read_7 : decode cX3_read 7 = .ok (.iload_n 3, 1) := by decide +kernel
theorem dX3_read_8 : decode cX3_read 8 = .ok (.ifCond .eq 9, 3) := by decide +kernel
theorem dX3_read_11 : decode cX3_read 11 = .ok (.aload_n 0, 1) := by decide +kernel
theorem dX3_read_12 : decode cX3_read 12 = .ok (.iload_n 3, 1) := by decide +kernel
theorem dX3_read_13 : decode cX3_read 13 = .ok (.invokevirtual 53, 3) := by decide +kernel
theorem dX3_read_16 : decode cX3_read 16 = .ok (.ireturn, 1) := by decide +kernel
theorem dX3_read_17 : decode cX3_read 17 = .ok (.iconst 0, 1) := by decide +kernel
theorem dX3_read_18 : decode cX3_read 18 = .ok (.istore 4, 2) := by decide +kernel
theorem dX3_read_20 : decode cX3_read 20 = .ok (.iconst 0, 1) := by decide +kernel
theorem dX3_read_21 : decode cX3_read 21 = .ok (.istore 5, 2) := by decide +kernel
theorem dX3_read_23 : decode cX3_read 23 = .ok (.iload 5, 2) := by decide +kernel
theorem dX3_read_25 : decode cX3_read 25 = .ok (.bipush 6, 2) := by decide +kernel
theorem dX3_read_27 : decode cX3_read 27 = .ok (.if_icmp .ge 57, 3) := by decide +kernel
theorem dX3_read_30 : decode cX3_read 30 = .ok (.iconst 0, 1) := by decide +kernel
theorem dX3_read_31 : decode cX3_read 31 = .ok (.istore 6, 2) := by decide +kernel
theorem dX3_read_33 : decode cX3_read 33 = .ok (.iload 6, 2) := by decide +kernel
theorem dX3_read_35 : decode cX3_read 35 = .ok (.bipush 30, 2) := by decide +kernel
theorem dX3_read_37 : decode cX3_read 37 = .ok (.if_icmp .ge 41, 3) := by decide +kernel
theorem dX3_read_40 : decode cX3_read 40 = .ok (.aload_n 0, 1) := by decide +kernel
theorem dX3_read_41 : decode cX3_read 41 = .ok (.iload_n 2, 1) := by decide +kernel
theorem dX3_read_42 : decode cX3_read 42 = .ok (.iload 5, 2) := by decide +kernel
theorem dX3_read_44 : decode cX3_read 44 = .ok (.iload 6, 2) := by decide +kernel
theorem dX3_read_46 : decode cX3_read 46 = .ok (.invokevirtual 229, 3) := by decide +kernel
theorem dX3_read_49 : decode cX3_read 49 = .ok (.iload 4, 2) := by decide +kernel
theorem dX3_read_51 : decode cX3_read 51 = .ok (.aload_n 0, 1) := by decide +kernel
theorem dX3_read_52 : decode cX3_read 52 = .ok (.aload_n 0, 1) := by decide +kernel
theorem dX3_read_53 : decode cX3_read 53 = .ok (.getfield 31, 3) := by decide +kernel
theorem dX3_read_56 : decode cX3_read 56 = .ok (.iload_n 1, 1) := by decide +kernel
theorem dX3_read_57 : decode cX3_read 57 = .ok (.aaload, 1) := by decide +kernel
theorem dX3_read_58 : decode cX3_read 58 = .ok (.invokevirtual 233, 3) := by decide +kernel
theorem dX3_read_61 : decode cX3_read 61 = .ok (.ifCond .eq 7, 3) := by decide +kernel
theorem dX3_read_64 : decode cX3_read 64 = .ok (.iconst 1, 1) := by decide +kernel
theorem dX3_read_65 : decode cX3_read 65 = .ok (.goto 4, 3) := by decide +kernel
theorem dX3_read_68 : decode cX3_read 68 = .ok (.iconst 0, 1) := by decide +kernel
theorem dX3_read_69 : decode cX3_read 69 = .ok (.iadd, 1) := by decide +kernel
theorem dX3_read_70 : decode cX3_read 70 = .ok (.istore 4, 2) := by decide +kernel
theorem dX3_read_72 : decode cX3_read 72 = .ok (.iinc 6 1, 3) := by decide +kernel
theorem dX3_read_75 : decode cX3_read 75 = .ok (.goto (-42), 3) := by decide +kernel
theorem dX3_read_78 : decode cX3_read 78 = .ok (.iinc 5 1, 3) := by decide +kernel
theorem dX3_read_81 : decode cX3_read 81 = .ok (.goto (-58), 3) := by decide +kernel
theorem dX3_read_84 : decode cX3_read 84 = .ok (.iload 4, 2) := by decide +kernel
theorem dX3_read_86 : decode cX3_read 86 = .ok (.ireturn, 1) := by decide +kernel
set_option maxRecDepth 20000 in
theorem ggX3_image_X2_become : GoodIn wsX3_image wsX2_become := goodIn_r _ [8, 9, 10, 11, 12, 13, 14, 15, 16, 17, 18, 19, 20, 21, 7, 22, 23, 24, 25, 26, 27, 35, 36, 37, 38, 39, 40, 41, 42, 43, 44, 45] (by decide +kernel) (by decide +kernel)
set_option maxRecDepth 20000 in
theorem gX3_image_X2_become : GoodIn wsX3_image (wsV RX3 165 RX2 yX2_become wsX2_become) := goodIn_app (goodIn_of _ (by decide +kernel)) ggX3_image_X2_become
theorem dX3_image_0 : decode cX3_image 0 = .ok (.aload_n 0, 1) := by decide +kernel
theorem dX3_image_1 : decode cX3_image 1 = .ok (.getfield 16, 3) := by decide +kernel
theorem dX3_image_4 : decode cX3_image 4 = .ok (.aload_n 0, 1) := by decide +kernel
theorem dX3_image_5 : decode cX3_image 5 = .ok (.getfield 12, 3) := by decide +kernel
theorem dX3_image_8 : decode cX3_image 8 = .ok (.invokevirtual 165, 3) := by decide +kernel
theorem dX3_image_11 : decode cX3_image 11 = .ok (.aload_n 0, 1) := by decide +kernel
theorem dX3_image_12 : decode cX3_image 12 = .ok (.iconst 1, 1) := by decide +kernel
theorem dX3_image_13 : decode cX3_image 13 = .ok (.putfield 40, 3) := by decide +kernel
theorem dX3_image_16 : decode cX3_image 16 = .ok (.iconst 1, 1) := by decide +kernel
theorem dX3_image_17 : decode cX3_image 17 = .ok (.ireturn, 1) := by decide +kernel
set_option maxRecDepth 20000 in
theorem ggX3_undo_X3_found : GoodIn wsX3_undo wsX3_found := goodIn_r _ [10, 11, 12, 13, 14, 9, 15, 40, 41, 42, 43, 44, 45, 46] (by decide +kernel) (by decide +kernel)
set_option maxRecDepth 20000 in
theorem gX3_undo_X3_found : GoodIn wsX3_undo (wsV RX3 53 RX3 yX3_found wsX3_found) := goodIn_app (goodIn_of _ (by decide +kernel)) ggX3_undo_X3_found
set_option maxRecDepth 20000 in
theorem ggX3_undo_X2_become : GoodIn wsX3_undo wsX2_become := goodIn_r _ [20, 21, 22, 23, 24, 25, 26, 27, 28, 29, 30, 31, 32, 33, 19, 34, 35, 36, 37, 38, 39, 47, 48, 49, 50, 51, 52, 53, 54, 55, 56, 57] (by decide +kernel) (by decide +kernel)
set_option maxRecDepth 20000 in
theorem gX3_undo_X2_become : GoodIn wsX3_undo (wsV RX3 165 RX2 yX2_become wsX2_become) := goodIn_app (goodIn_of _ (by decide +kernel)) ggX3_undo_X2_become
theorem dX3_undo_0 : decode cX3_undo 0 = .ok (.aload_n 0, 1) := by decide +kernel
theorem dX3_undo_1 : decode cX3_undo 1 = .ok (.getfield 40, 3) := by decide +kernel
theorem dX3_undo_4 : decode cX3_undo 4 = .ok (.ifCond .ne 10, 3) := by decide +kernel
theorem dX3_undo_7 : decode cX3_undo 7 = .ok (.aload_n 0, 1) := by decide +kernel
theorem dX3_undo_8 : decode cX3_undo 8 = .ok (.ldc 157, 2) := by decide +kernel
theorem dX3_undo_10 : decode cX3_undo 10 = .ok (.invokevirtual 53, 3) := by decide +kernel
theorem dX3_undo_13 : decode cX3_undo 13 = .ok (.ireturn, 1) := by decide +kernel
theorem dX3_undo_14 : decode cX3_undo 14 = .ok (.aload_n 0, 1) := by decide +kernel
theorem dX3_undo_15 : decode cX3_undo 15 = .ok (.getfield 12, 3) := by decide +kernel
theorem dX3_undo_18 : decode cX3_undo 18 = .ok (.aload_n 0, 1) := by decide +kernel
theorem dX3_undo_19 : decode cX3_undo 19 = .ok (.getfield 16, 3) := by decide +kernel
theorem dX3_undo_22 : decode cX3_undo 22 = .ok (.invokevirtual 165, 3) := by decide +kernel
theorem dX3_undo_25 : decode cX3_undo 25 = .ok (.aload_n 0, 1) := by decide +kernel
theorem dX3_undo_26 : decode cX3_undo 26 = .ok (.getfield 12, 3) := by decide +kernel
theorem dX3_undo_29 : decode cX3_undo 29 = .ok (.getfield 96, 3) := by decide +kernel
theorem dX3_undo_32 : decode cX3_undo 32 = .ok (.ireturn, 1) := by decide +kernel
theorem dX3_tear_0 : decode cX3_tear 0 = .ok (.aload_n 0, 1) := by decide +kernel
theorem dX3_tear_1 : decode cX3_tear 1 = .ok (.getfield 40, 3) := by decide +kernel
theorem dX3_tear_4 : decode cX3_tear 4 = .ok (.ifCond .eq 7, 3) := by decide +kernel
theorem dX3_tear_7 : decode cX3_tear 7 = .ok (.iconst 1, 1) := by decide +kernel
theorem dX3_tear_8 : decode cX3_tear 8 = .ok (.goto 4, 3) := by decide +kernel
theorem dX3_tear_11 : decode cX3_tear 11 = .ok (.iconst 0, 1) := by decide +kernel
theorem dX3_tear_12 : decode cX3_tear 12 = .ok (.istore_n 1, 1) := by decide +kernel
theorem dX3_tear_13 : decode cX3_tear 13 = .ok (.aload_n 0, 1) := by decide +kernel
theorem dX3_tear_14 : decode cX3_tear 14 = .ok (.iconst 0, 1) := by decide +kernel
theorem dX3_tear_15 : decode cX3_tear 15 = .ok (.putfield 40, 3) := by decide +kernel
theorem dX3_tear_18 : decode cX3_tear 18 = .ok (.iload_n 1, 1) := by decide +kernel
theorem dX3_tear_19 : decode cX3_tear 19 = .ok (.ireturn, 1) := by decide +kernel
set_option maxRecDepth 20000 in
theorem ggX3_count_X2_noiseOfAll : GoodIn wsX3_count wsX2_noiseOfAll := goodIn_r _ [10, 11, 12, 13, 14, 36, 37, 38, 39, 40, 41, 42, 43, 44, 45, 46] (by decide +kernel) (by decide +kernel)
set_option maxRecDepth 20000 in
theorem gX3_count_X2_noiseOfAll : GoodIn wsX3_count (wsV RX3 237 RX2 yX2_noiseOfAll wsX2_noiseOfAll) := goodIn_app (goodIn_of _ (by decide +kernel)) ggX3_count_X2_noiseOfAll
set_option maxRecDepth 20000 in
theorem ggX3_count_X2_quietOfAll : GoodIn wsX3_count wsX2_quietOfAll := goodIn_r _ [18, 19, 20, 12, 13, 14, 36, 37, 38, 39, 40, 41, 42, 43, 44, 45, 46] (by decide +kernel) (by decide +kernel)
set_option maxRecDepth 20000 in
theorem gX3_count_X2_quietOfAll : GoodIn wsX3_count (wsV RX3 168 RX2 yX2_quietOfAll wsX2_quietOfAll) := goodIn_app (goodIn_of _ (by decide +kernel)) ggX3_count_X2_quietOfAll
set_option maxRecDepth 20000 in
theorem ggX3_count_X3_found : GoodIn wsX3_count wsX3_found := goodIn_r _ [24, 5, 25, 26, 27, 13, 28, 29, 30, 31, 32, 33, 34, 35] (by decide +kernel) (by decide +kernel)
set_option maxRecDepth 20000 in
theorem gX3_count_X3_found : GoodIn wsX3_count (wsV RX3 53 RX3 yX3_found wsX3_found) := goodIn_app (goodIn_of _ (by decide +kernel)) ggX3_count_X3_found
theorem dX3_count_0 : decode cX3_count 0 = .ok (.iload_n 1, 1) := by decide +kernel
theorem dX3_count_1 : decode cX3_count 1 = .ok (.tableswitch 63 0 3 #[31, 39, 47, 55], 31) := by decide +kernel
theorem dX3_count_32 : decode cX3_count 32 = .ok (.aload_n 0, 1) := by decide +kernel
theorem dX3_count_33 : decode cX3_count 33 = .ok (.getfield 12, 3) := by decide +kernel
theorem dX3_count_36 : decode cX3_count 36 = .ok (.getfield 96, 3) := by decide +kernel
theorem dX3_count_39 : decode cX3_count 39 = .ok (.ireturn, 1) := by decide +kernel
theorem dX3_count_40 : decode cX3_count 40 = .ok (.aload_n 0, 1) := by decide +kernel
theorem dX3_count_41 : decode cX3_count 41 = .ok (.getfield 25, 3) := by decide +kernel
theorem dX3_count_44 : decode cX3_count 44 = .ok (.getfield 171, 3) := by decide +kernel
theorem dX3_count_47 : decode cX3_count 47 = .ok (.ireturn, 1) := by decide +kernel
theorem dX3_count_48 : decode cX3_count 48 = .ok (.aload_n 0, 1) := by decide +kernel
theorem dX3_count_49 : decode cX3_count 49 = .ok (.getfield 12, 3) := by decide +kernel
theorem dX3_count_52 : decode cX3_count 52 = .ok (.invokevirtual 237, 3) := by decide +kernel
theorem dX3_count_55 : decode cX3_count 55 = .ok (.ireturn, 1) := by decide +kernel
theorem dX3_count_56 : decode cX3_count 56 = .ok (.aload_n 0, 1) := by decide +kernel
theorem dX3_count_57 : decode cX3_count 57 = .ok (.getfield 12, 3) := by decide +kernel
theorem dX3_count_60 : decode cX3_count 60 = .ok (.invokevirtual 168, 3) := by decide +kernel
theorem dX3_count_63 : decode cX3_count 63 = .ok (.ireturn, 1) := by decide +kernel
theorem dX3_count_64 : decode cX3_count 64 = .ok (.aload_n 0, 1) := by decide +kernel
theorem dX3_count_65 : decode cX3_count 65 = .ok (.ldc 52, 2) := by decide +kernel
theorem dX3_count_67 : decode cX3_count 67 = .ok (.invokevirtual 53, 3) := by decide +kernel
theorem dX3_count_70 : decode cX3_count 70 = .ok (.ireturn, 1) := by decide +kernel
set_option maxRecDepth 20000 in
theorem ggX3_status_X3_isWithin : GoodIn wsX3_status wsX3_isWithin := goodIn_r _ [6] (by decide +kernel) (by decide +kernel)
set_option maxRecDepth 20000 in
theorem gX3_status_X3_isWithin : GoodIn wsX3_status (va_wsS RX3 48 yX3_isWithin wsX3_isWithin) := goodIn_app (goodIn_of _ (by decide +kernel)) ggX3_status_X3_isWithin
set_option maxRecDepth 20000 in
theorem ggX3_status_X3_sum : GoodIn wsX3_status wsX3_sum := goodIn_r _ [9] (by decide +kernel) (by decide +kernel)
set_option maxRecDepth 20000 in
theorem gX3_status_X3_sum : GoodIn wsX3_status (va_wsS RX3 240 yX3_sum wsX3_sum) := goodIn_app (goodIn_of _ (by decide +kernel)) ggX3_status_X3_sum
set_option maxRecDepth 20000 in
theorem ggX3_status_X3_found : GoodIn wsX3_status wsX3_found := goodIn_r _ [13, 2, 1, 3, 4, 5, 6, 14, 15, 16, 17, 18, 19, 20] (by decide +kernel) (by decide +kernel)
set_option maxRecDepth 20000 in
theorem gX3_status_X3_found : GoodIn wsX3_status (wsV RX3 53 RX3 yX3_found wsX3_found) := goodIn_app (goodIn_of _ (by decide +kernel)) ggX3_status_X3_found
theorem dX3_status_0 : decode cX3_status 0 = .ok (.iload_n 1, 1) := by decide +kernel
theorem dX3_status_1 : decode cX3_status 1 = .ok (.iconst 0, 1) := by decide +kernel
theorem dX3_status_2 : decode cX3_status 2 = .ok (.bipush 6, 2) := by decide +kernel
theorem dX3_status_4 : decode cX3_status 4 = .ok (.invokestatic 48, 3) := by decide +kernel
theorem dX3_status_7 : decode cX3_status 7 = .ok (.ifCond .eq 10, 3) := by decide +kernel
theorem dX3_status_10 : decode cX3_status 10 = .ok (.aload_n 0, 1) := by decide +kernel
theorem dX3_status_11 : decode cX3_status 11 = .ok (.getfield 36, 3) := by decide +kernel
theorem dX3_status_14 : decode cX3_status 14 = .ok (.iload_n 1, 1) := by decide +kernel
theorem dX3_status_15 : decode cX3_status 15 = .ok (.iaload, 1) := by decide +kernel
theorem dX3_status_16 : decode cX3_status 16 = .ok (.ireturn, 1) := by decide +kernel
theorem dX3_status_17 : decode cX3_status 17 = .ok (.iload_n 1, 1) := by decide +kernel
theorem dX3_status_18 : decode cX3_status 18 = .ok (.iconst (-1), 1) := by decide +kernel
theorem dX3_status_19 : decode cX3_status 19 = .ok (.if_icmp .ne 15, 3) := by decide +kernel
theorem dX3_status_22 : decode cX3_status 22 = .ok (.aload_n 0, 1) := by decide +kernel
theorem dX3_status_23 : decode cX3_status 23 = .ok (.getfield 36, 3) := by decide +kernel
theorem dX3_status_26 : decode cX3_status 26 = .ok (.bipush 7, 2) := by decide +kernel
theorem dX3_status_28 : decode cX3_status 28 = .ok (.invokestatic 240, 3) := by decide +kernel
theorem dX3_status_31 : decode cX3_status 31 = .ok (.goto 9, 3) := by decide +kernel
theorem dX3_status_34 : decode cX3_status 34 = .ok (.aload_n 0, 1) := by decide +kernel
theorem dX3_status_35 : decode cX3_status 35 = .ok (.ldc 52, 2) := by decide +kernel
theorem dX3_status_37 : decode cX3_status 37 = .ok (.invokevirtual 53, 3) := by decide +kernel
theorem dX3_status_40 : decode cX3_status 40 = .ok (.ireturn, 1) := by decide +kernel
set_option maxRecDepth 20000 in
theorem ggX3_found_X3_isWithin : GoodIn wsX3_found wsX3_isWithin := goodIn_r _ [6] (by decide +kernel) (by decide +kernel)
set_option maxRecDepth 20000 in
theorem gX3_found_X3_isWithin : GoodIn wsX3_found (va_wsS RX3 48 yX3_isWithin wsX3_isWithin) := goodIn_app (goodIn_of _ (by decide +kernel)) ggX3_found_X3_isWithin
theorem dX3_found_0 : decode cX3_found 0 = .ok (.ldc 52, 2) := by decide +kernel
theorem dX3_found_2 : decode cX3_found 2 = .ok (.iload_n 1, 1) := by decide +kernel
theorem dX3_found_3 : decode cX3_found 3 = .ok (.isub, 1) := by decide +kernel
theorem dX3_found_4 : decode cX3_found 4 = .ok (.istore_n 2, 1) := by decide +kernel
theorem dX3_found_5 : decode cX3_found 5 = .ok (.iload_n 2, 1) := by decide +kernel
theorem dX3_found_6 : decode cX3_found 6 = .ok (.iconst 0, 1) := by decide +kernel
theorem dX3_found_7 : decode cX3_found 7 = .ok (.bipush 6, 2) := by decide +kernel
theorem dX3_found_9 : decode cX3_found 9 = .ok (.invokestatic 48, 3) := by decide +kernel
theorem dX3_found_12 : decode cX3_found 12 = .ok (.ifCond .eq 13, 3) := by decide +kernel
theorem dX3_found_15 : decode cX3_found 15 = .ok (.aload_n 0, 1) := by decide +kernel
