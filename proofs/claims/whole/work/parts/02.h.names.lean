theorem dX5_rowOf_76 : decode cX5_rowOf 76 = .ok (.if_icmp .eq 14, 3) := by decide +kernel
theorem dX5_rowOf_79 : decode cX5_rowOf 79 = .ok (.iload 7, 2) := by decide +kernel
theorem dX5_rowOf_81 : decode cX5_rowOf 81 = .ok (.iload_n 3, 1) := by decide +kernel
theorem dX5_rowOf_82 : decode cX5_rowOf 82 = .ok (.bipush 10, 2) := by decide +kernel
theorem dX5_rowOf_84 : decode cX5_rowOf 84 = .ok (.irem, 1) := by decide +kernel
theorem dX5_rowOf_85 : decode cX5_rowOf 85 = .ok (.iconst 1, 1) := by decide +kernel
theorem dX5_rowOf_86 : decode cX5_rowOf 86 = .ok (.isub, 1) := by decide +kernel
theorem dX5_rowOf_87 : decode cX5_rowOf 87 = .ok (.if_icmp .ne 56, 3) := by decide +kernel
theorem dX5_rowOf_90 : decode cX5_rowOf 90 = .ok (.iload 7, 2) := by decide +kernel
theorem dX5_rowOf_92 : decode cX5_rowOf 92 = .ok (.bipush (-9), 2) := by decide +kernel
theorem dX5_rowOf_94 : decode cX5_rowOf 94 = .ok (.if_icmp .ne 7, 3) := by decide +kernel
theorem dX5_rowOf_97 : decode cX5_rowOf 97 = .ok (.iload_n 3, 1) := by decide +kernel
theorem dX5_rowOf_98 : decode cX5_rowOf 98 = .ok (.goto 7, 3) := by decide +kernel
theorem dX5_rowOf_101 : decode cX5_rowOf 101 = .ok (.iload_n 3, 1) := by decide +kernel
theorem dX5_rowOf_102 : decode cX5_rowOf 102 = .ok (.bipush 10, 2) := by decide +kernel
theorem dX5_rowOf_104 : decode cX5_rowOf 104 = .ok (.idiv, 1) := by decide +kernel
theorem dX5_rowOf_105 : decode cX5_rowOf 105 = .ok (.istore 8, 2) := by decide +kernel
theorem dX5_rowOf_107 : decode cX5_rowOf 107 = .ok (.aload_n 0, 1) := by decide +kernel
theorem dX5_rowOf_108 : decode cX5_rowOf 108 = .ok (.iload_n 1, 1) := by decide +kernel
theorem dX5_rowOf_109 : decode cX5_rowOf 109 = .ok (.iconst 1, 1) := by decide +kernel
theorem dX5_rowOf_110 : decode cX5_rowOf 110 = .ok (.isub, 1) := by decide +kernel
theorem dX5_rowOf_111 : decode cX5_rowOf 111 = .ok (.iload 6, 2) := by decide +kernel
theorem dX5_rowOf_113 : decode cX5_rowOf 113 = .ok (.invokestatic 154, 3) := by decide +kernel
theorem dX5_rowOf_116 : decode cX5_rowOf 116 = .ok (.iload 8, 2) := by decide +kernel
theorem dX5_rowOf_118 : decode cX5_rowOf 118 = .ok (.iload 4, 2) := by decide +kernel
theorem dX5_rowOf_120 : decode cX5_rowOf 120 = .ok (.bipush 10, 2) := by decide +kernel
theorem dX5_rowOf_122 : decode cX5_rowOf 122 = .ok (.imul, 1) := by decide +kernel
theorem dX5_rowOf_123 : decode cX5_rowOf 123 = .ok (.iload 5, 2) := by decide +kernel
theorem dX5_rowOf_125 : decode cX5_rowOf 125 = .ok (.iadd, 1) := by decide +kernel
theorem dX5_rowOf_126 : decode cX5_rowOf 126 = .ok (.iconst 1, 1) := by decide +kernel
theorem dX5_rowOf_127 : decode cX5_rowOf 127 = .ok (.iadd, 1) := by decide +kernel
theorem dX5_rowOf_128 : decode cX5_rowOf 128 = .ok (.invokevirtual 160, 3) := by decide +kernel
theorem dX5_rowOf_131 : decode cX5_rowOf 131 = .ok (.istore 9, 2) := by decide +kernel
theorem dX5_rowOf_133 : decode cX5_rowOf 133 = .ok (.iload 9, 2) := by decide +kernel
theorem dX5_rowOf_135 : decode cX5_rowOf 135 = .ok (.bipush (-9), 2) := by decide +kernel
theorem dX5_rowOf_137 : decode cX5_rowOf 137 = .ok (.if_icmp .eq 6, 3) := by decide +kernel
theorem dX5_rowOf_140 : decode cX5_rowOf 140 = .ok (.iload 9, 2) := by decide +kernel
theorem dX5_rowOf_142 : decode cX5_rowOf 142 = .ok (.ireturn, 1) := by decide +kernel
theorem dX5_rowOf_143 : decode cX5_rowOf 143 = .ok (.iinc 5 1, 3) := by decide +kernel
theorem dX5_rowOf_146 : decode cX5_rowOf 146 = .ok (.goto (-106), 3) := by decide +kernel
theorem dX5_rowOf_149 : decode cX5_rowOf 149 = .ok (.bipush (-9), 2) := by decide +kernel
theorem dX5_rowOf_151 : decode cX5_rowOf 151 = .ok (.ireturn, 1) := by decide +kernel
set_option maxRecDepth 20000 in
theorem ggX5_rowsToPresent_X0_standingAfter : GoodIn wsX5_rowsToPresent wsX0_standingAfter := goodIn_r _ [7, 8, 9, 10, 6, 11, 12, 13, 14, 15, 16, 17, 18, 19, 20, 21, 22, 23, 24, 25, 26, 27, 28, 29, 30, 31, 32, 33, 34, 57, 58, 59, 60, 61] (by decide +kernel) (by decide +kernel)
set_option maxRecDepth 20000 in
theorem gX5_rowsToPresent_X0_standingAfter : GoodIn wsX5_rowsToPresent (wsV RX5 164 RX0 yX0_standingAfter wsX0_standingAfter) := goodIn_app (goodIn_of _ (by decide +kernel)) ggX5_rowsToPresent_X0_standingAfter
set_option maxRecDepth 20000 in
theorem ggX5_rowsToPresent_X5_rowsToPresent : GoodIn wsX5_rowsToPresent wsX5_rowsToPresent := goodIn_r _ [0, 1, 2, 3, 4, 5, 6, 7, 8, 9, 10, 11, 12, 13, 14, 15, 16, 17, 18, 19, 20, 21, 22, 23, 24, 25, 26, 27, 28, 29, 30, 31, 32, 33, 34, 35, 36, 37, 38, 39, 40, 41, 42, 43, 44, 45, 46, 47, 48, 49, 50, 51, 52, 53, 54, 55, 56, 57, 58, 59, 60, 61] (by decide +kernel) (by decide +kernel)
set_option maxRecDepth 20000 in
theorem gX5_rowsToPresent_X5_rowsToPresent : GoodIn wsX5_rowsToPresent (wsV RX5 195 RX5 yX5_rowsToPresent wsX5_rowsToPresent) := goodIn_app (goodIn_of _ (by decide +kernel)) ggX5_rowsToPresent_X5_rowsToPresent
theorem dX5_rowsToPresent_0 : decode cX5_rowsToPresent 0 = .ok (.iload_n 1, 1) := by decide +kernel
theorem dX5_rowsToPresent_1 : decode cX5_rowsToPresent 1 = .ok (.ifCond .le 9, 3) := by decide +kernel
theorem dX5_rowsToPresent_4 : decode cX5_rowsToPresent 4 = .ok (.iload_n 1, 1) := by decide +kernel
theorem dX5_rowsToPresent_5 : decode cX5_rowsToPresent 5 = .ok (.bipush 9, 2) := by decide +kernel
theorem dX5_rowsToPresent_7 : decode cX5_rowsToPresent 7 = .ok (.if_icmp .le 20, 3) := by decide +kernel
theorem dX5_rowsToPresent_10 : decode cX5_rowsToPresent 10 = .ok (.iload_n 2, 1) := by decide +kernel
theorem dX5_rowsToPresent_11 : decode cX5_rowsToPresent 11 = .ok (.aload_n 0, 1) := by decide +kernel
theorem dX5_rowsToPresent_12 : decode cX5_rowsToPresent 12 = .ok (.getfield 29, 3) := by decide +kernel
theorem dX5_rowsToPresent_15 : decode cX5_rowsToPresent 15 = .ok (.getfield 98, 3) := by decide +kernel
theorem dX5_rowsToPresent_18 : decode cX5_rowsToPresent 18 = .ok (.if_icmp .ne 7, 3) := by decide +kernel
theorem dX5_rowsToPresent_21 : decode cX5_rowsToPresent 21 = .ok (.iconst 1, 1) := by decide +kernel
theorem dX5_rowsToPresent_22 : decode cX5_rowsToPresent 22 = .ok (.goto 4, 3) := by decide +kernel
theorem dX5_rowsToPresent_25 : decode cX5_rowsToPresent 25 = .ok (.iconst 0, 1) := by decide +kernel
theorem dX5_rowsToPresent_26 : decode cX5_rowsToPresent 26 = .ok (.ireturn, 1) := by decide +kernel
theorem dX5_rowsToPresent_27 : decode cX5_rowsToPresent 27 = .ok (.aload_n 0, 1) := by decide +kernel
theorem dX5_rowsToPresent_28 : decode cX5_rowsToPresent 28 = .ok (.getfield 19, 3) := by decide +kernel
theorem dX5_rowsToPresent_31 : decode cX5_rowsToPresent 31 = .ok (.iload_n 2, 1) := by decide +kernel
theorem dX5_rowsToPresent_32 : decode cX5_rowsToPresent 32 = .ok (.iconst 0, 1) := by decide +kernel
theorem dX5_rowsToPresent_33 : decode cX5_rowsToPresent 33 = .ok (.aload_n 0, 1) := by decide +kernel
theorem dX5_rowsToPresent_34 : decode cX5_rowsToPresent 34 = .ok (.getfield 29, 3) := by decide +kernel
theorem dX5_rowsToPresent_37 : decode cX5_rowsToPresent 37 = .ok (.getfield 116, 3) := by decide +kernel
theorem dX5_rowsToPresent_40 : decode cX5_rowsToPresent 40 = .ok (.invokevirtual 164, 3) := by decide +kernel
theorem dX5_rowsToPresent_43 : decode cX5_rowsToPresent 43 = .ok (.istore_n 3, 1) := by decide +kernel
theorem dX5_rowsToPresent_44 : decode cX5_rowsToPresent 44 = .ok (.aload_n 0, 1) := by decide +kernel
theorem dX5_rowsToPresent_45 : decode cX5_rowsToPresent 45 = .ok (.getfield 19, 3) := by decide +kernel
theorem dX5_rowsToPresent_48 : decode cX5_rowsToPresent 48 = .ok (.iload_n 2, 1) := by decide +kernel
theorem dX5_rowsToPresent_49 : decode cX5_rowsToPresent 49 = .ok (.iconst 1, 1) := by decide +kernel
theorem dX5_rowsToPresent_50 : decode cX5_rowsToPresent 50 = .ok (.aload_n 0, 1) := by decide +kernel
theorem dX5_rowsToPresent_51 : decode cX5_rowsToPresent 51 = .ok (.getfield 29, 3) := by decide +kernel
theorem dX5_rowsToPresent_54 : decode cX5_rowsToPresent 54 = .ok (.getfield 116, 3) := by decide +kernel
theorem dX5_rowsToPresent_57 : decode cX5_rowsToPresent 57 = .ok (.invokevirtual 164, 3) := by decide +kernel
theorem dX5_rowsToPresent_60 : decode cX5_rowsToPresent 60 = .ok (.istore 4, 2) := by decide +kernel
theorem dX5_rowsToPresent_62 : decode cX5_rowsToPresent 62 = .ok (.aload_n 0, 1) := by decide +kernel
theorem dX5_rowsToPresent_63 : decode cX5_rowsToPresent 63 = .ok (.iload_n 1, 1) := by decide +kernel
theorem dX5_rowsToPresent_64 : decode cX5_rowsToPresent 64 = .ok (.iconst 1, 1) := by decide +kernel
theorem dX5_rowsToPresent_65 : decode cX5_rowsToPresent 65 = .ok (.isub, 1) := by decide +kernel
theorem dX5_rowsToPresent_66 : decode cX5_rowsToPresent 66 = .ok (.iload_n 3, 1) := by decide +kernel
theorem dX5_rowsToPresent_67 : decode cX5_rowsToPresent 67 = .ok (.invokevirtual 195, 3) := by decide +kernel
theorem dX5_rowsToPresent_70 : decode cX5_rowsToPresent 70 = .ok (.istore 5, 2) := by decide +kernel
theorem dX5_rowsToPresent_72 : decode cX5_rowsToPresent 72 = .ok (.iload 5, 2) := by decide +kernel
theorem dX5_rowsToPresent_74 : decode cX5_rowsToPresent 74 = .ok (.iload 4, 2) := by decide +kernel
theorem dX5_rowsToPresent_76 : decode cX5_rowsToPresent 76 = .ok (.iload_n 3, 1) := by decide +kernel
theorem dX5_rowsToPresent_77 : decode cX5_rowsToPresent 77 = .ok (.if_icmp .ne 8, 3) := by decide +kernel
theorem dX5_rowsToPresent_80 : decode cX5_rowsToPresent 80 = .ok (.iload 5, 2) := by decide +kernel
theorem dX5_rowsToPresent_82 : decode cX5_rowsToPresent 82 = .ok (.goto 12, 3) := by decide +kernel
theorem dX5_rowsToPresent_85 : decode cX5_rowsToPresent 85 = .ok (.aload_n 0, 1) := by decide +kernel
theorem dX5_rowsToPresent_86 : decode cX5_rowsToPresent 86 = .ok (.iload_n 1, 1) := by decide +kernel
theorem dX5_rowsToPresent_87 : decode cX5_rowsToPresent 87 = .ok (.iconst 1, 1) := by decide +kernel
theorem dX5_rowsToPresent_88 : decode cX5_rowsToPresent 88 = .ok (.isub, 1) := by decide +kernel
theorem dX5_rowsToPresent_89 : decode cX5_rowsToPresent 89 = .ok (.iload 4, 2) := by decide +kernel
theorem dX5_rowsToPresent_91 : decode cX5_rowsToPresent 91 = .ok (.invokevirtual 195, 3) := by decide +kernel
theorem dX5_rowsToPresent_94 : decode cX5_rowsToPresent 94 = .ok (.iadd, 1) := by decide +kernel
theorem dX5_rowsToPresent_95 : decode cX5_rowsToPresent 95 = .ok (.ireturn, 1) := by decide +kernel
theorem dX5_isReached_0 : decode cX5_isReached 0 = .ok (.iconst 0, 1) := by decide +kernel
theorem dX5_isReached_1 : decode cX5_isReached 1 = .ok (.istore_n 3, 1) := by decide +kernel
theorem dX5_isReached_2 : decode cX5_isReached 2 = .ok (.iload_n 3, 1) := by decide +kernel
theorem dX5_isReached_3 : decode cX5_isReached 3 = .ok (.iload_n 2, 1) := by decide +kernel
theorem dX5_isReached_4 : decode cX5_isReached 4 = .ok (.if_icmp .ge 28, 3) := by decide +kernel
theorem dX5_isReached_7 : decode cX5_isReached 7 = .ok (.iload_n 3, 1) := by decide +kernel
theorem dX5_isReached_8 : decode cX5_isReached 8 = .ok (.sipush 200, 3) := by decide +kernel
theorem dX5_isReached_11 : decode cX5_isReached 11 = .ok (.if_icmp .ge 21, 3) := by decide +kernel
theorem dX5_isReached_14 : decode cX5_isReached 14 = .ok (.aload_n 0, 1) := by decide +kernel
theorem dX5_isReached_15 : decode cX5_isReached 15 = .ok (.getfield 46, 3) := by decide +kernel
theorem dX5_isReached_18 : decode cX5_isReached 18 = .ok (.iload_n 3, 1) := by decide +kernel
theorem dX5_isReached_19 : decode cX5_isReached 19 = .ok (.iaload, 1) := by decide +kernel
theorem dX5_isReached_20 : decode cX5_isReached 20 = .ok (.iload_n 1, 1) := by decide +kernel
theorem dX5_isReached_21 : decode cX5_isReached 21 = .ok (.if_icmp .ne 5, 3) := by decide +kernel
theorem dX5_isReached_24 : decode cX5_isReached 24 = .ok (.iconst 1, 1) := by decide +kernel
theorem dX5_isReached_25 : decode cX5_isReached 25 = .ok (.ireturn, 1) := by decide +kernel
theorem dX5_isReached_26 : decode cX5_isReached 26 = .ok (.iinc 3 1, 3) := by decide +kernel
theorem dX5_isReached_29 : decode cX5_isReached 29 = .ok (.goto (-27), 3) := by decide +kernel
theorem dX5_isReached_32 : decode cX5_isReached 32 = .ok (.iconst 0, 1) := by decide +kernel
theorem dX5_isReached_33 : decode cX5_isReached 33 = .ok (.ireturn, 1) := by decide +kernel
set_option maxRecDepth 20000 in
theorem ggX5_canBeLodged_X0_has : GoodIn wsX5_canBeLodged wsX0_has := goodIn_r _ [6, 7, 20, 21, 22, 23, 24] (by decide +kernel) (by decide +kernel)
set_option maxRecDepth 20000 in
theorem gX5_canBeLodged_X0_has : GoodIn wsX5_canBeLodged (wsV RX5 81 RX0 yX0_has wsX0_has) := goodIn_app (goodIn_of _ (by decide +kernel)) ggX5_canBeLodged_X0_has
theorem dX5_canBeLodged_0 : decode cX5_canBeLodged 0 = .ok (.iload_n 1, 1) := by decide +kernel
theorem dX5_canBeLodged_1 : decode cX5_canBeLodged 1 = .ok (.bipush 9, 2) := by decide +kernel
theorem dX5_canBeLodged_3 : decode cX5_canBeLodged 3 = .ok (.if_icmp .eq 14, 3) := by decide +kernel
theorem dX5_canBeLodged_6 : decode cX5_canBeLodged 6 = .ok (.aload_n 0, 1) := by decide +kernel
theorem dX5_canBeLodged_7 : decode cX5_canBeLodged 7 = .ok (.getfield 19, 3) := by decide +kernel
theorem dX5_canBeLodged_10 : decode cX5_canBeLodged 10 = .ok (.iload_n 1, 1) := by decide +kernel
theorem dX5_canBeLodged_11 : decode cX5_canBeLodged 11 = .ok (.invokevirtual 81, 3) := by decide +kernel
theorem dX5_canBeLodged_14 : decode cX5_canBeLodged 14 = .ok (.ifCond .eq 7, 3) := by decide +kernel
theorem dX5_canBeLodged_17 : decode cX5_canBeLodged 17 = .ok (.iconst 1, 1) := by decide +kernel
theorem dX5_canBeLodged_18 : decode cX5_canBeLodged 18 = .ok (.goto 4, 3) := by decide +kernel
theorem dX5_canBeLodged_21 : decode cX5_canBeLodged 21 = .ok (.iconst 0, 1) := by decide +kernel
theorem dX5_canBeLodged_22 : decode cX5_canBeLodged 22 = .ok (.ireturn, 1) := by decide +kernel
theorem dX5_lodgedOf_0 : decode cX5_lodgedOf 0 = .ok (.iload_n 0, 1) := by decide +kernel
theorem dX5_lodgedOf_1 : decode cX5_lodgedOf 1 = .ok (.bipush 9, 2) := by decide +kernel
theorem dX5_lodgedOf_3 : decode cX5_lodgedOf 3 = .ok (.if_icmp .ne 8, 3) := by decide +kernel
theorem dX5_lodgedOf_6 : decode cX5_lodgedOf 6 = .ok (.bipush (-9), 2) := by decide +kernel
theorem dX5_lodgedOf_8 : decode cX5_lodgedOf 8 = .ok (.goto 4, 3) := by decide +kernel
theorem dX5_lodgedOf_11 : decode cX5_lodgedOf 11 = .ok (.iload_n 0, 1) := by decide +kernel
theorem dX5_lodgedOf_12 : decode cX5_lodgedOf 12 = .ok (.ireturn, 1) := by decide +kernel
set_option maxRecDepth 20000 in
theorem ggX5_leftAtWorst_J7_fill_53178 : GoodIn wsX5_leftAtWorst wsJ7_fill_53178 := goodIn_r _ [11] (by decide +kernel) (by decide +kernel)
set_option maxRecDepth 20000 in
theorem gX5_leftAtWorst_J7_fill_53178 : GoodIn wsX5_leftAtWorst (va_wsS RX5 214 yJ7_fill_53178 wsJ7_fill_53178) := goodIn_app (goodIn_of _ (by decide +kernel)) ggX5_leftAtWorst_J7_fill_53178
set_option maxRecDepth 20000 in
theorem ggX5_leftAtWorst_X5_canBeLodged : GoodIn wsX5_leftAtWorst wsX5_canBeLodged := goodIn_r _ [16, 3, 17, 18, 19, 20, 21, 22, 62, 63, 64, 65, 66, 67, 68, 69, 70, 71, 72, 73, 74, 75, 76, 77, 78] (by decide +kernel) (by decide +kernel)
set_option maxRecDepth 20000 in
theorem gX5_leftAtWorst_X5_canBeLodged : GoodIn wsX5_leftAtWorst (wsV RX5 177 RX5 yX5_canBeLodged wsX5_canBeLodged) := goodIn_app (goodIn_of _ (by decide +kernel)) ggX5_leftAtWorst_X5_canBeLodged
set_option maxRecDepth 20000 in
theorem ggX5_leftAtWorst_X5_lodgedOf : GoodIn wsX5_leftAtWorst wsX5_lodgedOf := goodIn_r _ [25] (by decide +kernel) (by decide +kernel)
set_option maxRecDepth 20000 in
theorem gX5_leftAtWorst_X5_lodgedOf : GoodIn wsX5_leftAtWorst (va_wsS RX5 180 yX5_lodgedOf wsX5_lodgedOf) := goodIn_app (goodIn_of _ (by decide +kernel)) ggX5_leftAtWorst_X5_lodgedOf
set_option maxRecDepth 20000 in
theorem ggX5_leftAtWorst_X4_standingBehind : GoodIn wsX5_leftAtWorst wsX4_standingBehind := goodIn_r _ [30, 31, 32, 33, 34, 35, 36, 20, 37, 22, 38, 39, 40, 41, 42, 18, 19, 21, 43, 44, 45, 46, 47, 48, 49, 50, 51, 52, 53, 54, 55, 56, 57, 58, 59, 79, 80, 81, 74, 75, 76, 77, 78] (by decide +kernel) (by decide +kernel)
set_option maxRecDepth 20000 in
theorem gX5_leftAtWorst_X4_standingBehind : GoodIn wsX5_leftAtWorst (wsV RX5 183 RX4 yX4_standingBehind wsX4_standingBehind) := goodIn_app (goodIn_of _ (by decide +kernel)) ggX5_leftAtWorst_X4_standingBehind
set_option maxRecDepth 20000 in
theorem ggX5_leftAtWorst_X0_fall : GoodIn wsX5_leftAtWorst wsX0_fall := goodIn_r _ [37, 22, 38, 39, 40, 41, 42, 18, 19, 20, 21, 43, 44, 45, 46, 47, 48, 49, 50, 51, 52, 74, 75, 76, 77, 78] (by decide +kernel) (by decide +kernel)
set_option maxRecDepth 20000 in
theorem gX5_leftAtWorst_X0_fall : GoodIn wsX5_leftAtWorst (wsV RX5 119 RX0 yX0_fall wsX0_fall) := goodIn_app (goodIn_of _ (by decide +kernel)) ggX5_leftAtWorst_X0_fall
set_option maxRecDepth 20000 in
theorem ggX5_leftAtWorst_X2_comesOf : GoodIn wsX5_leftAtWorst wsX2_comesOf := goodIn_r _ [55] (by decide +kernel) (by decide +kernel)
set_option maxRecDepth 20000 in
theorem gX5_leftAtWorst_X2_comesOf : GoodIn wsX5_leftAtWorst (va_wsS RX5 126 yX2_comesOf wsX2_comesOf) := goodIn_app (goodIn_of _ (by decide +kernel)) ggX5_leftAtWorst_X2_comesOf
theorem dX5_leftAtWorst_0 : decode cX5_leftAtWorst 0 = .ok (.aload_n 0, 1) := by decide +kernel
theorem dX5_leftAtWorst_1 : decode cX5_leftAtWorst 1 = .ok (.getfield 50, 3) := by decide +kernel
theorem dX5_leftAtWorst_4 : decode cX5_leftAtWorst 4 = .ok (.iconst 0, 1) := by decide +kernel
theorem dX5_leftAtWorst_5 : decode cX5_leftAtWorst 5 = .ok (.invokestatic 214, 3) := by decide +kernel
theorem dX5_leftAtWorst_8 : decode cX5_leftAtWorst 8 = .ok (.iconst 0, 1) := by decide +kernel
theorem dX5_leftAtWorst_9 : decode cX5_leftAtWorst 9 = .ok (.istore_n 2, 1) := by decide +kernel
theorem dX5_leftAtWorst_10 : decode cX5_leftAtWorst 10 = .ok (.iconst 0, 1) := by decide +kernel
theorem dX5_leftAtWorst_11 : decode cX5_leftAtWorst 11 = .ok (.istore_n 3, 1) := by decide +kernel
theorem dX5_leftAtWorst_12 : decode cX5_leftAtWorst 12 = .ok (.iload_n 3, 1) := by decide +kernel
theorem dX5_leftAtWorst_13 : decode cX5_leftAtWorst 13 = .ok (.bipush 9, 2) := by decide +kernel
theorem dX5_leftAtWorst_15 : decode cX5_leftAtWorst 15 = .ok (.if_icmp .gt 107, 3) := by decide +kernel
theorem dX5_leftAtWorst_18 : decode cX5_leftAtWorst 18 = .ok (.aload_n 0, 1) := by decide +kernel
theorem dX5_leftAtWorst_19 : decode cX5_leftAtWorst 19 = .ok (.iload_n 3, 1) := by decide +kernel
theorem dX5_leftAtWorst_20 : decode cX5_leftAtWorst 20 = .ok (.invokevirtual 177, 3) := by decide +kernel
theorem dX5_leftAtWorst_23 : decode cX5_leftAtWorst 23 = .ok (.ifCond .eq 21, 3) := by decide +kernel
theorem dX5_leftAtWorst_26 : decode cX5_leftAtWorst 26 = .ok (.aload_n 0, 1) := by decide +kernel
theorem dX5_leftAtWorst_27 : decode cX5_leftAtWorst 27 = .ok (.getfield 42, 3) := by decide +kernel
theorem dX5_leftAtWorst_30 : decode cX5_leftAtWorst 30 = .ok (.aload_n 0, 1) := by decide +kernel
theorem dX5_leftAtWorst_31 : decode cX5_leftAtWorst 31 = .ok (.getfield 19, 3) := by decide +kernel
theorem dX5_leftAtWorst_34 : decode cX5_leftAtWorst 34 = .ok (.iload_n 3, 1) := by decide +kernel
theorem dX5_leftAtWorst_35 : decode cX5_leftAtWorst 35 = .ok (.invokestatic 180, 3) := by decide +kernel
theorem dX5_leftAtWorst_38 : decode cX5_leftAtWorst 38 = .ok (.invokevirtual 183, 3) := by decide +kernel
theorem dX5_leftAtWorst_41 : decode cX5_leftAtWorst 41 = .ok (.goto 4, 3) := by decide +kernel
theorem dX5_leftAtWorst_44 : decode cX5_leftAtWorst 44 = .ok (.iconst (-1), 1) := by decide +kernel
theorem dX5_leftAtWorst_45 : decode cX5_leftAtWorst 45 = .ok (.istore 4, 2) := by decide +kernel
theorem dX5_leftAtWorst_47 : decode cX5_leftAtWorst 47 = .ok (.iload 4, 2) := by decide +kernel
theorem dX5_leftAtWorst_49 : decode cX5_leftAtWorst 49 = .ok (.iconst (-1), 1) := by decide +kernel
theorem dX5_leftAtWorst_50 : decode cX5_leftAtWorst 50 = .ok (.if_icmp .eq 66, 3) := by decide +kernel
theorem dX5_leftAtWorst_53 : decode cX5_leftAtWorst 53 = .ok (.aload_n 0, 1) := by decide +kernel
theorem dX5_leftAtWorst_54 : decode cX5_leftAtWorst 54 = .ok (.getfield 19, 3) := by decide +kernel
theorem dX5_leftAtWorst_57 : decode cX5_leftAtWorst 57 = .ok (.iload 4, 2) := by decide +kernel
theorem dX5_leftAtWorst_59 : decode cX5_leftAtWorst 59 = .ok (.iload_n 1, 1) := by decide +kernel
theorem dX5_leftAtWorst_60 : decode cX5_leftAtWorst 60 = .ok (.iload_n 3, 1) := by decide +kernel
theorem dX5_leftAtWorst_61 : decode cX5_leftAtWorst 61 = .ok (.invokestatic 180, 3) := by decide +kernel
theorem dX5_leftAtWorst_64 : decode cX5_leftAtWorst 64 = .ok (.invokevirtual 119, 3) := by decide +kernel
theorem dX5_leftAtWorst_67 : decode cX5_leftAtWorst 67 = .ok (.invokestatic 126, 3) := by decide +kernel
theorem dX5_leftAtWorst_70 : decode cX5_leftAtWorst 70 = .ok (.istore 5, 2) := by decide +kernel
theorem dX5_leftAtWorst_72 : decode cX5_leftAtWorst 72 = .ok (.iload 5, 2) := by decide +kernel
theorem dX5_leftAtWorst_74 : decode cX5_leftAtWorst 74 = .ok (.ifCond .lt 15, 3) := by decide +kernel
theorem dX5_leftAtWorst_77 : decode cX5_leftAtWorst 77 = .ok (.iload 5, 2) := by decide +kernel
theorem dX5_leftAtWorst_79 : decode cX5_leftAtWorst 79 = .ok (.bipush 9, 2) := by decide +kernel
theorem dX5_leftAtWorst_81 : decode cX5_leftAtWorst 81 = .ok (.if_icmp .ge 8, 3) := by decide +kernel
theorem dX5_leftAtWorst_84 : decode cX5_leftAtWorst 84 = .ok (.iload 5, 2) := by decide +kernel
theorem dX5_leftAtWorst_86 : decode cX5_leftAtWorst 86 = .ok (.goto 5, 3) := by decide +kernel
theorem dX5_leftAtWorst_89 : decode cX5_leftAtWorst 89 = .ok (.bipush 9, 2) := by decide +kernel
theorem dX5_leftAtWorst_91 : decode cX5_leftAtWorst 91 = .ok (.istore 6, 2) := by decide +kernel
theorem dX5_leftAtWorst_93 : decode cX5_leftAtWorst 93 = .ok (.aload_n 0, 1) := by decide +kernel
theorem dX5_leftAtWorst_94 : decode cX5_leftAtWorst 94 = .ok (.getfield 50, 3) := by decide +kernel
theorem dX5_leftAtWorst_97 : decode cX5_leftAtWorst 97 = .ok (.iload 6, 2) := by decide +kernel
theorem dX5_leftAtWorst_99 : decode cX5_leftAtWorst 99 = .ok (.dup2, 1) := by decide +kernel
theorem dX5_leftAtWorst_100 : decode cX5_leftAtWorst 100 = .ok (.iaload, 1) := by decide +kernel
theorem dX5_leftAtWorst_101 : decode cX5_leftAtWorst 101 = .ok (.iconst 1, 1) := by decide +kernel
theorem dX5_leftAtWorst_102 : decode cX5_leftAtWorst 102 = .ok (.iadd, 1) := by decide +kernel
theorem dX5_leftAtWorst_103 : decode cX5_leftAtWorst 103 = .ok (.iastore, 1) := by decide +kernel
theorem dX5_leftAtWorst_104 : decode cX5_leftAtWorst 104 = .ok (.iload_n 2, 1) := by decide +kernel
theorem dX5_leftAtWorst_105 : decode cX5_leftAtWorst 105 = .ok (.aload_n 0, 1) := by decide +kernel
theorem dX5_leftAtWorst_106 : decode cX5_leftAtWorst 106 = .ok (.getfield 50, 3) := by decide +kernel
theorem dX5_leftAtWorst_109 : decode cX5_leftAtWorst 109 = .ok (.iload 6, 2) := by decide +kernel
theorem dX5_leftAtWorst_111 : decode cX5_leftAtWorst 111 = .ok (.iaload, 1) := by decide +kernel
theorem dX5_leftAtWorst_112 : decode cX5_leftAtWorst 112 = .ok (.invokestatic 220, 3) := by decide +kernel
theorem dX5_leftAtWorst_115 : decode cX5_leftAtWorst 115 = .ok (.istore_n 2, 1) := by decide +kernel
theorem dX5_leftAtWorst_116 : decode cX5_leftAtWorst 116 = .ok (.iinc 3 1, 3) := by decide +kernel
theorem dX5_leftAtWorst_119 : decode cX5_leftAtWorst 119 = .ok (.goto (-107), 3) := by decide +kernel
theorem dX5_leftAtWorst_122 : decode cX5_leftAtWorst 122 = .ok (.iload_n 2, 1) := by decide +kernel
theorem dX5_leftAtWorst_123 : decode cX5_leftAtWorst 123 = .ok (.ireturn, 1) := by decide +kernel
set_option maxRecDepth 20000 in
theorem ggX5_markBody_X5_markBody : GoodIn wsX5_markBody wsX5_markBody := goodIn_r _ [0, 1, 2, 3, 4, 5, 6, 7, 8, 9, 10, 11, 12, 13, 14, 15, 16, 17, 18, 19, 20, 21, 22, 23, 24, 25, 26, 27, 28, 29, 30, 31, 32, 33, 34, 35, 36, 37, 38, 39, 40, 41, 42, 43, 44, 45, 46, 47, 48, 49, 50, 51, 52] (by decide +kernel) (by decide +kernel)
set_option maxRecDepth 20000 in
theorem gX5_markBody_X5_markBody : GoodIn wsX5_markBody (wsV RX5 199 RX5 yX5_markBody wsX5_markBody) := goodIn_app (goodIn_of _ (by decide +kernel)) ggX5_markBody_X5_markBody
set_option maxRecDepth 20000 in
theorem ggX5_markBody_X0_turnOf : GoodIn wsX5_markBody wsX0_turnOf := goodIn_r _ [13, 14, 15, 16, 17, 12, 18, 19, 48, 49, 50, 51, 52] (by decide +kernel) (by decide +kernel)
set_option maxRecDepth 20000 in
theorem gX5_markBody_X0_turnOf : GoodIn wsX5_markBody (wsV RX5 95 RX0 yX0_turnOf wsX0_turnOf) := goodIn_app (goodIn_of _ (by decide +kernel)) ggX5_markBody_X0_turnOf
set_option maxRecDepth 20000 in
theorem ggX5_markBody_X1_atPart : GoodIn wsX5_markBody wsX1_atPart := goodIn_r _ [24, 25, 42, 43, 44, 45, 46, 47] (by decide +kernel) (by decide +kernel)
set_option maxRecDepth 20000 in
theorem gX5_markBody_X1_atPart : GoodIn wsX5_markBody (wsV RX5 107 RX1 yX1_atPart wsX1_atPart) := goodIn_app (goodIn_of _ (by decide +kernel)) ggX5_markBody_X1_atPart
set_option maxRecDepth 20000 in
theorem ggX5_markBody_X2_standAt : GoodIn wsX5_markBody wsX2_standAt := goodIn_r _ [29] (by decide +kernel) (by decide +kernel)
set_option maxRecDepth 20000 in
theorem gX5_markBody_X2_standAt : GoodIn wsX5_markBody (va_wsS RX5 101 yX2_standAt wsX2_standAt) := goodIn_app (goodIn_of _ (by decide +kernel)) ggX5_markBody_X2_standAt
theorem dX5_markBody_0 : decode cX5_markBody 0 = .ok (.iload_n 1, 1) := by decide +kernel
theorem dX5_markBody_1 : decode cX5_markBody 1 = .ok (.ifCond .lt 8, 3) := by decide +kernel
theorem dX5_markBody_4 : decode cX5_markBody 4 = .ok (.iload_n 1, 1) := by decide +kernel
theorem dX5_markBody_5 : decode cX5_markBody 5 = .ok (.iconst 5, 1) := by decide +kernel
theorem dX5_markBody_6 : decode cX5_markBody 6 = .ok (.if_icmp .le 5, 3) := by decide +kernel
theorem dX5_markBody_9 : decode cX5_markBody 9 = .ok (.iconst 0, 1) := by decide +kernel
theorem dX5_markBody_10 : decode cX5_markBody 10 = .ok (.ireturn, 1) := by decide +kernel
theorem dX5_markBody_11 : decode cX5_markBody 11 = .ok (.aload_n 0, 1) := by decide +kernel
theorem dX5_markBody_12 : decode cX5_markBody 12 = .ok (.dup, 1) := by decide +kernel
theorem dX5_markBody_13 : decode cX5_markBody 13 = .ok (.getfield 209, 3) := by decide +kernel
theorem dX5_markBody_16 : decode cX5_markBody 16 = .ok (.getstatic 223, 3) := by decide +kernel
theorem dX5_markBody_19 : decode cX5_markBody 19 = .ok (.iload_n 1, 1) := by decide +kernel
theorem dX5_markBody_20 : decode cX5_markBody 20 = .ok (.iaload, 1) := by decide +kernel
theorem dX5_markBody_21 : decode cX5_markBody 21 = .ok (.i2l, 1) := by decide +kernel
theorem dX5_markBody_22 : decode cX5_markBody 22 = .ok (.ladd, 1) := by decide +kernel
theorem dX5_markBody_23 : decode cX5_markBody 23 = .ok (.putfield 209, 3) := by decide +kernel
theorem dX5_markBody_26 : decode cX5_markBody 26 = .ok (.iload_n 1, 1) := by decide +kernel
theorem dX5_markBody_27 : decode cX5_markBody 27 = .ok (.tableswitch 98 1 5 #[33, 49, 58, 67, 82], 33) := by decide +kernel
theorem dX5_markBody_60 : decode cX5_markBody 60 = .ok (.aload_n 0, 1) := by decide +kernel
theorem dX5_markBody_61 : decode cX5_markBody 61 = .ok (.iconst 0, 1) := by decide +kernel
theorem dX5_markBody_62 : decode cX5_markBody 62 = .ok (.iload_n 2, 1) := by decide +kernel
theorem dX5_markBody_63 : decode cX5_markBody 63 = .ok (.invokevirtual 199, 3) := by decide +kernel
theorem dX5_markBody_66 : decode cX5_markBody 66 = .ok (.aload_n 0, 1) := by decide +kernel
theorem dX5_markBody_67 : decode cX5_markBody 67 = .ok (.getfield 19, 3) := by decide +kernel
theorem dX5_markBody_70 : decode cX5_markBody 70 = .ok (.iload_n 2, 1) := by decide +kernel
theorem dX5_markBody_71 : decode cX5_markBody 71 = .ok (.invokevirtual 95, 3) := by decide +kernel
theorem dX5_markBody_74 : decode cX5_markBody 74 = .ok (.iadd, 1) := by decide +kernel
theorem dX5_markBody_75 : decode cX5_markBody 75 = .ok (.ireturn, 1) := by decide +kernel
theorem dX5_markBody_76 : decode cX5_markBody 76 = .ok (.aload_n 0, 1) := by decide +kernel
theorem dX5_markBody_77 : decode cX5_markBody 77 = .ok (.iconst 0, 1) := by decide +kernel
theorem dX5_markBody_78 : decode cX5_markBody 78 = .ok (.iload_n 2, 1) := by decide +kernel
theorem dX5_markBody_79 : decode cX5_markBody 79 = .ok (.invokevirtual 199, 3) := by decide +kernel
theorem dX5_markBody_82 : decode cX5_markBody 82 = .ok (.iload_n 2, 1) := by decide +kernel
theorem dX5_markBody_83 : decode cX5_markBody 83 = .ok (.isub, 1) := by decide +kernel
theorem dX5_markBody_84 : decode cX5_markBody 84 = .ok (.ireturn, 1) := by decide +kernel
theorem dX5_markBody_85 : decode cX5_markBody 85 = .ok (.aload_n 0, 1) := by decide +kernel
theorem dX5_markBody_86 : decode cX5_markBody 86 = .ok (.iconst 1, 1) := by decide +kernel
theorem dX5_markBody_87 : decode cX5_markBody 87 = .ok (.iload_n 2, 1) := by decide +kernel
theorem dX5_markBody_88 : decode cX5_markBody 88 = .ok (.invokevirtual 199, 3) := by decide +kernel
theorem dX5_markBody_91 : decode cX5_markBody 91 = .ok (.iconst 2, 1) := by decide +kernel
theorem dX5_markBody_92 : decode cX5_markBody 92 = .ok (.imul, 1) := by decide +kernel
theorem dX5_markBody_93 : decode cX5_markBody 93 = .ok (.ireturn, 1) := by decide +kernel
theorem dX5_markBody_94 : decode cX5_markBody 94 = .ok (.aload_n 0, 1) := by decide +kernel
theorem dX5_markBody_95 : decode cX5_markBody 95 = .ok (.iconst 2, 1) := by decide +kernel
theorem dX5_markBody_96 : decode cX5_markBody 96 = .ok (.iload_n 2, 1) := by decide +kernel
theorem dX5_markBody_97 : decode cX5_markBody 97 = .ok (.invokevirtual 199, 3) := by decide +kernel
theorem dX5_markBody_100 : decode cX5_markBody 100 = .ok (.aload_n 0, 1) := by decide +kernel
theorem dX5_markBody_101 : decode cX5_markBody 101 = .ok (.getfield 29, 3) := by decide +kernel
theorem dX5_markBody_104 : decode cX5_markBody 104 = .ok (.getfield 113, 3) := by decide +kernel
theorem dX5_markBody_107 : decode cX5_markBody 107 = .ok (.iadd, 1) := by decide +kernel
theorem dX5_markBody_108 : decode cX5_markBody 108 = .ok (.ireturn, 1) := by decide +kernel
theorem dX5_markBody_109 : decode cX5_markBody 109 = .ok (.aload_n 0, 1) := by decide +kernel
theorem dX5_markBody_110 : decode cX5_markBody 110 = .ok (.iconst 0, 1) := by decide +kernel
theorem dX5_markBody_111 : decode cX5_markBody 111 = .ok (.iload_n 2, 1) := by decide +kernel
theorem dX5_markBody_112 : decode cX5_markBody 112 = .ok (.invokevirtual 199, 3) := by decide +kernel
theorem dX5_markBody_115 : decode cX5_markBody 115 = .ok (.aload_n 0, 1) := by decide +kernel
theorem dX5_markBody_116 : decode cX5_markBody 116 = .ok (.getfield 29, 3) := by decide +kernel
theorem dX5_markBody_119 : decode cX5_markBody 119 = .ok (.iload_n 2, 1) := by decide +kernel
theorem dX5_markBody_120 : decode cX5_markBody 120 = .ok (.invokevirtual 107, 3) := by decide +kernel
theorem dX5_markBody_123 : decode cX5_markBody 123 = .ok (.iadd, 1) := by decide +kernel
theorem dX5_markBody_124 : decode cX5_markBody 124 = .ok (.ireturn, 1) := by decide +kernel
theorem dX5_markBody_125 : decode cX5_markBody 125 = .ok (.aload_n 0, 1) := by decide +kernel
theorem dX5_markBody_126 : decode cX5_markBody 126 = .ok (.getfield 29, 3) := by decide +kernel
theorem dX5_markBody_129 : decode cX5_markBody 129 = .ok (.getfield 98, 3) := by decide +kernel
theorem dX5_markBody_132 : decode cX5_markBody 132 = .ok (.iload_n 2, 1) := by decide +kernel
theorem dX5_markBody_133 : decode cX5_markBody 133 = .ok (.invokestatic 101, 3) := by decide +kernel
theorem dX5_markBody_136 : decode cX5_markBody 136 = .ok (.ireturn, 1) := by decide +kernel
theorem dX6_init_0 : decode cX6_init 0 = .ok (.aload_n 0, 1) := by decide +kernel
theorem dX6_init_1 : decode cX6_init 1 = .ok (.invokespecial 1, 3) := by decide +kernel
theorem dX6_init_4 : decode cX6_init 4 = .ok (.aload_n 0, 1) := by decide +kernel
theorem dX6_init_5 : decode cX6_init 5 = .ok (.sipush 200, 3) := by decide +kernel
theorem dX6_init_8 : decode cX6_init 8 = .ok (.newarray .byte, 2) := by decide +kernel
theorem dX6_init_10 : decode cX6_init 10 = .ok (.putfield 7, 3) := by decide +kernel
theorem dX6_init_13 : decode cX6_init 13 = .ok (.aload_n 0, 1) := by decide +kernel
theorem dX6_init_14 : decode cX6_init 14 = .ok (.iconst 2, 1) := by decide +kernel
theorem dX6_init_15 : decode cX6_init 15 = .ok (.newarray .int, 2) := by decide +kernel
theorem dX6_init_17 : decode cX6_init 17 = .ok (.putfield 13, 3) := by decide +kernel
theorem dX6_init_20 : decode cX6_init 20 = .ok (.aload_n 0, 1) := by decide +kernel
theorem dX6_init_21 : decode cX6_init 21 = .ok (.bipush 18, 2) := by decide +kernel
theorem dX6_init_23 : decode cX6_init 23 = .ok (.newarray .int, 2) := by decide +kernel
theorem dX6_init_25 : decode cX6_init 25 = .ok (.putfield 17, 3) := by decide +kernel
theorem dX6_init_28 : decode cX6_init 28 = .ok (.aload_n 0, 1) := by decide +kernel
theorem dX6_init_29 : decode cX6_init 29 = .ok (.bipush 18, 2) := by decide +kernel
theorem dX6_init_31 : decode cX6_init 31 = .ok (.newarray .int, 2) := by decide +kernel
theorem dX6_init_33 : decode cX6_init 33 = .ok (.putfield 20, 3) := by decide +kernel
theorem dX6_init_36 : decode cX6_init 36 = .ok (.aload_n 0, 1) := by decide +kernel
theorem dX6_init_37 : decode cX6_init 37 = .ok (.bipush 18, 2) := by decide +kernel
theorem dX6_init_39 : decode cX6_init 39 = .ok (.newarray .int, 2) := by decide +kernel
theorem dX6_init_41 : decode cX6_init 41 = .ok (.putfield 23, 3) := by decide +kernel
theorem dX6_init_44 : decode cX6_init 44 = .ok (.aload_n 0, 1) := by decide +kernel
theorem dX6_init_45 : decode cX6_init 45 = .ok (.bipush 18, 2) := by decide +kernel
theorem dX6_init_47 : decode cX6_init 47 = .ok (.newarray .int, 2) := by decide +kernel
theorem dX6_init_49 : decode cX6_init 49 = .ok (.putfield 26, 3) := by decide +kernel
theorem dX6_init_52 : decode cX6_init 52 = .ok (.aload_n 0, 1) := by decide +kernel
theorem dX6_init_53 : decode cX6_init 53 = .ok (.sipush 1143, 3) := by decide +kernel
theorem dX6_init_56 : decode cX6_init 56 = .ok (.newarray .int, 2) := by decide +kernel
theorem dX6_init_58 : decode cX6_init 58 = .ok (.putfield 29, 3) := by decide +kernel
theorem dX6_init_61 : decode cX6_init 61 = .ok (.aload_n 0, 1) := by decide +kernel
theorem dX6_init_62 : decode cX6_init 62 = .ok (.iconst 2, 1) := by decide +kernel
theorem dX6_init_63 : decode cX6_init 63 = .ok (.newarray .boolean, 2) := by decide +kernel
theorem dX6_init_65 : decode cX6_init 65 = .ok (.putfield 32, 3) := by decide +kernel
theorem dX6_init_68 : decode cX6_init 68 = .ok (.aload_n 0, 1) := by decide +kernel
theorem dX6_init_69 : decode cX6_init 69 = .ok (.bipush 9, 2) := by decide +kernel
theorem dX6_init_71 : decode cX6_init 71 = .ok (.newarray .int, 2) := by decide +kernel
theorem dX6_init_73 : decode cX6_init 73 = .ok (.putfield 36, 3) := by decide +kernel
theorem dX6_init_76 : decode cX6_init 76 = .ok (.aload_n 0, 1) := by decide +kernel
theorem dX6_init_77 : decode cX6_init 77 = .ok (.bipush 9, 2) := by decide +kernel
theorem dX6_init_79 : decode cX6_init 79 = .ok (.newarray .int, 2) := by decide +kernel
theorem dX6_init_81 : decode cX6_init 81 = .ok (.putfield 39, 3) := by decide +kernel
theorem dX6_init_84 : decode cX6_init 84 = .ok (.aload_n 0, 1) := by decide +kernel
theorem dX6_init_85 : decode cX6_init 85 = .ok (.bipush 9, 2) := by decide +kernel
theorem dX6_init_87 : decode cX6_init 87 = .ok (.newarray .int, 2) := by decide +kernel
theorem dX6_init_89 : decode cX6_init 89 = .ok (.putfield 42, 3) := by decide +kernel
theorem dX6_init_92 : decode cX6_init 92 = .ok (.aload_n 0, 1) := by decide +kernel
theorem dX6_init_93 : decode cX6_init 93 = .ok (.iconst 4, 1) := by decide +kernel
theorem dX6_init_94 : decode cX6_init 94 = .ok (.newarray .int, 2) := by decide +kernel
theorem dX6_init_96 : decode cX6_init 96 = .ok (.putfield 45, 3) := by decide +kernel
theorem dX6_init_99 : decode cX6_init 99 = .ok (.aload_n 0, 1) := by decide +kernel
theorem dX6_init_100 : decode cX6_init 100 = .ok (.sipush 200, 3) := by decide +kernel
theorem dX6_init_103 : decode cX6_init 103 = .ok (.newarray .int, 2) := by decide +kernel
theorem dX6_init_105 : decode cX6_init 105 = .ok (.putfield 48, 3) := by decide +kernel
theorem dX6_init_108 : decode cX6_init 108 = .ok (.aload_n 0, 1) := by decide +kernel
theorem dX6_init_109 : decode cX6_init 109 = .ok (.bipush 9, 2) := by decide +kernel
theorem dX6_init_111 : decode cX6_init 111 = .ok (.newarray .int, 2) := by decide +kernel
theorem dX6_init_113 : decode cX6_init 113 = .ok (.putfield 51, 3) := by decide +kernel
theorem dX6_init_116 : decode cX6_init 116 = .ok (.aload_n 0, 1) := by decide +kernel
theorem dX6_init_117 : decode cX6_init 117 = .ok (.bipush 9, 2) := by decide +kernel
theorem dX6_init_119 : decode cX6_init 119 = .ok (.newarray .int, 2) := by decide +kernel
theorem dX6_init_121 : decode cX6_init 121 = .ok (.putfield 54, 3) := by decide +kernel
theorem dX6_init_124 : decode cX6_init 124 = .ok (.aload_n 0, 1) := by decide +kernel
theorem dX6_init_125 : decode cX6_init 125 = .ok (.bipush 9, 2) := by decide +kernel
theorem dX6_init_127 : decode cX6_init 127 = .ok (.newarray .int, 2) := by decide +kernel
theorem dX6_init_129 : decode cX6_init 129 = .ok (.putfield 57, 3) := by decide +kernel
theorem dX6_init_132 : decode cX6_init 132 = .ok (.aload_n 0, 1) := by decide +kernel
theorem dX6_init_133 : decode cX6_init 133 = .ok (.bipush 10, 2) := by decide +kernel
theorem dX6_init_135 : decode cX6_init 135 = .ok (.newarray .int, 2) := by decide +kernel
theorem dX6_init_137 : decode cX6_init 137 = .ok (.putfield 60, 3) := by decide +kernel
theorem dX6_init_140 : decode cX6_init 140 = .ok (.aload_n 0, 1) := by decide +kernel
theorem dX6_init_141 : decode cX6_init 141 = .ok (.getfield 29, 3) := by decide +kernel
theorem dX6_init_144 : decode cX6_init 144 = .ok (.bipush 18, 2) := by decide +kernel
theorem dX6_init_146 : decode cX6_init 146 = .ok (.bipush (-9), 2) := by decide +kernel
theorem dX6_init_148 : decode cX6_init 148 = .ok (.iastore, 1) := by decide +kernel
theorem dX6_init_149 : decode cX6_init 149 = .ok (.return_, 1) := by decide +kernel
theorem dX6_in_0 : decode cX6_in 0 = .ok (.iload_n 0, 1) := by decide +kernel
theorem dX6_in_1 : decode cX6_in 1 = .ok (.iload_n 1, 1) := by decide +kernel
theorem dX6_in_2 : decode cX6_in 2 = .ok (.if_icmp .lt 12, 3) := by decide +kernel
theorem dX6_in_5 : decode cX6_in 5 = .ok (.iload_n 0, 1) := by decide +kernel
theorem dX6_in_6 : decode cX6_in 6 = .ok (.iload_n 2, 1) := by decide +kernel
theorem dX6_in_7 : decode cX6_in 7 = .ok (.if_icmp .gt 7, 3) := by decide +kernel
theorem dX6_in_10 : decode cX6_in 10 = .ok (.iconst 1, 1) := by decide +kernel
theorem dX6_in_11 : decode cX6_in 11 = .ok (.goto 4, 3) := by decide +kernel
theorem dX6_in_14 : decode cX6_in 14 = .ok (.iconst 0, 1) := by decide +kernel
theorem dX6_in_15 : decode cX6_in 15 = .ok (.ireturn, 1) := by decide +kernel
set_option maxRecDepth 20000 in
theorem ggX6_type_X6_in : GoodIn wsX6_type wsX6_in := goodIn_r _ [7] (by decide +kernel) (by decide +kernel)
set_option maxRecDepth 20000 in
theorem gX6_type_X6_in : GoodIn wsX6_type (va_wsS RX6 63 yX6_in wsX6_in) := goodIn_app (goodIn_of _ (by decide +kernel)) ggX6_type_X6_in
theorem dX6_type_0 : decode cX6_type 0 = .ok (.iload_n 3, 1) := by decide +kernel
theorem dX6_type_1 : decode cX6_type 1 = .ok (.iconst 1, 1) := by decide +kernel
theorem dX6_type_2 : decode cX6_type 2 = .ok (.bipush 8, 2) := by decide +kernel
theorem dX6_type_4 : decode cX6_type 4 = .ok (.invokestatic 63, 3) := by decide +kernel
theorem dX6_type_7 : decode cX6_type 7 = .ok (.ifCond .ne 5, 3) := by decide +kernel
theorem dX6_type_10 : decode cX6_type 10 = .ok (.iconst (-1), 1) := by decide +kernel
theorem dX6_type_11 : decode cX6_type 11 = .ok (.ireturn, 1) := by decide +kernel
theorem dX6_type_12 : decode cX6_type 12 = .ok (.aload_n 0, 1) := by decide +kernel
theorem dX6_type_13 : decode cX6_type 13 = .ok (.getfield 67, 3) := by decide +kernel
theorem dX6_type_16 : decode cX6_type 16 = .ok (.iload_n 3, 1) := by decide +kernel
theorem dX6_type_17 : decode cX6_type 17 = .ok (.iadd, 1) := by decide +kernel
theorem dX6_type_18 : decode cX6_type 18 = .ok (.sipush 200, 3) := by decide +kernel
theorem dX6_type_21 : decode cX6_type 21 = .ok (.if_icmp .le 6, 3) := by decide +kernel
theorem dX6_type_24 : decode cX6_type 24 = .ok (.bipush (-3), 2) := by decide +kernel
theorem dX6_type_26 : decode cX6_type 26 = .ok (.ireturn, 1) := by decide +kernel
theorem dX6_type_27 : decode cX6_type 27 = .ok (.iload_n 3, 1) := by decide +kernel
theorem dX6_type_28 : decode cX6_type 28 = .ok (.iconst 1, 1) := by decide +kernel
theorem dX6_type_29 : decode cX6_type 29 = .ok (.isub, 1) := by decide +kernel
theorem dX6_type_30 : decode cX6_type 30 = .ok (.istore 4, 2) := by decide +kernel
theorem dX6_type_32 : decode cX6_type 32 = .ok (.iload 4, 2) := by decide +kernel
theorem dX6_type_34 : decode cX6_type 34 = .ok (.ifCond .lt 41, 3) := by decide +kernel
theorem dX6_type_37 : decode cX6_type 37 = .ok (.aload_n 0, 1) := by decide +kernel
theorem dX6_type_38 : decode cX6_type 38 = .ok (.getfield 7, 3) := by decide +kernel
theorem dX6_type_41 : decode cX6_type 41 = .ok (.aload_n 0, 1) := by decide +kernel
theorem dX6_type_42 : decode cX6_type 42 = .ok (.getfield 67, 3) := by decide +kernel
theorem dX6_type_45 : decode cX6_type 45 = .ok (.lload_n 1, 1) := by decide +kernel
theorem dX6_type_46 : decode cX6_type 46 = .ok (.bipush 8, 2) := by decide +kernel
theorem dX6_type_48 : decode cX6_type 48 = .ok (.iload 4, 2) := by decide +kernel
theorem dX6_type_50 : decode cX6_type 50 = .ok (.imul, 1) := by decide +kernel
theorem dX6_type_51 : decode cX6_type 51 = .ok (.lshr, 1) := by decide +kernel
theorem dX6_type_52 : decode cX6_type 52 = .ok (.ldc2_w 71, 3) := by decide +kernel
theorem dX6_type_55 : decode cX6_type 55 = .ok (.land, 1) := by decide +kernel
theorem dX6_type_56 : decode cX6_type 56 = .ok (.l2i, 1) := by decide +kernel
theorem dX6_type_57 : decode cX6_type 57 = .ok (.i2b, 1) := by decide +kernel
theorem dX6_type_58 : decode cX6_type 58 = .ok (.bastore, 1) := by decide +kernel
theorem dX6_type_59 : decode cX6_type 59 = .ok (.aload_n 0, 1) := by decide +kernel
theorem dX6_type_60 : decode cX6_type 60 = .ok (.dup, 1) := by decide +kernel
theorem dX6_type_61 : decode cX6_type 61 = .ok (.getfield 67, 3) := by decide +kernel
theorem dX6_type_64 : decode cX6_type 64 = .ok (.iconst 1, 1) := by decide +kernel
theorem dX6_type_65 : decode cX6_type 65 = .ok (.iadd, 1) := by decide +kernel
theorem dX6_type_66 : decode cX6_type 66 = .ok (.putfield 67, 3) := by decide +kernel
theorem dX6_type_69 : decode cX6_type 69 = .ok (.iinc 4 (-1), 3) := by decide +kernel
theorem dX6_type_72 : decode cX6_type 72 = .ok (.goto (-40), 3) := by decide +kernel
theorem dX6_type_75 : decode cX6_type 75 = .ok (.aload_n 0, 1) := by decide +kernel
theorem dX6_type_76 : decode cX6_type 76 = .ok (.getfield 67, 3) := by decide +kernel
theorem dX6_type_79 : decode cX6_type 79 = .ok (.ireturn, 1) := by decide +kernel
theorem dX6_clear_0 : decode cX6_clear 0 = .ok (.aload_n 0, 1) := by decide +kernel
theorem dX6_clear_1 : decode cX6_clear 1 = .ok (.getfield 67, 3) := by decide +kernel
theorem dX6_clear_4 : decode cX6_clear 4 = .ok (.istore_n 1, 1) := by decide +kernel
theorem dX6_clear_5 : decode cX6_clear 5 = .ok (.aload_n 0, 1) := by decide +kernel
theorem dX6_clear_6 : decode cX6_clear 6 = .ok (.iconst 0, 1) := by decide +kernel
theorem dX6_clear_7 : decode cX6_clear 7 = .ok (.putfield 67, 3) := by decide +kernel
theorem dX6_clear_10 : decode cX6_clear 10 = .ok (.iload_n 1, 1) := by decide +kernel
theorem dX6_clear_11 : decode cX6_clear 11 = .ok (.ireturn, 1) := by decide +kernel
theorem dX6_here_0 : decode cX6_here 0 = .ok (.aload_n 0, 1) := by decide +kernel
theorem dX6_here_1 : decode cX6_here 1 = .ok (.getfield 73, 3) := by decide +kernel
theorem dX6_here_4 : decode cX6_here 4 = .ok (.aload_n 0, 1) := by decide +kernel
theorem dX6_here_5 : decode cX6_here 5 = .ok (.getfield 67, 3) := by decide +kernel
theorem dX6_here_8 : decode cX6_here 8 = .ok (.if_icmp .ge 19, 3) := by decide +kernel
theorem dX6_here_11 : decode cX6_here 11 = .ok (.aload_n 0, 1) := by decide +kernel
theorem dX6_here_12 : decode cX6_here 12 = .ok (.getfield 7, 3) := by decide +kernel
theorem dX6_here_15 : decode cX6_here 15 = .ok (.aload_n 0, 1) := by decide +kernel
theorem dX6_here_16 : decode cX6_here 16 = .ok (.getfield 73, 3) := by decide +kernel
theorem dX6_here_19 : decode cX6_here 19 = .ok (.baload, 1) := by decide +kernel
theorem dX6_here_20 : decode cX6_here 20 = .ok (.sipush 255, 3) := by decide +kernel
theorem dX6_here_23 : decode cX6_here 23 = .ok (.iand, 1) := by decide +kernel
theorem dX6_here_24 : decode cX6_here 24 = .ok (.goto 4, 3) := by decide +kernel
theorem dX6_here_27 : decode cX6_here 27 = .ok (.iconst (-1), 1) := by decide +kernel
theorem dX6_here_28 : decode cX6_here 28 = .ok (.ireturn, 1) := by decide +kernel
set_option maxRecDepth 20000 in
theorem ggX6_next_X6_here : GoodIn wsX6_next wsX6_here := goodIn_r _ [12, 1, 13, 14, 18, 19, 20, 21, 22, 23, 24, 25, 26, 27, 28, 29, 30, 31, 32, 33, 34, 35, 36, 37, 38, 39, 40, 41, 42, 43, 44, 45] (by decide +kernel) (by decide +kernel)
