theorem dX6_code_11 : decode cX6_code 11 = .ok (.iload_n 1, 1) := by decide +kernel
theorem dX6_code_12 : decode cX6_code 12 = .ok (.imul, 1) := by decide +kernel
theorem dX6_code_13 : decode cX6_code 13 = .ok (.aload_n 0, 1) := by decide +kernel
theorem dX6_code_14 : decode cX6_code 14 = .ok (.getfield 36, 3) := by decide +kernel
theorem dX6_code_17 : decode cX6_code 17 = .ok (.iload_n 2, 1) := by decide +kernel
theorem dX6_code_18 : decode cX6_code 18 = .ok (.iaload, 1) := by decide +kernel
theorem dX6_code_19 : decode cX6_code 19 = .ok (.iadd, 1) := by decide +kernel
theorem dX6_code_20 : decode cX6_code 20 = .ok (.istore_n 1, 1) := by decide +kernel
theorem dX6_code_21 : decode cX6_code 21 = .ok (.iinc 2 (-1), 3) := by decide +kernel
theorem dX6_code_24 : decode cX6_code 24 = .ok (.goto (-19), 3) := by decide +kernel
theorem dX6_code_27 : decode cX6_code 27 = .ok (.iload_n 1, 1) := by decide +kernel
theorem dX6_code_28 : decode cX6_code 28 = .ok (.ireturn, 1) := by decide +kernel
set_option maxRecDepth 20000 in
theorem ggX6_standings_X6_fromNow : GoodIn wsX6_standings wsX6_fromNow := goodIn_r _ [8, 3, 9, 10, 23, 24, 25, 26, 27, 28, 29, 30, 31, 32, 33, 34, 35, 36, 37, 38, 39, 40, 41, 42, 43, 44, 45, 46, 47, 48, 49, 50] (by decide +kernel) (by decide +kernel)
set_option maxRecDepth 20000 in
theorem gX6_standings_X6_fromNow : GoodIn wsX6_standings (wsV RX6 119 RX6 yX6_fromNow wsX6_fromNow) := goodIn_app (goodIn_of _ (by decide +kernel)) ggX6_standings_X6_fromNow
set_option maxRecDepth 20000 in
theorem ggX6_standings_X6_code : GoodIn wsX6_standings wsX6_code := goodIn_r _ [14, 3, 23, 24, 25, 26, 27, 28, 29, 30, 31, 32, 33, 34, 35, 36, 37, 38, 39, 40, 41, 42, 43, 44, 45, 46, 47, 48, 49, 50] (by decide +kernel) (by decide +kernel)
set_option maxRecDepth 20000 in
theorem gX6_standings_X6_code : GoodIn wsX6_standings (wsV RX6 149 RX6 yX6_code wsX6_code) := goodIn_app (goodIn_of _ (by decide +kernel)) ggX6_standings_X6_code
set_option maxRecDepth 20000 in
theorem ggX6_standings_X6_go : GoodIn wsX6_standings wsX6_go := goodIn_r _ [18, 1, 19, 10, 20, 21, 22, 3, 23, 24, 25, 26, 27, 28, 29, 30, 31, 32, 33, 34, 35, 36, 37, 38, 39, 40, 41, 42, 43, 44, 45, 46, 47, 48, 49, 50] (by decide +kernel) (by decide +kernel)
set_option maxRecDepth 20000 in
theorem gX6_standings_X6_go : GoodIn wsX6_standings (wsV RX6 122 RX6 yX6_go wsX6_go) := goodIn_app (goodIn_of _ (by decide +kernel)) ggX6_standings_X6_go
theorem dX6_standings_0 : decode cX6_standings 0 = .ok (.aload_n 0, 1) := by decide +kernel
theorem dX6_standings_1 : decode cX6_standings 1 = .ok (.getfield 13, 3) := by decide +kernel
theorem dX6_standings_4 : decode cX6_standings 4 = .ok (.iconst 0, 1) := by decide +kernel
theorem dX6_standings_5 : decode cX6_standings 5 = .ok (.iaload, 1) := by decide +kernel
theorem dX6_standings_6 : decode cX6_standings 6 = .ok (.ifCond .ne 6, 3) := by decide +kernel
theorem dX6_standings_9 : decode cX6_standings 9 = .ok (.bipush (-2), 2) := by decide +kernel
theorem dX6_standings_11 : decode cX6_standings 11 = .ok (.ireturn, 1) := by decide +kernel
theorem dX6_standings_12 : decode cX6_standings 12 = .ok (.aload_n 0, 1) := by decide +kernel
theorem dX6_standings_13 : decode cX6_standings 13 = .ok (.invokevirtual 119, 3) := by decide +kernel
theorem dX6_standings_16 : decode cX6_standings 16 = .ok (.iconst 1, 1) := by decide +kernel
theorem dX6_standings_17 : decode cX6_standings 17 = .ok (.istore_n 1, 1) := by decide +kernel
theorem dX6_standings_18 : decode cX6_standings 18 = .ok (.aload_n 0, 1) := by decide +kernel
theorem dX6_standings_19 : decode cX6_standings 19 = .ok (.getfield 48, 3) := by decide +kernel
theorem dX6_standings_22 : decode cX6_standings 22 = .ok (.iconst 0, 1) := by decide +kernel
theorem dX6_standings_23 : decode cX6_standings 23 = .ok (.aload_n 0, 1) := by decide +kernel
theorem dX6_standings_24 : decode cX6_standings 24 = .ok (.invokevirtual 149, 3) := by decide +kernel
theorem dX6_standings_27 : decode cX6_standings 27 = .ok (.iastore, 1) := by decide +kernel
theorem dX6_standings_28 : decode cX6_standings 28 = .ok (.iconst 0, 1) := by decide +kernel
theorem dX6_standings_29 : decode cX6_standings 29 = .ok (.istore_n 2, 1) := by decide +kernel
theorem dX6_standings_30 : decode cX6_standings 30 = .ok (.iload_n 2, 1) := by decide +kernel
theorem dX6_standings_31 : decode cX6_standings 31 = .ok (.iload_n 1, 1) := by decide +kernel
theorem dX6_standings_32 : decode cX6_standings 32 = .ok (.if_icmp .ge 144, 3) := by decide +kernel
theorem dX6_standings_35 : decode cX6_standings 35 = .ok (.iconst 0, 1) := by decide +kernel
theorem dX6_standings_36 : decode cX6_standings 36 = .ok (.istore_n 3, 1) := by decide +kernel
theorem dX6_standings_37 : decode cX6_standings 37 = .ok (.iload_n 3, 1) := by decide +kernel
theorem dX6_standings_38 : decode cX6_standings 38 = .ok (.iconst 2, 1) := by decide +kernel
theorem dX6_standings_39 : decode cX6_standings 39 = .ok (.if_icmp .ge 131, 3) := by decide +kernel
theorem dX6_standings_42 : decode cX6_standings 42 = .ok (.aload_n 0, 1) := by decide +kernel
theorem dX6_standings_43 : decode cX6_standings 43 = .ok (.getfield 48, 3) := by decide +kernel
theorem dX6_standings_46 : decode cX6_standings 46 = .ok (.iload_n 2, 1) := by decide +kernel
theorem dX6_standings_47 : decode cX6_standings 47 = .ok (.iaload, 1) := by decide +kernel
theorem dX6_standings_48 : decode cX6_standings 48 = .ok (.istore 4, 2) := by decide +kernel
theorem dX6_standings_50 : decode cX6_standings 50 = .ok (.iconst 0, 1) := by decide +kernel
theorem dX6_standings_51 : decode cX6_standings 51 = .ok (.istore 5, 2) := by decide +kernel
theorem dX6_standings_53 : decode cX6_standings 53 = .ok (.iload 5, 2) := by decide +kernel
theorem dX6_standings_55 : decode cX6_standings 55 = .ok (.bipush 9, 2) := by decide +kernel
theorem dX6_standings_57 : decode cX6_standings 57 = .ok (.if_icmp .ge 28, 3) := by decide +kernel
theorem dX6_standings_60 : decode cX6_standings 60 = .ok (.aload_n 0, 1) := by decide +kernel
theorem dX6_standings_61 : decode cX6_standings 61 = .ok (.getfield 36, 3) := by decide +kernel
theorem dX6_standings_64 : decode cX6_standings 64 = .ok (.iload 5, 2) := by decide +kernel
theorem dX6_standings_66 : decode cX6_standings 66 = .ok (.iload 4, 2) := by decide +kernel
theorem dX6_standings_68 : decode cX6_standings 68 = .ok (.bipush 6, 2) := by decide +kernel
theorem dX6_standings_70 : decode cX6_standings 70 = .ok (.irem, 1) := by decide +kernel
theorem dX6_standings_71 : decode cX6_standings 71 = .ok (.iastore, 1) := by decide +kernel
theorem dX6_standings_72 : decode cX6_standings 72 = .ok (.iload 4, 2) := by decide +kernel
theorem dX6_standings_74 : decode cX6_standings 74 = .ok (.bipush 6, 2) := by decide +kernel
theorem dX6_standings_76 : decode cX6_standings 76 = .ok (.idiv, 1) := by decide +kernel
theorem dX6_standings_77 : decode cX6_standings 77 = .ok (.istore 4, 2) := by decide +kernel
theorem dX6_standings_79 : decode cX6_standings 79 = .ok (.iinc 5 1, 3) := by decide +kernel
theorem dX6_standings_82 : decode cX6_standings 82 = .ok (.goto (-29), 3) := by decide +kernel
theorem dX6_standings_85 : decode cX6_standings 85 = .ok (.aload_n 0, 1) := by decide +kernel
theorem dX6_standings_86 : decode cX6_standings 86 = .ok (.iload_n 3, 1) := by decide +kernel
theorem dX6_standings_87 : decode cX6_standings 87 = .ok (.invokevirtual 122, 3) := by decide +kernel
theorem dX6_standings_90 : decode cX6_standings 90 = .ok (.pop, 1) := by decide +kernel
theorem dX6_standings_91 : decode cX6_standings 91 = .ok (.aload_n 0, 1) := by decide +kernel
theorem dX6_standings_92 : decode cX6_standings 92 = .ok (.invokevirtual 149, 3) := by decide +kernel
theorem dX6_standings_95 : decode cX6_standings 95 = .ok (.istore 5, 2) := by decide +kernel
theorem dX6_standings_97 : decode cX6_standings 97 = .ok (.iconst 1, 1) := by decide +kernel
theorem dX6_standings_98 : decode cX6_standings 98 = .ok (.istore 6, 2) := by decide +kernel
theorem dX6_standings_100 : decode cX6_standings 100 = .ok (.iconst 0, 1) := by decide +kernel
theorem dX6_standings_101 : decode cX6_standings 101 = .ok (.istore 7, 2) := by decide +kernel
theorem dX6_standings_103 : decode cX6_standings 103 = .ok (.iload 7, 2) := by decide +kernel
theorem dX6_standings_105 : decode cX6_standings 105 = .ok (.iload_n 1, 1) := by decide +kernel
theorem dX6_standings_106 : decode cX6_standings 106 = .ok (.if_icmp .ge 33, 3) := by decide +kernel
theorem dX6_standings_109 : decode cX6_standings 109 = .ok (.iload 6, 2) := by decide +kernel
theorem dX6_standings_111 : decode cX6_standings 111 = .ok (.ifCond .eq 19, 3) := by decide +kernel
theorem dX6_standings_114 : decode cX6_standings 114 = .ok (.aload_n 0, 1) := by decide +kernel
theorem dX6_standings_115 : decode cX6_standings 115 = .ok (.getfield 48, 3) := by decide +kernel
theorem dX6_standings_118 : decode cX6_standings 118 = .ok (.iload 7, 2) := by decide +kernel
theorem dX6_standings_120 : decode cX6_standings 120 = .ok (.iaload, 1) := by decide +kernel
theorem dX6_standings_121 : decode cX6_standings 121 = .ok (.iload 5, 2) := by decide +kernel
theorem dX6_standings_123 : decode cX6_standings 123 = .ok (.if_icmp .eq 7, 3) := by decide +kernel
theorem dX6_standings_126 : decode cX6_standings 126 = .ok (.iconst 1, 1) := by decide +kernel
theorem dX6_standings_127 : decode cX6_standings 127 = .ok (.goto 4, 3) := by decide +kernel
theorem dX6_standings_130 : decode cX6_standings 130 = .ok (.iconst 0, 1) := by decide +kernel
theorem dX6_standings_131 : decode cX6_standings 131 = .ok (.istore 6, 2) := by decide +kernel
theorem dX6_standings_133 : decode cX6_standings 133 = .ok (.iinc 7 1, 3) := by decide +kernel
theorem dX6_standings_136 : decode cX6_standings 136 = .ok (.goto (-33), 3) := by decide +kernel
theorem dX6_standings_139 : decode cX6_standings 139 = .ok (.iload 6, 2) := by decide +kernel
theorem dX6_standings_141 : decode cX6_standings 141 = .ok (.ifCond .eq 23, 3) := by decide +kernel
theorem dX6_standings_144 : decode cX6_standings 144 = .ok (.aload_n 0, 1) := by decide +kernel
theorem dX6_standings_145 : decode cX6_standings 145 = .ok (.getfield 48, 3) := by decide +kernel
theorem dX6_standings_148 : decode cX6_standings 148 = .ok (.iload_n 1, 1) := by decide +kernel
theorem dX6_standings_149 : decode cX6_standings 149 = .ok (.iload 5, 2) := by decide +kernel
theorem dX6_standings_151 : decode cX6_standings 151 = .ok (.iastore, 1) := by decide +kernel
theorem dX6_standings_152 : decode cX6_standings 152 = .ok (.iinc 1 1, 3) := by decide +kernel
theorem dX6_standings_155 : decode cX6_standings 155 = .ok (.iload_n 1, 1) := by decide +kernel
theorem dX6_standings_156 : decode cX6_standings 156 = .ok (.sipush 200, 3) := by decide +kernel
theorem dX6_standings_159 : decode cX6_standings 159 = .ok (.if_icmp .ne 5, 3) := by decide +kernel
theorem dX6_standings_162 : decode cX6_standings 162 = .ok (.iload_n 1, 1) := by decide +kernel
theorem dX6_standings_163 : decode cX6_standings 163 = .ok (.ireturn, 1) := by decide +kernel
theorem dX6_standings_164 : decode cX6_standings 164 = .ok (.iinc 3 1, 3) := by decide +kernel
theorem dX6_standings_167 : decode cX6_standings 167 = .ok (.goto (-130), 3) := by decide +kernel
theorem dX6_standings_170 : decode cX6_standings 170 = .ok (.iinc 2 1, 3) := by decide +kernel
theorem dX6_standings_173 : decode cX6_standings 173 = .ok (.goto (-143), 3) := by decide +kernel
theorem dX6_standings_176 : decode cX6_standings 176 = .ok (.iload_n 1, 1) := by decide +kernel
theorem dX6_standings_177 : decode cX6_standings 177 = .ok (.ireturn, 1) := by decide +kernel
set_option maxRecDepth 20000 in
theorem ggX6_apart_X6_isRow : GoodIn wsX6_apart wsX6_isRow := goodIn_r _ [9, 1, 10, 11, 12, 8, 13, 33, 34, 35, 36, 37, 38, 39, 40, 41, 42, 43, 44, 45, 46, 47, 48, 49, 50, 51, 52, 53, 54, 55, 56, 57, 58, 59, 60] (by decide +kernel) (by decide +kernel)
set_option maxRecDepth 20000 in
theorem gX6_apart_X6_isRow : GoodIn wsX6_apart (wsV RX6 129 RX6 yX6_isRow wsX6_isRow) := goodIn_app (goodIn_of _ (by decide +kernel)) ggX6_apart_X6_isRow
set_option maxRecDepth 20000 in
theorem ggX6_apart_X6_bring : GoodIn wsX6_apart wsX6_bring := goodIn_r _ [17, 1, 4, 10, 18, 19, 20, 8, 21, 22, 23, 24, 25, 26, 27, 28, 2, 29, 30, 31, 32, 33, 34, 35, 36, 37, 38, 39, 40, 41, 42, 43, 44, 45, 46, 47, 48, 49, 50, 51, 52, 53, 54, 55, 56, 57, 58, 59, 60] (by decide +kernel) (by decide +kernel)
set_option maxRecDepth 20000 in
theorem gX6_apart_X6_bring : GoodIn wsX6_apart (wsV RX6 132 RX6 yX6_bring wsX6_bring) := goodIn_app (goodIn_of _ (by decide +kernel)) ggX6_apart_X6_bring
theorem dX6_apart_0 : decode cX6_apart 0 = .ok (.aload_n 0, 1) := by decide +kernel
theorem dX6_apart_1 : decode cX6_apart 1 = .ok (.iload_n 1, 1) := by decide +kernel
theorem dX6_apart_2 : decode cX6_apart 2 = .ok (.invokevirtual 129, 3) := by decide +kernel
theorem dX6_apart_5 : decode cX6_apart 5 = .ok (.ifCond .ne 5, 3) := by decide +kernel
theorem dX6_apart_8 : decode cX6_apart 8 = .ok (.iconst (-1), 1) := by decide +kernel
theorem dX6_apart_9 : decode cX6_apart 9 = .ok (.ireturn, 1) := by decide +kernel
theorem dX6_apart_10 : decode cX6_apart 10 = .ok (.aload_n 0, 1) := by decide +kernel
theorem dX6_apart_11 : decode cX6_apart 11 = .ok (.getfield 126, 3) := by decide +kernel
theorem dX6_apart_14 : decode cX6_apart 14 = .ok (.istore_n 3, 1) := by decide +kernel
theorem dX6_apart_15 : decode cX6_apart 15 = .ok (.aload_n 0, 1) := by decide +kernel
theorem dX6_apart_16 : decode cX6_apart 16 = .ok (.iload_n 2, 1) := by decide +kernel
theorem dX6_apart_17 : decode cX6_apart 17 = .ok (.invokevirtual 129, 3) := by decide +kernel
theorem dX6_apart_20 : decode cX6_apart 20 = .ok (.ifCond .eq 11, 3) := by decide +kernel
theorem dX6_apart_23 : decode cX6_apart 23 = .ok (.aload_n 0, 1) := by decide +kernel
theorem dX6_apart_24 : decode cX6_apart 24 = .ok (.getfield 126, 3) := by decide +kernel
theorem dX6_apart_27 : decode cX6_apart 27 = .ok (.iload_n 3, 1) := by decide +kernel
theorem dX6_apart_28 : decode cX6_apart 28 = .ok (.if_icmp .eq 5, 3) := by decide +kernel
theorem dX6_apart_31 : decode cX6_apart 31 = .ok (.iconst (-1), 1) := by decide +kernel
theorem dX6_apart_32 : decode cX6_apart 32 = .ok (.ireturn, 1) := by decide +kernel
theorem dX6_apart_33 : decode cX6_apart 33 = .ok (.aload_n 0, 1) := by decide +kernel
theorem dX6_apart_34 : decode cX6_apart 34 = .ok (.getfield 13, 3) := by decide +kernel
theorem dX6_apart_37 : decode cX6_apart 37 = .ok (.iconst 0, 1) := by decide +kernel
theorem dX6_apart_38 : decode cX6_apart 38 = .ok (.iaload, 1) := by decide +kernel
theorem dX6_apart_39 : decode cX6_apart 39 = .ok (.ifCond .ne 6, 3) := by decide +kernel
theorem dX6_apart_42 : decode cX6_apart 42 = .ok (.bipush (-2), 2) := by decide +kernel
theorem dX6_apart_44 : decode cX6_apart 44 = .ok (.ireturn, 1) := by decide +kernel
theorem dX6_apart_45 : decode cX6_apart 45 = .ok (.aload_n 0, 1) := by decide +kernel
theorem dX6_apart_46 : decode cX6_apart 46 = .ok (.invokevirtual 132, 3) := by decide +kernel
theorem dX6_apart_49 : decode cX6_apart 49 = .ok (.iconst 0, 1) := by decide +kernel
theorem dX6_apart_50 : decode cX6_apart 50 = .ok (.istore 4, 2) := by decide +kernel
theorem dX6_apart_52 : decode cX6_apart 52 = .ok (.iload 4, 2) := by decide +kernel
theorem dX6_apart_54 : decode cX6_apart 54 = .ok (.iload_n 3, 1) := by decide +kernel
theorem dX6_apart_55 : decode cX6_apart 55 = .ok (.if_icmp .ge 23, 3) := by decide +kernel
theorem dX6_apart_58 : decode cX6_apart 58 = .ok (.aload_n 0, 1) := by decide +kernel
theorem dX6_apart_59 : decode cX6_apart 59 = .ok (.getfield 51, 3) := by decide +kernel
theorem dX6_apart_62 : decode cX6_apart 62 = .ok (.iload 4, 2) := by decide +kernel
theorem dX6_apart_64 : decode cX6_apart 64 = .ok (.aload_n 0, 1) := by decide +kernel
theorem dX6_apart_65 : decode cX6_apart 65 = .ok (.getfield 42, 3) := by decide +kernel
theorem dX6_apart_68 : decode cX6_apart 68 = .ok (.iload 4, 2) := by decide +kernel
theorem dX6_apart_70 : decode cX6_apart 70 = .ok (.iaload, 1) := by decide +kernel
theorem dX6_apart_71 : decode cX6_apart 71 = .ok (.iastore, 1) := by decide +kernel
theorem dX6_apart_72 : decode cX6_apart 72 = .ok (.iinc 4 1, 3) := by decide +kernel
theorem dX6_apart_75 : decode cX6_apart 75 = .ok (.goto (-23), 3) := by decide +kernel
theorem dX6_apart_78 : decode cX6_apart 78 = .ok (.aload_n 0, 1) := by decide +kernel
theorem dX6_apart_79 : decode cX6_apart 79 = .ok (.iload_n 1, 1) := by decide +kernel
theorem dX6_apart_80 : decode cX6_apart 80 = .ok (.invokevirtual 129, 3) := by decide +kernel
theorem dX6_apart_83 : decode cX6_apart 83 = .ok (.pop, 1) := by decide +kernel
theorem dX6_apart_84 : decode cX6_apart 84 = .ok (.aload_n 0, 1) := by decide +kernel
theorem dX6_apart_85 : decode cX6_apart 85 = .ok (.invokevirtual 132, 3) := by decide +kernel
theorem dX6_apart_88 : decode cX6_apart 88 = .ok (.iconst 0, 1) := by decide +kernel
theorem dX6_apart_89 : decode cX6_apart 89 = .ok (.istore 4, 2) := by decide +kernel
theorem dX6_apart_91 : decode cX6_apart 91 = .ok (.iload 4, 2) := by decide +kernel
theorem dX6_apart_93 : decode cX6_apart 93 = .ok (.iload_n 3, 1) := by decide +kernel
theorem dX6_apart_94 : decode cX6_apart 94 = .ok (.if_icmp .ge 29, 3) := by decide +kernel
theorem dX6_apart_97 : decode cX6_apart 97 = .ok (.aload_n 0, 1) := by decide +kernel
theorem dX6_apart_98 : decode cX6_apart 98 = .ok (.getfield 51, 3) := by decide +kernel
theorem dX6_apart_101 : decode cX6_apart 101 = .ok (.iload 4, 2) := by decide +kernel
theorem dX6_apart_103 : decode cX6_apart 103 = .ok (.iaload, 1) := by decide +kernel
theorem dX6_apart_104 : decode cX6_apart 104 = .ok (.aload_n 0, 1) := by decide +kernel
theorem dX6_apart_105 : decode cX6_apart 105 = .ok (.getfield 42, 3) := by decide +kernel
theorem dX6_apart_108 : decode cX6_apart 108 = .ok (.iload 4, 2) := by decide +kernel
theorem dX6_apart_110 : decode cX6_apart 110 = .ok (.iaload, 1) := by decide +kernel
theorem dX6_apart_111 : decode cX6_apart 111 = .ok (.if_icmp .eq 6, 3) := by decide +kernel
theorem dX6_apart_114 : decode cX6_apart 114 = .ok (.iload 4, 2) := by decide +kernel
theorem dX6_apart_116 : decode cX6_apart 116 = .ok (.ireturn, 1) := by decide +kernel
theorem dX6_apart_117 : decode cX6_apart 117 = .ok (.iinc 4 1, 3) := by decide +kernel
theorem dX6_apart_120 : decode cX6_apart 120 = .ok (.goto (-29), 3) := by decide +kernel
theorem dX6_apart_123 : decode cX6_apart 123 = .ok (.bipush (-9), 2) := by decide +kernel
theorem dX6_apart_125 : decode cX6_apart 125 = .ok (.ireturn, 1) := by decide +kernel
set_option maxRecDepth 20000 in
theorem ggX6_tried_X6_in : GoodIn wsX6_tried wsX6_in := goodIn_r _ [8] (by decide +kernel) (by decide +kernel)
set_option maxRecDepth 20000 in
theorem gX6_tried_X6_in : GoodIn wsX6_tried (va_wsS RX6 63 yX6_in wsX6_in) := goodIn_app (goodIn_of _ (by decide +kernel)) ggX6_tried_X6_in
set_option maxRecDepth 20000 in
theorem ggX6_tried_X6_isPart : GoodIn wsX6_tried wsX6_isPart := goodIn_r _ [12, 13, 5, 6, 7, 8, 14, 15, 16, 17, 18, 19, 20, 21, 22, 23, 24, 25, 26, 27, 28, 29, 30, 31, 32, 33, 34, 35, 36, 37, 38, 39, 40, 41] (by decide +kernel) (by decide +kernel)
set_option maxRecDepth 20000 in
theorem gX6_tried_X6_isPart : GoodIn wsX6_tried (wsV RX6 112 RX6 yX6_isPart wsX6_isPart) := goodIn_app (goodIn_of _ (by decide +kernel)) ggX6_tried_X6_isPart
theorem dX6_tried_0 : decode cX6_tried 0 = .ok (.iload_n 1, 1) := by decide +kernel
theorem dX6_tried_1 : decode cX6_tried 1 = .ok (.iconst 0, 1) := by decide +kernel
theorem dX6_tried_2 : decode cX6_tried 2 = .ok (.iconst 1, 1) := by decide +kernel
theorem dX6_tried_3 : decode cX6_tried 3 = .ok (.invokestatic 63, 3) := by decide +kernel
theorem dX6_tried_6 : decode cX6_tried 6 = .ok (.ifCond .eq 26, 3) := by decide +kernel
theorem dX6_tried_9 : decode cX6_tried 9 = .ok (.iload_n 2, 1) := by decide +kernel
theorem dX6_tried_10 : decode cX6_tried 10 = .ok (.bipush (-9), 2) := by decide +kernel
theorem dX6_tried_12 : decode cX6_tried 12 = .ok (.if_icmp .eq 22, 3) := by decide +kernel
theorem dX6_tried_15 : decode cX6_tried 15 = .ok (.aload_n 0, 1) := by decide +kernel
theorem dX6_tried_16 : decode cX6_tried 16 = .ok (.iload_n 2, 1) := by decide +kernel
theorem dX6_tried_17 : decode cX6_tried 17 = .ok (.invokevirtual 112, 3) := by decide +kernel
theorem dX6_tried_20 : decode cX6_tried 20 = .ok (.ifCond .eq 12, 3) := by decide +kernel
theorem dX6_tried_23 : decode cX6_tried 23 = .ok (.aload_n 0, 1) := by decide +kernel
theorem dX6_tried_24 : decode cX6_tried 24 = .ok (.getfield 17, 3) := by decide +kernel
theorem dX6_tried_27 : decode cX6_tried 27 = .ok (.iload_n 2, 1) := by decide +kernel
theorem dX6_tried_28 : decode cX6_tried 28 = .ok (.iaload, 1) := by decide +kernel
theorem dX6_tried_29 : decode cX6_tried 29 = .ok (.ifCond .eq 5, 3) := by decide +kernel
theorem dX6_tried_32 : decode cX6_tried 32 = .ok (.iconst (-1), 1) := by decide +kernel
theorem dX6_tried_33 : decode cX6_tried 33 = .ok (.ireturn, 1) := by decide +kernel
theorem dX6_tried_34 : decode cX6_tried 34 = .ok (.aload_n 0, 1) := by decide +kernel
theorem dX6_tried_35 : decode cX6_tried 35 = .ok (.getfield 109, 3) := by decide +kernel
theorem dX6_tried_38 : decode cX6_tried 38 = .ok (.bipush 9, 2) := by decide +kernel
theorem dX6_tried_40 : decode cX6_tried 40 = .ok (.if_icmp .ne 6, 3) := by decide +kernel
theorem dX6_tried_43 : decode cX6_tried 43 = .ok (.bipush (-3), 2) := by decide +kernel
theorem dX6_tried_45 : decode cX6_tried 45 = .ok (.ireturn, 1) := by decide +kernel
theorem dX6_tried_46 : decode cX6_tried 46 = .ok (.aload_n 0, 1) := by decide +kernel
theorem dX6_tried_47 : decode cX6_tried 47 = .ok (.getfield 54, 3) := by decide +kernel
theorem dX6_tried_50 : decode cX6_tried 50 = .ok (.aload_n 0, 1) := by decide +kernel
theorem dX6_tried_51 : decode cX6_tried 51 = .ok (.getfield 109, 3) := by decide +kernel
theorem dX6_tried_54 : decode cX6_tried 54 = .ok (.iload_n 1, 1) := by decide +kernel
theorem dX6_tried_55 : decode cX6_tried 55 = .ok (.iastore, 1) := by decide +kernel
theorem dX6_tried_56 : decode cX6_tried 56 = .ok (.aload_n 0, 1) := by decide +kernel
theorem dX6_tried_57 : decode cX6_tried 57 = .ok (.getfield 57, 3) := by decide +kernel
theorem dX6_tried_60 : decode cX6_tried 60 = .ok (.aload_n 0, 1) := by decide +kernel
theorem dX6_tried_61 : decode cX6_tried 61 = .ok (.getfield 109, 3) := by decide +kernel
theorem dX6_tried_64 : decode cX6_tried 64 = .ok (.iload_n 2, 1) := by decide +kernel
theorem dX6_tried_65 : decode cX6_tried 65 = .ok (.iastore, 1) := by decide +kernel
theorem dX6_tried_66 : decode cX6_tried 66 = .ok (.aload_n 0, 1) := by decide +kernel
theorem dX6_tried_67 : decode cX6_tried 67 = .ok (.dup, 1) := by decide +kernel
theorem dX6_tried_68 : decode cX6_tried 68 = .ok (.getfield 109, 3) := by decide +kernel
theorem dX6_tried_71 : decode cX6_tried 71 = .ok (.iconst 1, 1) := by decide +kernel
theorem dX6_tried_72 : decode cX6_tried 72 = .ok (.iadd, 1) := by decide +kernel
theorem dX6_tried_73 : decode cX6_tried 73 = .ok (.putfield 109, 3) := by decide +kernel
theorem dX6_tried_76 : decode cX6_tried 76 = .ok (.aload_n 0, 1) := by decide +kernel
theorem dX6_tried_77 : decode cX6_tried 77 = .ok (.getfield 109, 3) := by decide +kernel
theorem dX6_tried_80 : decode cX6_tried 80 = .ok (.ireturn, 1) := by decide +kernel
theorem dX6_forget_0 : decode cX6_forget 0 = .ok (.aload_n 0, 1) := by decide +kernel
theorem dX6_forget_1 : decode cX6_forget 1 = .ok (.getfield 109, 3) := by decide +kernel
theorem dX6_forget_4 : decode cX6_forget 4 = .ok (.istore_n 1, 1) := by decide +kernel
theorem dX6_forget_5 : decode cX6_forget 5 = .ok (.aload_n 0, 1) := by decide +kernel
theorem dX6_forget_6 : decode cX6_forget 6 = .ok (.iconst 0, 1) := by decide +kernel
theorem dX6_forget_7 : decode cX6_forget 7 = .ok (.putfield 109, 3) := by decide +kernel
theorem dX6_forget_10 : decode cX6_forget 10 = .ok (.iload_n 1, 1) := by decide +kernel
theorem dX6_forget_11 : decode cX6_forget 11 = .ok (.ireturn, 1) := by decide +kernel
set_option maxRecDepth 20000 in
theorem ggX6_fits_X6_fromBeginning : GoodIn wsX6_fits wsX6_fromBeginning := goodIn_r _ [8, 9, 10, 20, 21, 22, 23, 24, 25, 26, 27, 28, 29, 30, 31, 32, 33, 34, 35, 36, 37, 38, 39, 40, 41, 42, 43, 44, 45, 46, 47] (by decide +kernel) (by decide +kernel)
set_option maxRecDepth 20000 in
theorem gX6_fits_X6_fromBeginning : GoodIn wsX6_fits (wsV RX6 152 RX6 yX6_fromBeginning wsX6_fromBeginning) := goodIn_app (goodIn_of _ (by decide +kernel)) ggX6_fits_X6_fromBeginning
set_option maxRecDepth 20000 in
theorem ggX6_fits_X6_go : GoodIn wsX6_fits wsX6_go := goodIn_r _ [14, 15, 16, 10, 17, 18, 19, 9, 20, 21, 22, 23, 24, 25, 26, 27, 28, 29, 30, 31, 32, 33, 34, 35, 36, 37, 38, 39, 40, 41, 42, 43, 44, 45, 46, 47] (by decide +kernel) (by decide +kernel)
set_option maxRecDepth 20000 in
theorem gX6_fits_X6_go : GoodIn wsX6_fits (wsV RX6 122 RX6 yX6_go wsX6_go) := goodIn_app (goodIn_of _ (by decide +kernel)) ggX6_fits_X6_go
theorem dX6_fits_0 : decode cX6_fits 0 = .ok (.aload_n 0, 1) := by decide +kernel
theorem dX6_fits_1 : decode cX6_fits 1 = .ok (.iload_n 1, 1) := by decide +kernel
theorem dX6_fits_2 : decode cX6_fits 2 = .ok (.bipush 9, 2) := by decide +kernel
theorem dX6_fits_4 : decode cX6_fits 4 = .ok (.if_icmp .ne 8, 3) := by decide +kernel
theorem dX6_fits_7 : decode cX6_fits 7 = .ok (.bipush (-9), 2) := by decide +kernel
theorem dX6_fits_9 : decode cX6_fits 9 = .ok (.goto 4, 3) := by decide +kernel
theorem dX6_fits_12 : decode cX6_fits 12 = .ok (.iload_n 1, 1) := by decide +kernel
theorem dX6_fits_13 : decode cX6_fits 13 = .ok (.invokevirtual 152, 3) := by decide +kernel
theorem dX6_fits_16 : decode cX6_fits 16 = .ok (.iconst 1, 1) := by decide +kernel
theorem dX6_fits_17 : decode cX6_fits 17 = .ok (.istore_n 2, 1) := by decide +kernel
theorem dX6_fits_18 : decode cX6_fits 18 = .ok (.iconst 0, 1) := by decide +kernel
theorem dX6_fits_19 : decode cX6_fits 19 = .ok (.istore_n 3, 1) := by decide +kernel
theorem dX6_fits_20 : decode cX6_fits 20 = .ok (.iload_n 3, 1) := by decide +kernel
theorem dX6_fits_21 : decode cX6_fits 21 = .ok (.aload_n 0, 1) := by decide +kernel
theorem dX6_fits_22 : decode cX6_fits 22 = .ok (.getfield 109, 3) := by decide +kernel
theorem dX6_fits_25 : decode cX6_fits 25 = .ok (.if_icmp .ge 42, 3) := by decide +kernel
theorem dX6_fits_28 : decode cX6_fits 28 = .ok (.aload_n 0, 1) := by decide +kernel
theorem dX6_fits_29 : decode cX6_fits 29 = .ok (.aload_n 0, 1) := by decide +kernel
theorem dX6_fits_30 : decode cX6_fits 30 = .ok (.getfield 54, 3) := by decide +kernel
theorem dX6_fits_33 : decode cX6_fits 33 = .ok (.iload_n 3, 1) := by decide +kernel
theorem dX6_fits_34 : decode cX6_fits 34 = .ok (.iaload, 1) := by decide +kernel
theorem dX6_fits_35 : decode cX6_fits 35 = .ok (.invokevirtual 122, 3) := by decide +kernel
theorem dX6_fits_38 : decode cX6_fits 38 = .ok (.istore 4, 2) := by decide +kernel
theorem dX6_fits_40 : decode cX6_fits 40 = .ok (.iload_n 2, 1) := by decide +kernel
theorem dX6_fits_41 : decode cX6_fits 41 = .ok (.ifCond .eq 18, 3) := by decide +kernel
theorem dX6_fits_44 : decode cX6_fits 44 = .ok (.iload 4, 2) := by decide +kernel
theorem dX6_fits_46 : decode cX6_fits 46 = .ok (.aload_n 0, 1) := by decide +kernel
theorem dX6_fits_47 : decode cX6_fits 47 = .ok (.getfield 57, 3) := by decide +kernel
theorem dX6_fits_50 : decode cX6_fits 50 = .ok (.iload_n 3, 1) := by decide +kernel
theorem dX6_fits_51 : decode cX6_fits 51 = .ok (.iaload, 1) := by decide +kernel
theorem dX6_fits_52 : decode cX6_fits 52 = .ok (.if_icmp .ne 7, 3) := by decide +kernel
theorem dX6_fits_55 : decode cX6_fits 55 = .ok (.iconst 1, 1) := by decide +kernel
theorem dX6_fits_56 : decode cX6_fits 56 = .ok (.goto 4, 3) := by decide +kernel
theorem dX6_fits_59 : decode cX6_fits 59 = .ok (.iconst 0, 1) := by decide +kernel
theorem dX6_fits_60 : decode cX6_fits 60 = .ok (.istore_n 2, 1) := by decide +kernel
theorem dX6_fits_61 : decode cX6_fits 61 = .ok (.iinc 3 1, 3) := by decide +kernel
theorem dX6_fits_64 : decode cX6_fits 64 = .ok (.goto (-44), 3) := by decide +kernel
theorem dX6_fits_67 : decode cX6_fits 67 = .ok (.iload_n 2, 1) := by decide +kernel
theorem dX6_fits_68 : decode cX6_fits 68 = .ok (.ireturn, 1) := by decide +kernel
set_option maxRecDepth 20000 in
theorem ggX6_left_X6_isPart : GoodIn wsX6_left wsX6_isPart := goodIn_r _ [5, 6, 7, 8, 4, 9, 31, 32, 33, 34, 35, 36, 37, 38, 39, 40, 41, 42, 43, 44, 45, 46, 47, 48, 49, 50, 51, 52, 53, 54, 55, 56, 57, 58] (by decide +kernel) (by decide +kernel)
set_option maxRecDepth 20000 in
theorem gX6_left_X6_isPart : GoodIn wsX6_left (wsV RX6 112 RX6 yX6_isPart wsX6_isPart) := goodIn_app (goodIn_of _ (by decide +kernel)) ggX6_left_X6_isPart
set_option maxRecDepth 20000 in
theorem ggX6_left_X6_fits : GoodIn wsX6_left wsX6_fits := goodIn_r _ [13, 14, 15, 16, 17, 18, 19, 4, 20, 21, 22, 23, 24, 25, 26, 6, 27, 28, 29, 30, 31, 32, 33, 34, 35, 36, 37, 38, 39, 40, 41, 42, 43, 44, 45, 46, 47, 48, 49, 50, 51, 52, 53, 54, 55, 56, 57, 58] (by decide +kernel) (by decide +kernel)
set_option maxRecDepth 20000 in
theorem gX6_left_X6_fits : GoodIn wsX6_left (wsV RX6 156 RX6 yX6_fits wsX6_fits) := goodIn_app (goodIn_of _ (by decide +kernel)) ggX6_left_X6_fits
theorem dX6_left_0 : decode cX6_left 0 = .ok (.iconst 0, 1) := by decide +kernel
theorem dX6_left_1 : decode cX6_left 1 = .ok (.istore_n 1, 1) := by decide +kernel
theorem dX6_left_2 : decode cX6_left 2 = .ok (.iconst 0, 1) := by decide +kernel
theorem dX6_left_3 : decode cX6_left 3 = .ok (.istore_n 2, 1) := by decide +kernel
theorem dX6_left_4 : decode cX6_left 4 = .ok (.iload_n 2, 1) := by decide +kernel
theorem dX6_left_5 : decode cX6_left 5 = .ok (.bipush 9, 2) := by decide +kernel
theorem dX6_left_7 : decode cX6_left 7 = .ok (.if_icmp .gt 51, 3) := by decide +kernel
theorem dX6_left_10 : decode cX6_left 10 = .ok (.iload_n 2, 1) := by decide +kernel
theorem dX6_left_11 : decode cX6_left 11 = .ok (.bipush 9, 2) := by decide +kernel
theorem dX6_left_13 : decode cX6_left 13 = .ok (.if_icmp .eq 11, 3) := by decide +kernel
theorem dX6_left_16 : decode cX6_left 16 = .ok (.aload_n 0, 1) := by decide +kernel
theorem dX6_left_17 : decode cX6_left 17 = .ok (.iload_n 2, 1) := by decide +kernel
theorem dX6_left_18 : decode cX6_left 18 = .ok (.invokevirtual 112, 3) := by decide +kernel
theorem dX6_left_21 : decode cX6_left 21 = .ok (.ifCond .eq 15, 3) := by decide +kernel
theorem dX6_left_24 : decode cX6_left 24 = .ok (.aload_n 0, 1) := by decide +kernel
theorem dX6_left_25 : decode cX6_left 25 = .ok (.iload_n 2, 1) := by decide +kernel
theorem dX6_left_26 : decode cX6_left 26 = .ok (.invokevirtual 156, 3) := by decide +kernel
theorem dX6_left_29 : decode cX6_left 29 = .ok (.ifCond .eq 7, 3) := by decide +kernel
theorem dX6_left_32 : decode cX6_left 32 = .ok (.iconst 1, 1) := by decide +kernel
theorem dX6_left_33 : decode cX6_left 33 = .ok (.goto 4, 3) := by decide +kernel
theorem dX6_left_36 : decode cX6_left 36 = .ok (.iconst 0, 1) := by decide +kernel
theorem dX6_left_37 : decode cX6_left 37 = .ok (.istore_n 3, 1) := by decide +kernel
theorem dX6_left_38 : decode cX6_left 38 = .ok (.iload_n 1, 1) := by decide +kernel
theorem dX6_left_39 : decode cX6_left 39 = .ok (.iload_n 3, 1) := by decide +kernel
theorem dX6_left_40 : decode cX6_left 40 = .ok (.ifCond .eq 9, 3) := by decide +kernel
theorem dX6_left_43 : decode cX6_left 43 = .ok (.iconst 1, 1) := by decide +kernel
theorem dX6_left_44 : decode cX6_left 44 = .ok (.iload_n 2, 1) := by decide +kernel
theorem dX6_left_45 : decode cX6_left 45 = .ok (.ishl, 1) := by decide +kernel
theorem dX6_left_46 : decode cX6_left 46 = .ok (.goto 4, 3) := by decide +kernel
theorem dX6_left_49 : decode cX6_left 49 = .ok (.iconst 0, 1) := by decide +kernel
theorem dX6_left_50 : decode cX6_left 50 = .ok (.ior, 1) := by decide +kernel
theorem dX6_left_51 : decode cX6_left 51 = .ok (.istore_n 1, 1) := by decide +kernel
theorem dX6_left_52 : decode cX6_left 52 = .ok (.iinc 2 1, 3) := by decide +kernel
theorem dX6_left_55 : decode cX6_left 55 = .ok (.goto (-51), 3) := by decide +kernel
theorem dX6_left_58 : decode cX6_left 58 = .ok (.iload_n 1, 1) := by decide +kernel
theorem dX6_left_59 : decode cX6_left 59 = .ok (.ireturn, 1) := by decide +kernel
set_option maxRecDepth 20000 in
theorem ggX6_lodges_X6_left : GoodIn wsX6_lodges wsX6_left := goodIn_r _ [6, 7, 8, 9, 5, 10, 1, 11, 12, 13, 14, 15, 16, 17, 18, 19, 20, 21, 22, 23, 24, 25, 26, 27, 28, 29, 30, 31, 32, 33, 34, 35, 36, 37, 38, 39, 40, 41, 42, 43, 44, 45, 46, 47, 48, 49, 50, 51, 52, 53, 54, 55, 56, 57, 58, 59, 60, 61, 62] (by decide +kernel) (by decide +kernel)
set_option maxRecDepth 20000 in
theorem gX6_lodges_X6_left : GoodIn wsX6_lodges (wsV RX6 159 RX6 yX6_left wsX6_left) := goodIn_app (goodIn_of _ (by decide +kernel)) ggX6_lodges_X6_left
theorem dX6_lodges_0 : decode cX6_lodges 0 = .ok (.aload_n 0, 1) := by decide +kernel
theorem dX6_lodges_1 : decode cX6_lodges 1 = .ok (.getfield 13, 3) := by decide +kernel
theorem dX6_lodges_4 : decode cX6_lodges 4 = .ok (.iconst 0, 1) := by decide +kernel
theorem dX6_lodges_5 : decode cX6_lodges 5 = .ok (.iaload, 1) := by decide +kernel
theorem dX6_lodges_6 : decode cX6_lodges 6 = .ok (.ifCond .ne 8, 3) := by decide +kernel
theorem dX6_lodges_9 : decode cX6_lodges 9 = .ok (.bipush (-2), 2) := by decide +kernel
theorem dX6_lodges_11 : decode cX6_lodges 11 = .ok (.goto 7, 3) := by decide +kernel
theorem dX6_lodges_14 : decode cX6_lodges 14 = .ok (.aload_n 0, 1) := by decide +kernel
theorem dX6_lodges_15 : decode cX6_lodges 15 = .ok (.invokevirtual 159, 3) := by decide +kernel
theorem dX6_lodges_18 : decode cX6_lodges 18 = .ok (.ireturn, 1) := by decide +kernel
set_option maxRecDepth 20000 in
theorem ggX6_worst_X6_isPart : GoodIn wsX6_worst wsX6_isPart := goodIn_r _ [6, 7, 8, 9, 5, 10, 32, 33, 34, 35, 36, 37, 38, 39, 40, 41, 42, 43, 44, 45, 46, 47, 48, 49, 50, 51, 52, 53, 54, 55, 56, 57, 58, 59] (by decide +kernel) (by decide +kernel)
set_option maxRecDepth 20000 in
theorem gX6_worst_X6_isPart : GoodIn wsX6_worst (wsV RX6 112 RX6 yX6_isPart wsX6_isPart) := goodIn_app (goodIn_of _ (by decide +kernel)) ggX6_worst_X6_isPart
set_option maxRecDepth 20000 in
theorem ggX6_worst_X6_fits : GoodIn wsX6_worst wsX6_fits := goodIn_r _ [14, 15, 16, 17, 18, 19, 20, 5, 21, 22, 23, 24, 25, 26, 27, 7, 28, 29, 30, 31, 32, 33, 34, 35, 36, 37, 38, 39, 40, 41, 42, 43, 44, 45, 46, 47, 48, 49, 50, 51, 52, 53, 54, 55, 56, 57, 58, 59] (by decide +kernel) (by decide +kernel)
set_option maxRecDepth 20000 in
theorem gX6_worst_X6_fits : GoodIn wsX6_worst (wsV RX6 156 RX6 yX6_fits wsX6_fits) := goodIn_app (goodIn_of _ (by decide +kernel)) ggX6_worst_X6_fits
set_option maxRecDepth 20000 in
theorem ggX6_worst_X6_go : GoodIn wsX6_worst wsX6_go := goodIn_r _ [27, 7, 28, 23, 29, 30, 31, 22, 32, 33, 34, 35, 36, 37, 38, 39, 40, 41, 42, 43, 44, 45, 46, 47, 48, 49, 50, 51, 52, 53, 54, 55, 56, 57, 58, 59] (by decide +kernel) (by decide +kernel)
set_option maxRecDepth 20000 in
theorem gX6_worst_X6_go : GoodIn wsX6_worst (wsV RX6 122 RX6 yX6_go wsX6_go) := goodIn_app (goodIn_of _ (by decide +kernel)) ggX6_worst_X6_go
theorem dX6_worst_0 : decode cX6_worst 0 = .ok (.iconst 0, 1) := by decide +kernel
theorem dX6_worst_1 : decode cX6_worst 1 = .ok (.istore_n 2, 1) := by decide +kernel
theorem dX6_worst_2 : decode cX6_worst 2 = .ok (.iconst 0, 1) := by decide +kernel
theorem dX6_worst_3 : decode cX6_worst 3 = .ok (.istore_n 3, 1) := by decide +kernel
theorem dX6_worst_4 : decode cX6_worst 4 = .ok (.iload_n 3, 1) := by decide +kernel
theorem dX6_worst_5 : decode cX6_worst 5 = .ok (.bipush 9, 2) := by decide +kernel
theorem dX6_worst_7 : decode cX6_worst 7 = .ok (.if_icmp .gt 16, 3) := by decide +kernel
theorem dX6_worst_10 : decode cX6_worst 10 = .ok (.aload_n 0, 1) := by decide +kernel
theorem dX6_worst_11 : decode cX6_worst 11 = .ok (.getfield 60, 3) := by decide +kernel
theorem dX6_worst_14 : decode cX6_worst 14 = .ok (.iload_n 3, 1) := by decide +kernel
theorem dX6_worst_15 : decode cX6_worst 15 = .ok (.iconst 0, 1) := by decide +kernel
theorem dX6_worst_16 : decode cX6_worst 16 = .ok (.iastore, 1) := by decide +kernel
theorem dX6_worst_17 : decode cX6_worst 17 = .ok (.iinc 3 1, 3) := by decide +kernel
theorem dX6_worst_20 : decode cX6_worst 20 = .ok (.goto (-16), 3) := by decide +kernel
theorem dX6_worst_23 : decode cX6_worst 23 = .ok (.iconst 0, 1) := by decide +kernel
theorem dX6_worst_24 : decode cX6_worst 24 = .ok (.istore_n 3, 1) := by decide +kernel
theorem dX6_worst_25 : decode cX6_worst 25 = .ok (.iload_n 3, 1) := by decide +kernel
theorem dX6_worst_26 : decode cX6_worst 26 = .ok (.bipush 9, 2) := by decide +kernel
theorem dX6_worst_28 : decode cX6_worst 28 = .ok (.if_icmp .gt 88, 3) := by decide +kernel
theorem dX6_worst_31 : decode cX6_worst 31 = .ok (.iload_n 3, 1) := by decide +kernel
theorem dX6_worst_32 : decode cX6_worst 32 = .ok (.bipush 9, 2) := by decide +kernel
theorem dX6_worst_34 : decode cX6_worst 34 = .ok (.if_icmp .eq 11, 3) := by decide +kernel
theorem dX6_worst_37 : decode cX6_worst 37 = .ok (.aload_n 0, 1) := by decide +kernel
theorem dX6_worst_38 : decode cX6_worst 38 = .ok (.iload_n 3, 1) := by decide +kernel
theorem dX6_worst_39 : decode cX6_worst 39 = .ok (.invokevirtual 112, 3) := by decide +kernel
theorem dX6_worst_42 : decode cX6_worst 42 = .ok (.ifCond .eq 68, 3) := by decide +kernel
theorem dX6_worst_45 : decode cX6_worst 45 = .ok (.aload_n 0, 1) := by decide +kernel
theorem dX6_worst_46 : decode cX6_worst 46 = .ok (.iload_n 3, 1) := by decide +kernel
theorem dX6_worst_47 : decode cX6_worst 47 = .ok (.invokevirtual 156, 3) := by decide +kernel
theorem dX6_worst_50 : decode cX6_worst 50 = .ok (.ifCond .eq 60, 3) := by decide +kernel
theorem dX6_worst_53 : decode cX6_worst 53 = .ok (.aload_n 0, 1) := by decide +kernel
theorem dX6_worst_54 : decode cX6_worst 54 = .ok (.iload_n 1, 1) := by decide +kernel
theorem dX6_worst_55 : decode cX6_worst 55 = .ok (.invokevirtual 122, 3) := by decide +kernel
theorem dX6_worst_58 : decode cX6_worst 58 = .ok (.istore 4, 2) := by decide +kernel
theorem dX6_worst_60 : decode cX6_worst 60 = .ok (.iload 4, 2) := by decide +kernel
theorem dX6_worst_62 : decode cX6_worst 62 = .ok (.bipush (-9), 2) := by decide +kernel
theorem dX6_worst_64 : decode cX6_worst 64 = .ok (.if_icmp .ne 8, 3) := by decide +kernel
theorem dX6_worst_67 : decode cX6_worst 67 = .ok (.bipush 9, 2) := by decide +kernel
theorem dX6_worst_69 : decode cX6_worst 69 = .ok (.goto 5, 3) := by decide +kernel
theorem dX6_worst_72 : decode cX6_worst 72 = .ok (.iload 4, 2) := by decide +kernel
theorem dX6_worst_74 : decode cX6_worst 74 = .ok (.istore 4, 2) := by decide +kernel
theorem dX6_worst_76 : decode cX6_worst 76 = .ok (.aload_n 0, 1) := by decide +kernel
theorem dX6_worst_77 : decode cX6_worst 77 = .ok (.getfield 60, 3) := by decide +kernel
theorem dX6_worst_80 : decode cX6_worst 80 = .ok (.iload 4, 2) := by decide +kernel
theorem dX6_worst_82 : decode cX6_worst 82 = .ok (.dup2, 1) := by decide +kernel
theorem dX6_worst_83 : decode cX6_worst 83 = .ok (.iaload, 1) := by decide +kernel
theorem dX6_worst_84 : decode cX6_worst 84 = .ok (.iconst 1, 1) := by decide +kernel
theorem dX6_worst_85 : decode cX6_worst 85 = .ok (.iadd, 1) := by decide +kernel
theorem dX6_worst_86 : decode cX6_worst 86 = .ok (.iastore, 1) := by decide +kernel
theorem dX6_worst_87 : decode cX6_worst 87 = .ok (.aload_n 0, 1) := by decide +kernel
theorem dX6_worst_88 : decode cX6_worst 88 = .ok (.getfield 60, 3) := by decide +kernel
theorem dX6_worst_91 : decode cX6_worst 91 = .ok (.iload 4, 2) := by decide +kernel
theorem dX6_worst_93 : decode cX6_worst 93 = .ok (.iaload, 1) := by decide +kernel
theorem dX6_worst_94 : decode cX6_worst 94 = .ok (.iload_n 2, 1) := by decide +kernel
theorem dX6_worst_95 : decode cX6_worst 95 = .ok (.if_icmp .le 13, 3) := by decide +kernel
theorem dX6_worst_98 : decode cX6_worst 98 = .ok (.aload_n 0, 1) := by decide +kernel
theorem dX6_worst_99 : decode cX6_worst 99 = .ok (.getfield 60, 3) := by decide +kernel
theorem dX6_worst_102 : decode cX6_worst 102 = .ok (.iload 4, 2) := by decide +kernel
theorem dX6_worst_104 : decode cX6_worst 104 = .ok (.iaload, 1) := by decide +kernel
theorem dX6_worst_105 : decode cX6_worst 105 = .ok (.goto 4, 3) := by decide +kernel
theorem dX6_worst_108 : decode cX6_worst 108 = .ok (.iload_n 2, 1) := by decide +kernel
theorem dX6_worst_109 : decode cX6_worst 109 = .ok (.istore_n 2, 1) := by decide +kernel
theorem dX6_worst_110 : decode cX6_worst 110 = .ok (.iinc 3 1, 3) := by decide +kernel
theorem dX6_worst_113 : decode cX6_worst 113 = .ok (.goto (-88), 3) := by decide +kernel
theorem dX6_worst_116 : decode cX6_worst 116 = .ok (.iload_n 2, 1) := by decide +kernel
theorem dX6_worst_117 : decode cX6_worst 117 = .ok (.ireturn, 1) := by decide +kernel
set_option maxRecDepth 20000 in
theorem ggX6_trial_X6_in : GoodIn wsX6_trial wsX6_in := goodIn_r _ [5] (by decide +kernel) (by decide +kernel)
set_option maxRecDepth 20000 in
theorem gX6_trial_X6_in : GoodIn wsX6_trial (va_wsS RX6 63 yX6_in wsX6_in) := goodIn_app (goodIn_of _ (by decide +kernel)) ggX6_trial_X6_in
set_option maxRecDepth 20000 in
theorem ggX6_trial_X6_worst : GoodIn wsX6_trial wsX6_worst := goodIn_r _ [9, 10, 11, 12, 13, 4, 14, 1, 2, 3, 5, 15, 16, 17, 18, 19, 20, 21, 22, 23, 24, 25, 26, 27, 28, 29, 30, 31, 32, 33, 34, 35, 36, 37, 38, 39, 40, 41, 42, 43, 44, 45, 46, 47, 48, 49, 50, 51, 52, 53, 54, 55, 56, 57, 58, 59, 60, 61, 62, 63] (by decide +kernel) (by decide +kernel)
set_option maxRecDepth 20000 in
theorem gX6_trial_X6_worst : GoodIn wsX6_trial (wsV RX6 162 RX6 yX6_worst wsX6_worst) := goodIn_app (goodIn_of _ (by decide +kernel)) ggX6_trial_X6_worst
theorem dX6_trial_0 : decode cX6_trial 0 = .ok (.iload_n 1, 1) := by decide +kernel
theorem dX6_trial_1 : decode cX6_trial 1 = .ok (.iconst 0, 1) := by decide +kernel
theorem dX6_trial_2 : decode cX6_trial 2 = .ok (.iconst 1, 1) := by decide +kernel
theorem dX6_trial_3 : decode cX6_trial 3 = .ok (.invokestatic 63, 3) := by decide +kernel
theorem dX6_trial_6 : decode cX6_trial 6 = .ok (.ifCond .ne 5, 3) := by decide +kernel
theorem dX6_trial_9 : decode cX6_trial 9 = .ok (.iconst (-1), 1) := by decide +kernel
theorem dX6_trial_10 : decode cX6_trial 10 = .ok (.ireturn, 1) := by decide +kernel
theorem dX6_trial_11 : decode cX6_trial 11 = .ok (.aload_n 0, 1) := by decide +kernel
theorem dX6_trial_12 : decode cX6_trial 12 = .ok (.getfield 13, 3) := by decide +kernel
theorem dX6_trial_15 : decode cX6_trial 15 = .ok (.iconst 0, 1) := by decide +kernel
theorem dX6_trial_16 : decode cX6_trial 16 = .ok (.iaload, 1) := by decide +kernel
theorem dX6_trial_17 : decode cX6_trial 17 = .ok (.ifCond .ne 6, 3) := by decide +kernel
theorem dX6_trial_20 : decode cX6_trial 20 = .ok (.bipush (-2), 2) := by decide +kernel
theorem dX6_trial_22 : decode cX6_trial 22 = .ok (.ireturn, 1) := by decide +kernel
theorem dX6_trial_23 : decode cX6_trial 23 = .ok (.aload_n 0, 1) := by decide +kernel
theorem dX6_trial_24 : decode cX6_trial 24 = .ok (.iconst 0, 1) := by decide +kernel
theorem dX6_trial_25 : decode cX6_trial 25 = .ok (.invokevirtual 162, 3) := by decide +kernel
theorem dX6_trial_28 : decode cX6_trial 28 = .ok (.istore_n 2, 1) := by decide +kernel
theorem dX6_trial_29 : decode cX6_trial 29 = .ok (.aload_n 0, 1) := by decide +kernel
theorem dX6_trial_30 : decode cX6_trial 30 = .ok (.iconst 1, 1) := by decide +kernel
theorem dX6_trial_31 : decode cX6_trial 31 = .ok (.invokevirtual 162, 3) := by decide +kernel
theorem dX6_trial_34 : decode cX6_trial 34 = .ok (.istore_n 3, 1) := by decide +kernel
theorem dX6_trial_35 : decode cX6_trial 35 = .ok (.iload_n 2, 1) := by decide +kernel
theorem dX6_trial_36 : decode cX6_trial 36 = .ok (.ifCond .ne 6, 3) := by decide +kernel
theorem dX6_trial_39 : decode cX6_trial 39 = .ok (.bipush (-9), 2) := by decide +kernel
theorem dX6_trial_41 : decode cX6_trial 41 = .ok (.ireturn, 1) := by decide +kernel
theorem dX6_trial_42 : decode cX6_trial 42 = .ok (.iload_n 1, 1) := by decide +kernel
theorem dX6_trial_43 : decode cX6_trial 43 = .ok (.ifCond .ne 16, 3) := by decide +kernel
theorem dX6_trial_46 : decode cX6_trial 46 = .ok (.iload_n 3, 1) := by decide +kernel
theorem dX6_trial_47 : decode cX6_trial 47 = .ok (.iload_n 2, 1) := by decide +kernel
theorem dX6_trial_48 : decode cX6_trial 48 = .ok (.if_icmp .ge 7, 3) := by decide +kernel
theorem dX6_trial_51 : decode cX6_trial 51 = .ok (.iconst 1, 1) := by decide +kernel
theorem dX6_trial_52 : decode cX6_trial 52 = .ok (.goto 17, 3) := by decide +kernel
