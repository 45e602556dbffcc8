theorem dX6_house_169 : decode cX6_house 169 = .ok (.iastore, 1) := by decide +kernel
theorem dX6_house_170 : decode cX6_house 170 = .ok (.iinc 2 1, 3) := by decide +kernel
theorem dX6_house_173 : decode cX6_house 173 = .ok (.goto (-17), 3) := by decide +kernel
theorem dX6_house_176 : decode cX6_house 176 = .ok (.aload_n 0, 1) := by decide +kernel
theorem dX6_house_177 : decode cX6_house 177 = .ok (.getfield 29, 3) := by decide +kernel
theorem dX6_house_180 : decode cX6_house 180 = .ok (.bipush 18, 2) := by decide +kernel
theorem dX6_house_182 : decode cX6_house 182 = .ok (.bipush (-9), 2) := by decide +kernel
theorem dX6_house_184 : decode cX6_house 184 = .ok (.iastore, 1) := by decide +kernel
theorem dX6_house_185 : decode cX6_house 185 = .ok (.aload_n 0, 1) := by decide +kernel
theorem dX6_house_186 : decode cX6_house 186 = .ok (.iconst 0, 1) := by decide +kernel
theorem dX6_house_187 : decode cX6_house 187 = .ok (.putfield 109, 3) := by decide +kernel
theorem dX6_house_190 : decode cX6_house 190 = .ok (.aload_n 0, 1) := by decide +kernel
theorem dX6_house_191 : decode cX6_house 191 = .ok (.getfield 32, 3) := by decide +kernel
theorem dX6_house_194 : decode cX6_house 194 = .ok (.iconst 0, 1) := by decide +kernel
theorem dX6_house_195 : decode cX6_house 195 = .ok (.iconst 0, 1) := by decide +kernel
theorem dX6_house_196 : decode cX6_house 196 = .ok (.bastore, 1) := by decide +kernel
theorem dX6_house_197 : decode cX6_house 197 = .ok (.aload_n 0, 1) := by decide +kernel
theorem dX6_house_198 : decode cX6_house 198 = .ok (.getfield 32, 3) := by decide +kernel
theorem dX6_house_201 : decode cX6_house 201 = .ok (.iconst 1, 1) := by decide +kernel
theorem dX6_house_202 : decode cX6_house 202 = .ok (.iconst 0, 1) := by decide +kernel
theorem dX6_house_203 : decode cX6_house 203 = .ok (.bastore, 1) := by decide +kernel
theorem dX6_house_204 : decode cX6_house 204 = .ok (.aload_n 0, 1) := by decide +kernel
theorem dX6_house_205 : decode cX6_house 205 = .ok (.iconst 0, 1) := by decide +kernel
theorem dX6_house_206 : decode cX6_house 206 = .ok (.putfield 67, 3) := by decide +kernel
theorem dX6_house_209 : decode cX6_house 209 = .ok (.iload_n 1, 1) := by decide +kernel
theorem dX6_house_210 : decode cX6_house 210 = .ok (.ireturn, 1) := by decide +kernel
set_option maxRecDepth 20000 in
theorem ggX6_isPart_X6_in : GoodIn wsX6_isPart wsX6_in := goodIn_r _ [5] (by decide +kernel) (by decide +kernel)
set_option maxRecDepth 20000 in
theorem gX6_isPart_X6_in : GoodIn wsX6_isPart (va_wsS RX6 63 yX6_in wsX6_in) := goodIn_app (goodIn_of _ (by decide +kernel)) ggX6_isPart_X6_in
theorem dX6_isPart_0 : decode cX6_isPart 0 = .ok (.iload_n 1, 1) := by decide +kernel
theorem dX6_isPart_1 : decode cX6_isPart 1 = .ok (.iconst 0, 1) := by decide +kernel
theorem dX6_isPart_2 : decode cX6_isPart 2 = .ok (.aload_n 0, 1) := by decide +kernel
theorem dX6_isPart_3 : decode cX6_isPart 3 = .ok (.getfield 13, 3) := by decide +kernel
theorem dX6_isPart_6 : decode cX6_isPart 6 = .ok (.iconst 0, 1) := by decide +kernel
theorem dX6_isPart_7 : decode cX6_isPart 7 = .ok (.iaload, 1) := by decide +kernel
theorem dX6_isPart_8 : decode cX6_isPart 8 = .ok (.iconst 1, 1) := by decide +kernel
theorem dX6_isPart_9 : decode cX6_isPart 9 = .ok (.isub, 1) := by decide +kernel
theorem dX6_isPart_10 : decode cX6_isPart 10 = .ok (.invokestatic 63, 3) := by decide +kernel
theorem dX6_isPart_13 : decode cX6_isPart 13 = .ok (.ireturn, 1) := by decide +kernel
set_option maxRecDepth 20000 in
theorem ggX6_part_X6_isPart : GoodIn wsX6_part wsX6_isPart := goodIn_r _ [10, 11, 12, 13, 9, 14, 15, 16, 17, 18, 19, 20, 21, 22, 23, 24, 25, 26, 27, 28, 29, 30, 31, 32, 33, 34, 35, 36, 37, 38, 39, 40, 41, 42] (by decide +kernel) (by decide +kernel)
set_option maxRecDepth 20000 in
theorem gX6_part_X6_isPart : GoodIn wsX6_part (wsV RX6 112 RX6 yX6_isPart wsX6_isPart) := goodIn_app (goodIn_of _ (by decide +kernel)) ggX6_part_X6_isPart
theorem dX6_part_0 : decode cX6_part 0 = .ok (.aload_n 0, 1) := by decide +kernel
theorem dX6_part_1 : decode cX6_part 1 = .ok (.iload_n 1, 1) := by decide +kernel
theorem dX6_part_2 : decode cX6_part 2 = .ok (.invokevirtual 112, 3) := by decide +kernel
theorem dX6_part_5 : decode cX6_part 5 = .ok (.ifCond .ne 5, 3) := by decide +kernel
theorem dX6_part_8 : decode cX6_part 8 = .ok (.iconst (-1), 1) := by decide +kernel
theorem dX6_part_9 : decode cX6_part 9 = .ok (.ireturn, 1) := by decide +kernel
theorem dX6_part_10 : decode cX6_part 10 = .ok (.iload_n 2, 1) := by decide +kernel
theorem dX6_part_11 : decode cX6_part 11 = .ok (.tableswitch 82 0 5 #[37, 44, 51, 58, 65, 72], 37) := by decide +kernel
theorem dX6_part_48 : decode cX6_part 48 = .ok (.aload_n 0, 1) := by decide +kernel
theorem dX6_part_49 : decode cX6_part 49 = .ok (.getfield 17, 3) := by decide +kernel
theorem dX6_part_52 : decode cX6_part 52 = .ok (.iload_n 1, 1) := by decide +kernel
theorem dX6_part_53 : decode cX6_part 53 = .ok (.iaload, 1) := by decide +kernel
theorem dX6_part_54 : decode cX6_part 54 = .ok (.ireturn, 1) := by decide +kernel
theorem dX6_part_55 : decode cX6_part 55 = .ok (.aload_n 0, 1) := by decide +kernel
theorem dX6_part_56 : decode cX6_part 56 = .ok (.getfield 20, 3) := by decide +kernel
theorem dX6_part_59 : decode cX6_part 59 = .ok (.iload_n 1, 1) := by decide +kernel
theorem dX6_part_60 : decode cX6_part 60 = .ok (.iaload, 1) := by decide +kernel
theorem dX6_part_61 : decode cX6_part 61 = .ok (.ireturn, 1) := by decide +kernel
theorem dX6_part_62 : decode cX6_part 62 = .ok (.aload_n 0, 1) := by decide +kernel
theorem dX6_part_63 : decode cX6_part 63 = .ok (.getfield 23, 3) := by decide +kernel
theorem dX6_part_66 : decode cX6_part 66 = .ok (.iload_n 1, 1) := by decide +kernel
theorem dX6_part_67 : decode cX6_part 67 = .ok (.iaload, 1) := by decide +kernel
theorem dX6_part_68 : decode cX6_part 68 = .ok (.ireturn, 1) := by decide +kernel
theorem dX6_part_69 : decode cX6_part 69 = .ok (.aload_n 0, 1) := by decide +kernel
theorem dX6_part_70 : decode cX6_part 70 = .ok (.getfield 26, 3) := by decide +kernel
theorem dX6_part_73 : decode cX6_part 73 = .ok (.iload_n 1, 1) := by decide +kernel
theorem dX6_part_74 : decode cX6_part 74 = .ok (.iaload, 1) := by decide +kernel
theorem dX6_part_75 : decode cX6_part 75 = .ok (.ireturn, 1) := by decide +kernel
theorem dX6_part_76 : decode cX6_part 76 = .ok (.aload_n 0, 1) := by decide +kernel
theorem dX6_part_77 : decode cX6_part 77 = .ok (.getfield 29, 3) := by decide +kernel
theorem dX6_part_80 : decode cX6_part 80 = .ok (.iload_n 1, 1) := by decide +kernel
theorem dX6_part_81 : decode cX6_part 81 = .ok (.iaload, 1) := by decide +kernel
theorem dX6_part_82 : decode cX6_part 82 = .ok (.ireturn, 1) := by decide +kernel
theorem dX6_part_83 : decode cX6_part 83 = .ok (.aload_n 0, 1) := by decide +kernel
theorem dX6_part_84 : decode cX6_part 84 = .ok (.getfield 29, 3) := by decide +kernel
theorem dX6_part_87 : decode cX6_part 87 = .ok (.bipush 9, 2) := by decide +kernel
theorem dX6_part_89 : decode cX6_part 89 = .ok (.iload_n 1, 1) := by decide +kernel
theorem dX6_part_90 : decode cX6_part 90 = .ok (.iadd, 1) := by decide +kernel
theorem dX6_part_91 : decode cX6_part 91 = .ok (.iaload, 1) := by decide +kernel
theorem dX6_part_92 : decode cX6_part 92 = .ok (.ireturn, 1) := by decide +kernel
theorem dX6_part_93 : decode cX6_part 93 = .ok (.iconst (-1), 1) := by decide +kernel
theorem dX6_part_94 : decode cX6_part 94 = .ok (.ireturn, 1) := by decide +kernel
theorem dX6_go_0 : decode cX6_go 0 = .ok (.aload_n 0, 1) := by decide +kernel
theorem dX6_go_1 : decode cX6_go 1 = .ok (.getfield 13, 3) := by decide +kernel
theorem dX6_go_4 : decode cX6_go 4 = .ok (.iconst 0, 1) := by decide +kernel
theorem dX6_go_5 : decode cX6_go 5 = .ok (.iaload, 1) := by decide +kernel
theorem dX6_go_6 : decode cX6_go 6 = .ok (.iconst 1, 1) := by decide +kernel
theorem dX6_go_7 : decode cX6_go 7 = .ok (.isub, 1) := by decide +kernel
theorem dX6_go_8 : decode cX6_go 8 = .ok (.istore_n 2, 1) := by decide +kernel
theorem dX6_go_9 : decode cX6_go 9 = .ok (.aload_n 0, 1) := by decide +kernel
theorem dX6_go_10 : decode cX6_go 10 = .ok (.getfield 17, 3) := by decide +kernel
theorem dX6_go_13 : decode cX6_go 13 = .ok (.iload_n 2, 1) := by decide +kernel
theorem dX6_go_14 : decode cX6_go 14 = .ok (.iaload, 1) := by decide +kernel
theorem dX6_go_15 : decode cX6_go 15 = .ok (.ifCond .eq 155, 3) := by decide +kernel
theorem dX6_go_18 : decode cX6_go 18 = .ok (.iload_n 2, 1) := by decide +kernel
theorem dX6_go_19 : decode cX6_go 19 = .ok (.aload_n 0, 1) := by decide +kernel
theorem dX6_go_20 : decode cX6_go 20 = .ok (.getfield 116, 3) := by decide +kernel
theorem dX6_go_23 : decode cX6_go 23 = .ok (.if_icmp .ne 6, 3) := by decide +kernel
theorem dX6_go_26 : decode cX6_go 26 = .ok (.bipush (-9), 2) := by decide +kernel
theorem dX6_go_28 : decode cX6_go 28 = .ok (.ireturn, 1) := by decide +kernel
theorem dX6_go_29 : decode cX6_go 29 = .ok (.aload_n 0, 1) := by decide +kernel
theorem dX6_go_30 : decode cX6_go 30 = .ok (.getfield 26, 3) := by decide +kernel
theorem dX6_go_33 : decode cX6_go 33 = .ok (.iload_n 2, 1) := by decide +kernel
theorem dX6_go_34 : decode cX6_go 34 = .ok (.iaload, 1) := by decide +kernel
theorem dX6_go_35 : decode cX6_go 35 = .ok (.istore_n 3, 1) := by decide +kernel
theorem dX6_go_36 : decode cX6_go 36 = .ok (.aload_n 0, 1) := by decide +kernel
theorem dX6_go_37 : decode cX6_go 37 = .ok (.getfield 17, 3) := by decide +kernel
theorem dX6_go_40 : decode cX6_go 40 = .ok (.iload_n 2, 1) := by decide +kernel
theorem dX6_go_41 : decode cX6_go 41 = .ok (.iaload, 1) := by decide +kernel
theorem dX6_go_42 : decode cX6_go 42 = .ok (.iconst 2, 1) := by decide +kernel
theorem dX6_go_43 : decode cX6_go 43 = .ok (.if_icmp .ne 26, 3) := by decide +kernel
theorem dX6_go_46 : decode cX6_go 46 = .ok (.iload_n 1, 1) := by decide +kernel
theorem dX6_go_47 : decode cX6_go 47 = .ok (.ifCond .ne 12, 3) := by decide +kernel
theorem dX6_go_50 : decode cX6_go 50 = .ok (.aload_n 0, 1) := by decide +kernel
theorem dX6_go_51 : decode cX6_go 51 = .ok (.getfield 20, 3) := by decide +kernel
theorem dX6_go_54 : decode cX6_go 54 = .ok (.iload_n 2, 1) := by decide +kernel
theorem dX6_go_55 : decode cX6_go 55 = .ok (.iaload, 1) := by decide +kernel
theorem dX6_go_56 : decode cX6_go 56 = .ok (.goto 9, 3) := by decide +kernel
theorem dX6_go_59 : decode cX6_go 59 = .ok (.aload_n 0, 1) := by decide +kernel
theorem dX6_go_60 : decode cX6_go 60 = .ok (.getfield 23, 3) := by decide +kernel
theorem dX6_go_63 : decode cX6_go 63 = .ok (.iload_n 2, 1) := by decide +kernel
theorem dX6_go_64 : decode cX6_go 64 = .ok (.iaload, 1) := by decide +kernel
theorem dX6_go_65 : decode cX6_go 65 = .ok (.istore_n 2, 1) := by decide +kernel
theorem dX6_go_66 : decode cX6_go 66 = .ok (.goto 101, 3) := by decide +kernel
theorem dX6_go_69 : decode cX6_go 69 = .ok (.aload_n 0, 1) := by decide +kernel
theorem dX6_go_70 : decode cX6_go 70 = .ok (.getfield 17, 3) := by decide +kernel
theorem dX6_go_73 : decode cX6_go 73 = .ok (.iload_n 2, 1) := by decide +kernel
theorem dX6_go_74 : decode cX6_go 74 = .ok (.iaload, 1) := by decide +kernel
theorem dX6_go_75 : decode cX6_go 75 = .ok (.iconst 1, 1) := by decide +kernel
theorem dX6_go_76 : decode cX6_go 76 = .ok (.if_icmp .ne 54, 3) := by decide +kernel
theorem dX6_go_79 : decode cX6_go 79 = .ok (.aload_n 0, 1) := by decide +kernel
theorem dX6_go_80 : decode cX6_go 80 = .ok (.getfield 36, 3) := by decide +kernel
theorem dX6_go_83 : decode cX6_go 83 = .ok (.iload_n 2, 1) := by decide +kernel
theorem dX6_go_84 : decode cX6_go 84 = .ok (.iaload, 1) := by decide +kernel
theorem dX6_go_85 : decode cX6_go 85 = .ok (.iload_n 3, 1) := by decide +kernel
theorem dX6_go_86 : decode cX6_go 86 = .ok (.if_icmp .ge 12, 3) := by decide +kernel
theorem dX6_go_89 : decode cX6_go 89 = .ok (.aload_n 0, 1) := by decide +kernel
theorem dX6_go_90 : decode cX6_go 90 = .ok (.getfield 20, 3) := by decide +kernel
theorem dX6_go_93 : decode cX6_go 93 = .ok (.iload_n 2, 1) := by decide +kernel
theorem dX6_go_94 : decode cX6_go 94 = .ok (.iaload, 1) := by decide +kernel
theorem dX6_go_95 : decode cX6_go 95 = .ok (.goto 9, 3) := by decide +kernel
theorem dX6_go_98 : decode cX6_go 98 = .ok (.aload_n 0, 1) := by decide +kernel
theorem dX6_go_99 : decode cX6_go 99 = .ok (.getfield 23, 3) := by decide +kernel
theorem dX6_go_102 : decode cX6_go 102 = .ok (.iload_n 2, 1) := by decide +kernel
theorem dX6_go_103 : decode cX6_go 103 = .ok (.iaload, 1) := by decide +kernel
theorem dX6_go_104 : decode cX6_go 104 = .ok (.istore 4, 2) := by decide +kernel
theorem dX6_go_106 : decode cX6_go 106 = .ok (.aload_n 0, 1) := by decide +kernel
theorem dX6_go_107 : decode cX6_go 107 = .ok (.getfield 36, 3) := by decide +kernel
theorem dX6_go_110 : decode cX6_go 110 = .ok (.iload_n 2, 1) := by decide +kernel
theorem dX6_go_111 : decode cX6_go 111 = .ok (.aload_n 0, 1) := by decide +kernel
theorem dX6_go_112 : decode cX6_go 112 = .ok (.getfield 36, 3) := by decide +kernel
theorem dX6_go_115 : decode cX6_go 115 = .ok (.iload_n 2, 1) := by decide +kernel
theorem dX6_go_116 : decode cX6_go 116 = .ok (.iaload, 1) := by decide +kernel
theorem dX6_go_117 : decode cX6_go 117 = .ok (.iconst 1, 1) := by decide +kernel
theorem dX6_go_118 : decode cX6_go 118 = .ok (.iadd, 1) := by decide +kernel
theorem dX6_go_119 : decode cX6_go 119 = .ok (.iconst 2, 1) := by decide +kernel
theorem dX6_go_120 : decode cX6_go 120 = .ok (.iload_n 3, 1) := by decide +kernel
theorem dX6_go_121 : decode cX6_go 121 = .ok (.imul, 1) := by decide +kernel
theorem dX6_go_122 : decode cX6_go 122 = .ok (.irem, 1) := by decide +kernel
theorem dX6_go_123 : decode cX6_go 123 = .ok (.iastore, 1) := by decide +kernel
theorem dX6_go_124 : decode cX6_go 124 = .ok (.iload 4, 2) := by decide +kernel
theorem dX6_go_126 : decode cX6_go 126 = .ok (.istore_n 2, 1) := by decide +kernel
theorem dX6_go_127 : decode cX6_go 127 = .ok (.goto 40, 3) := by decide +kernel
theorem dX6_go_130 : decode cX6_go 130 = .ok (.aload_n 0, 1) := by decide +kernel
theorem dX6_go_131 : decode cX6_go 131 = .ok (.getfield 36, 3) := by decide +kernel
theorem dX6_go_134 : decode cX6_go 134 = .ok (.iload_n 2, 1) := by decide +kernel
theorem dX6_go_135 : decode cX6_go 135 = .ok (.dup2, 1) := by decide +kernel
theorem dX6_go_136 : decode cX6_go 136 = .ok (.iaload, 1) := by decide +kernel
theorem dX6_go_137 : decode cX6_go 137 = .ok (.iconst 1, 1) := by decide +kernel
theorem dX6_go_138 : decode cX6_go 138 = .ok (.iadd, 1) := by decide +kernel
theorem dX6_go_139 : decode cX6_go 139 = .ok (.iastore, 1) := by decide +kernel
theorem dX6_go_140 : decode cX6_go 140 = .ok (.aload_n 0, 1) := by decide +kernel
theorem dX6_go_141 : decode cX6_go 141 = .ok (.getfield 36, 3) := by decide +kernel
theorem dX6_go_144 : decode cX6_go 144 = .ok (.iload_n 2, 1) := by decide +kernel
theorem dX6_go_145 : decode cX6_go 145 = .ok (.iaload, 1) := by decide +kernel
theorem dX6_go_146 : decode cX6_go 146 = .ok (.iload_n 3, 1) := by decide +kernel
theorem dX6_go_147 : decode cX6_go 147 = .ok (.if_icmp .ge 6, 3) := by decide +kernel
theorem dX6_go_150 : decode cX6_go 150 = .ok (.bipush (-9), 2) := by decide +kernel
theorem dX6_go_152 : decode cX6_go 152 = .ok (.ireturn, 1) := by decide +kernel
theorem dX6_go_153 : decode cX6_go 153 = .ok (.aload_n 0, 1) := by decide +kernel
theorem dX6_go_154 : decode cX6_go 154 = .ok (.getfield 36, 3) := by decide +kernel
theorem dX6_go_157 : decode cX6_go 157 = .ok (.iload_n 2, 1) := by decide +kernel
theorem dX6_go_158 : decode cX6_go 158 = .ok (.iconst 0, 1) := by decide +kernel
theorem dX6_go_159 : decode cX6_go 159 = .ok (.iastore, 1) := by decide +kernel
theorem dX6_go_160 : decode cX6_go 160 = .ok (.aload_n 0, 1) := by decide +kernel
theorem dX6_go_161 : decode cX6_go 161 = .ok (.getfield 20, 3) := by decide +kernel
theorem dX6_go_164 : decode cX6_go 164 = .ok (.iload_n 2, 1) := by decide +kernel
theorem dX6_go_165 : decode cX6_go 165 = .ok (.iaload, 1) := by decide +kernel
theorem dX6_go_166 : decode cX6_go 166 = .ok (.istore_n 2, 1) := by decide +kernel
theorem dX6_go_167 : decode cX6_go 167 = .ok (.goto (-158), 3) := by decide +kernel
theorem dX6_go_170 : decode cX6_go 170 = .ok (.iload_n 2, 1) := by decide +kernel
theorem dX6_go_171 : decode cX6_go 171 = .ok (.aload_n 0, 1) := by decide +kernel
theorem dX6_go_172 : decode cX6_go 172 = .ok (.getfield 116, 3) := by decide +kernel
theorem dX6_go_175 : decode cX6_go 175 = .ok (.if_icmp .ne 8, 3) := by decide +kernel
theorem dX6_go_178 : decode cX6_go 178 = .ok (.bipush (-9), 2) := by decide +kernel
theorem dX6_go_180 : decode cX6_go 180 = .ok (.goto 4, 3) := by decide +kernel
theorem dX6_go_183 : decode cX6_go 183 = .ok (.iload_n 2, 1) := by decide +kernel
theorem dX6_go_184 : decode cX6_go 184 = .ok (.ireturn, 1) := by decide +kernel
theorem dX6_fromNow_0 : decode cX6_fromNow 0 = .ok (.iconst 0, 1) := by decide +kernel
theorem dX6_fromNow_1 : decode cX6_fromNow 1 = .ok (.istore_n 1, 1) := by decide +kernel
theorem dX6_fromNow_2 : decode cX6_fromNow 2 = .ok (.iload_n 1, 1) := by decide +kernel
theorem dX6_fromNow_3 : decode cX6_fromNow 3 = .ok (.bipush 9, 2) := by decide +kernel
theorem dX6_fromNow_5 : decode cX6_fromNow 5 = .ok (.if_icmp .ge 21, 3) := by decide +kernel
theorem dX6_fromNow_8 : decode cX6_fromNow 8 = .ok (.aload_n 0, 1) := by decide +kernel
theorem dX6_fromNow_9 : decode cX6_fromNow 9 = .ok (.getfield 36, 3) := by decide +kernel
theorem dX6_fromNow_12 : decode cX6_fromNow 12 = .ok (.iload_n 1, 1) := by decide +kernel
theorem dX6_fromNow_13 : decode cX6_fromNow 13 = .ok (.aload_n 0, 1) := by decide +kernel
theorem dX6_fromNow_14 : decode cX6_fromNow 14 = .ok (.getfield 29, 3) := by decide +kernel
theorem dX6_fromNow_17 : decode cX6_fromNow 17 = .ok (.iload_n 1, 1) := by decide +kernel
theorem dX6_fromNow_18 : decode cX6_fromNow 18 = .ok (.iaload, 1) := by decide +kernel
theorem dX6_fromNow_19 : decode cX6_fromNow 19 = .ok (.iastore, 1) := by decide +kernel
theorem dX6_fromNow_20 : decode cX6_fromNow 20 = .ok (.iinc 1 1, 3) := by decide +kernel
theorem dX6_fromNow_23 : decode cX6_fromNow 23 = .ok (.goto (-21), 3) := by decide +kernel
theorem dX6_fromNow_26 : decode cX6_fromNow 26 = .ok (.aload_n 0, 1) := by decide +kernel
theorem dX6_fromNow_27 : decode cX6_fromNow 27 = .ok (.aload_n 0, 1) := by decide +kernel
theorem dX6_fromNow_28 : decode cX6_fromNow 28 = .ok (.getfield 29, 3) := by decide +kernel
theorem dX6_fromNow_31 : decode cX6_fromNow 31 = .ok (.bipush 18, 2) := by decide +kernel
theorem dX6_fromNow_33 : decode cX6_fromNow 33 = .ok (.iaload, 1) := by decide +kernel
theorem dX6_fromNow_34 : decode cX6_fromNow 34 = .ok (.putfield 116, 3) := by decide +kernel
theorem dX6_fromNow_37 : decode cX6_fromNow 37 = .ok (.return_, 1) := by decide +kernel
theorem dX6_fromBeginning_0 : decode cX6_fromBeginning 0 = .ok (.iconst 0, 1) := by decide +kernel
theorem dX6_fromBeginning_1 : decode cX6_fromBeginning 1 = .ok (.istore_n 2, 1) := by decide +kernel
theorem dX6_fromBeginning_2 : decode cX6_fromBeginning 2 = .ok (.iload_n 2, 1) := by decide +kernel
theorem dX6_fromBeginning_3 : decode cX6_fromBeginning 3 = .ok (.bipush 9, 2) := by decide +kernel
theorem dX6_fromBeginning_5 : decode cX6_fromBeginning 5 = .ok (.if_icmp .ge 16, 3) := by decide +kernel
theorem dX6_fromBeginning_8 : decode cX6_fromBeginning 8 = .ok (.aload_n 0, 1) := by decide +kernel
theorem dX6_fromBeginning_9 : decode cX6_fromBeginning 9 = .ok (.getfield 36, 3) := by decide +kernel
theorem dX6_fromBeginning_12 : decode cX6_fromBeginning 12 = .ok (.iload_n 2, 1) := by decide +kernel
theorem dX6_fromBeginning_13 : decode cX6_fromBeginning 13 = .ok (.iconst 0, 1) := by decide +kernel
theorem dX6_fromBeginning_14 : decode cX6_fromBeginning 14 = .ok (.iastore, 1) := by decide +kernel
theorem dX6_fromBeginning_15 : decode cX6_fromBeginning 15 = .ok (.iinc 2 1, 3) := by decide +kernel
theorem dX6_fromBeginning_18 : decode cX6_fromBeginning 18 = .ok (.goto (-16), 3) := by decide +kernel
theorem dX6_fromBeginning_21 : decode cX6_fromBeginning 21 = .ok (.aload_n 0, 1) := by decide +kernel
theorem dX6_fromBeginning_22 : decode cX6_fromBeginning 22 = .ok (.iload_n 1, 1) := by decide +kernel
theorem dX6_fromBeginning_23 : decode cX6_fromBeginning 23 = .ok (.putfield 116, 3) := by decide +kernel
theorem dX6_fromBeginning_26 : decode cX6_fromBeginning 26 = .ok (.return_, 1) := by decide +kernel
theorem dX6_isAsNow_0 : decode cX6_isAsNow 0 = .ok (.iconst 1, 1) := by decide +kernel
theorem dX6_isAsNow_1 : decode cX6_isAsNow 1 = .ok (.istore_n 1, 1) := by decide +kernel
theorem dX6_isAsNow_2 : decode cX6_isAsNow 2 = .ok (.iconst 0, 1) := by decide +kernel
theorem dX6_isAsNow_3 : decode cX6_isAsNow 3 = .ok (.istore_n 2, 1) := by decide +kernel
theorem dX6_isAsNow_4 : decode cX6_isAsNow 4 = .ok (.iload_n 2, 1) := by decide +kernel
theorem dX6_isAsNow_5 : decode cX6_isAsNow 5 = .ok (.aload_n 0, 1) := by decide +kernel
theorem dX6_isAsNow_6 : decode cX6_isAsNow 6 = .ok (.getfield 13, 3) := by decide +kernel
theorem dX6_isAsNow_9 : decode cX6_isAsNow 9 = .ok (.iconst 0, 1) := by decide +kernel
theorem dX6_isAsNow_10 : decode cX6_isAsNow 10 = .ok (.iaload, 1) := by decide +kernel
theorem dX6_isAsNow_11 : decode cX6_isAsNow 11 = .ok (.if_icmp .ge 34, 3) := by decide +kernel
theorem dX6_isAsNow_14 : decode cX6_isAsNow 14 = .ok (.iload_n 1, 1) := by decide +kernel
theorem dX6_isAsNow_15 : decode cX6_isAsNow 15 = .ok (.ifCond .eq 22, 3) := by decide +kernel
theorem dX6_isAsNow_18 : decode cX6_isAsNow 18 = .ok (.aload_n 0, 1) := by decide +kernel
theorem dX6_isAsNow_19 : decode cX6_isAsNow 19 = .ok (.getfield 36, 3) := by decide +kernel
theorem dX6_isAsNow_22 : decode cX6_isAsNow 22 = .ok (.iload_n 2, 1) := by decide +kernel
theorem dX6_isAsNow_23 : decode cX6_isAsNow 23 = .ok (.iaload, 1) := by decide +kernel
theorem dX6_isAsNow_24 : decode cX6_isAsNow 24 = .ok (.aload_n 0, 1) := by decide +kernel
theorem dX6_isAsNow_25 : decode cX6_isAsNow 25 = .ok (.getfield 29, 3) := by decide +kernel
theorem dX6_isAsNow_28 : decode cX6_isAsNow 28 = .ok (.iload_n 2, 1) := by decide +kernel
theorem dX6_isAsNow_29 : decode cX6_isAsNow 29 = .ok (.iaload, 1) := by decide +kernel
theorem dX6_isAsNow_30 : decode cX6_isAsNow 30 = .ok (.if_icmp .ne 7, 3) := by decide +kernel
theorem dX6_isAsNow_33 : decode cX6_isAsNow 33 = .ok (.iconst 1, 1) := by decide +kernel
theorem dX6_isAsNow_34 : decode cX6_isAsNow 34 = .ok (.goto 4, 3) := by decide +kernel
theorem dX6_isAsNow_37 : decode cX6_isAsNow 37 = .ok (.iconst 0, 1) := by decide +kernel
theorem dX6_isAsNow_38 : decode cX6_isAsNow 38 = .ok (.istore_n 1, 1) := by decide +kernel
theorem dX6_isAsNow_39 : decode cX6_isAsNow 39 = .ok (.iinc 2 1, 3) := by decide +kernel
theorem dX6_isAsNow_42 : decode cX6_isAsNow 42 = .ok (.goto (-38), 3) := by decide +kernel
theorem dX6_isAsNow_45 : decode cX6_isAsNow 45 = .ok (.iload_n 1, 1) := by decide +kernel
theorem dX6_isAsNow_46 : decode cX6_isAsNow 46 = .ok (.ireturn, 1) := by decide +kernel
set_option maxRecDepth 20000 in
theorem ggX6_let_X6_in : GoodIn wsX6_let wsX6_in := goodIn_r _ [7] (by decide +kernel) (by decide +kernel)
set_option maxRecDepth 20000 in
theorem gX6_let_X6_in : GoodIn wsX6_let (va_wsS RX6 63 yX6_in wsX6_in) := goodIn_app (goodIn_of _ (by decide +kernel)) ggX6_let_X6_in
set_option maxRecDepth 20000 in
theorem ggX6_let_X6_fromNow : GoodIn wsX6_let wsX6_fromNow := goodIn_r _ [11, 3, 2, 12, 21, 22, 23, 24, 25, 26, 27, 28, 29, 30, 31, 32, 33, 34, 35, 36, 37, 38, 39, 40, 41, 42, 43, 44, 45, 46, 47, 48] (by decide +kernel) (by decide +kernel)
set_option maxRecDepth 20000 in
theorem gX6_let_X6_fromNow : GoodIn wsX6_let (wsV RX6 119 RX6 yX6_fromNow wsX6_fromNow) := goodIn_app (goodIn_of _ (by decide +kernel)) ggX6_let_X6_fromNow
set_option maxRecDepth 20000 in
theorem ggX6_let_X6_go : GoodIn wsX6_let wsX6_go := goodIn_r _ [16, 1, 17, 12, 18, 19, 20, 3, 21, 22, 23, 24, 25, 26, 27, 28, 29, 30, 31, 32, 33, 34, 35, 36, 37, 38, 39, 40, 41, 42, 43, 44, 45, 46, 47, 48] (by decide +kernel) (by decide +kernel)
set_option maxRecDepth 20000 in
theorem gX6_let_X6_go : GoodIn wsX6_let (wsV RX6 122 RX6 yX6_go wsX6_go) := goodIn_app (goodIn_of _ (by decide +kernel)) ggX6_let_X6_go
theorem dX6_let_0 : decode cX6_let 0 = .ok (.iload_n 1, 1) := by decide +kernel
theorem dX6_let_1 : decode cX6_let 1 = .ok (.iconst 0, 1) := by decide +kernel
theorem dX6_let_2 : decode cX6_let 2 = .ok (.iconst 1, 1) := by decide +kernel
theorem dX6_let_3 : decode cX6_let 3 = .ok (.invokestatic 63, 3) := by decide +kernel
theorem dX6_let_6 : decode cX6_let 6 = .ok (.ifCond .ne 5, 3) := by decide +kernel
theorem dX6_let_9 : decode cX6_let 9 = .ok (.iconst (-1), 1) := by decide +kernel
theorem dX6_let_10 : decode cX6_let 10 = .ok (.ireturn, 1) := by decide +kernel
theorem dX6_let_11 : decode cX6_let 11 = .ok (.aload_n 0, 1) := by decide +kernel
theorem dX6_let_12 : decode cX6_let 12 = .ok (.getfield 13, 3) := by decide +kernel
theorem dX6_let_15 : decode cX6_let 15 = .ok (.iconst 0, 1) := by decide +kernel
theorem dX6_let_16 : decode cX6_let 16 = .ok (.iaload, 1) := by decide +kernel
theorem dX6_let_17 : decode cX6_let 17 = .ok (.ifCond .ne 6, 3) := by decide +kernel
theorem dX6_let_20 : decode cX6_let 20 = .ok (.bipush (-2), 2) := by decide +kernel
theorem dX6_let_22 : decode cX6_let 22 = .ok (.ireturn, 1) := by decide +kernel
theorem dX6_let_23 : decode cX6_let 23 = .ok (.aload_n 0, 1) := by decide +kernel
theorem dX6_let_24 : decode cX6_let 24 = .ok (.getfield 29, 3) := by decide +kernel
theorem dX6_let_27 : decode cX6_let 27 = .ok (.bipush 19, 2) := by decide +kernel
theorem dX6_let_29 : decode cX6_let 29 = .ok (.iaload, 1) := by decide +kernel
theorem dX6_let_30 : decode cX6_let 30 = .ok (.bipush 100, 2) := by decide +kernel
theorem dX6_let_32 : decode cX6_let 32 = .ok (.if_icmp .ne 6, 3) := by decide +kernel
theorem dX6_let_35 : decode cX6_let 35 = .ok (.bipush (-3), 2) := by decide +kernel
theorem dX6_let_37 : decode cX6_let 37 = .ok (.ireturn, 1) := by decide +kernel
theorem dX6_let_38 : decode cX6_let 38 = .ok (.aload_n 0, 1) := by decide +kernel
theorem dX6_let_39 : decode cX6_let 39 = .ok (.getfield 29, 3) := by decide +kernel
theorem dX6_let_42 : decode cX6_let 42 = .ok (.bipush 20, 2) := by decide +kernel
theorem dX6_let_44 : decode cX6_let 44 = .ok (.iaload, 1) := by decide +kernel
theorem dX6_let_45 : decode cX6_let 45 = .ok (.bipush 20, 2) := by decide +kernel
theorem dX6_let_47 : decode cX6_let 47 = .ok (.if_icmp .ne 47, 3) := by decide +kernel
theorem dX6_let_50 : decode cX6_let 50 = .ok (.iconst 0, 1) := by decide +kernel
theorem dX6_let_51 : decode cX6_let 51 = .ok (.istore_n 2, 1) := by decide +kernel
theorem dX6_let_52 : decode cX6_let 52 = .ok (.iload_n 2, 1) := by decide +kernel
theorem dX6_let_53 : decode cX6_let 53 = .ok (.sipush 342, 3) := by decide +kernel
theorem dX6_let_56 : decode cX6_let 56 = .ok (.if_icmp .ge 27, 3) := by decide +kernel
theorem dX6_let_59 : decode cX6_let 59 = .ok (.aload_n 0, 1) := by decide +kernel
theorem dX6_let_60 : decode cX6_let 60 = .ok (.getfield 29, 3) := by decide +kernel
theorem dX6_let_63 : decode cX6_let 63 = .ok (.bipush 21, 2) := by decide +kernel
theorem dX6_let_65 : decode cX6_let 65 = .ok (.iload_n 2, 1) := by decide +kernel
theorem dX6_let_66 : decode cX6_let 66 = .ok (.iadd, 1) := by decide +kernel
theorem dX6_let_67 : decode cX6_let 67 = .ok (.aload_n 0, 1) := by decide +kernel
theorem dX6_let_68 : decode cX6_let 68 = .ok (.getfield 29, 3) := by decide +kernel
theorem dX6_let_71 : decode cX6_let 71 = .ok (.bipush 39, 2) := by decide +kernel
theorem dX6_let_73 : decode cX6_let 73 = .ok (.iload_n 2, 1) := by decide +kernel
theorem dX6_let_74 : decode cX6_let 74 = .ok (.iadd, 1) := by decide +kernel
theorem dX6_let_75 : decode cX6_let 75 = .ok (.iaload, 1) := by decide +kernel
theorem dX6_let_76 : decode cX6_let 76 = .ok (.iastore, 1) := by decide +kernel
theorem dX6_let_77 : decode cX6_let 77 = .ok (.iinc 2 1, 3) := by decide +kernel
theorem dX6_let_80 : decode cX6_let 80 = .ok (.goto (-28), 3) := by decide +kernel
theorem dX6_let_83 : decode cX6_let 83 = .ok (.aload_n 0, 1) := by decide +kernel
theorem dX6_let_84 : decode cX6_let 84 = .ok (.getfield 29, 3) := by decide +kernel
theorem dX6_let_87 : decode cX6_let 87 = .ok (.bipush 20, 2) := by decide +kernel
theorem dX6_let_89 : decode cX6_let 89 = .ok (.dup2, 1) := by decide +kernel
theorem dX6_let_90 : decode cX6_let 90 = .ok (.iaload, 1) := by decide +kernel
theorem dX6_let_91 : decode cX6_let 91 = .ok (.iconst 1, 1) := by decide +kernel
theorem dX6_let_92 : decode cX6_let 92 = .ok (.isub, 1) := by decide +kernel
theorem dX6_let_93 : decode cX6_let 93 = .ok (.iastore, 1) := by decide +kernel
theorem dX6_let_94 : decode cX6_let 94 = .ok (.iconst 0, 1) := by decide +kernel
theorem dX6_let_95 : decode cX6_let 95 = .ok (.istore_n 2, 1) := by decide +kernel
theorem dX6_let_96 : decode cX6_let 96 = .ok (.iload_n 2, 1) := by decide +kernel
theorem dX6_let_97 : decode cX6_let 97 = .ok (.bipush 18, 2) := by decide +kernel
theorem dX6_let_99 : decode cX6_let 99 = .ok (.if_icmp .ge 35, 3) := by decide +kernel
theorem dX6_let_102 : decode cX6_let 102 = .ok (.aload_n 0, 1) := by decide +kernel
theorem dX6_let_103 : decode cX6_let 103 = .ok (.getfield 29, 3) := by decide +kernel
theorem dX6_let_106 : decode cX6_let 106 = .ok (.bipush 21, 2) := by decide +kernel
theorem dX6_let_108 : decode cX6_let 108 = .ok (.bipush 18, 2) := by decide +kernel
theorem dX6_let_110 : decode cX6_let 110 = .ok (.aload_n 0, 1) := by decide +kernel
theorem dX6_let_111 : decode cX6_let 111 = .ok (.getfield 29, 3) := by decide +kernel
theorem dX6_let_114 : decode cX6_let 114 = .ok (.bipush 20, 2) := by decide +kernel
theorem dX6_let_116 : decode cX6_let 116 = .ok (.iaload, 1) := by decide +kernel
theorem dX6_let_117 : decode cX6_let 117 = .ok (.imul, 1) := by decide +kernel
theorem dX6_let_118 : decode cX6_let 118 = .ok (.iadd, 1) := by decide +kernel
theorem dX6_let_119 : decode cX6_let 119 = .ok (.iload_n 2, 1) := by decide +kernel
theorem dX6_let_120 : decode cX6_let 120 = .ok (.iadd, 1) := by decide +kernel
theorem dX6_let_121 : decode cX6_let 121 = .ok (.aload_n 0, 1) := by decide +kernel
theorem dX6_let_122 : decode cX6_let 122 = .ok (.getfield 29, 3) := by decide +kernel
theorem dX6_let_125 : decode cX6_let 125 = .ok (.iload_n 2, 1) := by decide +kernel
theorem dX6_let_126 : decode cX6_let 126 = .ok (.iaload, 1) := by decide +kernel
theorem dX6_let_127 : decode cX6_let 127 = .ok (.iastore, 1) := by decide +kernel
theorem dX6_let_128 : decode cX6_let 128 = .ok (.iinc 2 1, 3) := by decide +kernel
theorem dX6_let_131 : decode cX6_let 131 = .ok (.goto (-35), 3) := by decide +kernel
theorem dX6_let_134 : decode cX6_let 134 = .ok (.aload_n 0, 1) := by decide +kernel
theorem dX6_let_135 : decode cX6_let 135 = .ok (.getfield 29, 3) := by decide +kernel
theorem dX6_let_138 : decode cX6_let 138 = .ok (.bipush 20, 2) := by decide +kernel
theorem dX6_let_140 : decode cX6_let 140 = .ok (.dup2, 1) := by decide +kernel
theorem dX6_let_141 : decode cX6_let 141 = .ok (.iaload, 1) := by decide +kernel
theorem dX6_let_142 : decode cX6_let 142 = .ok (.iconst 1, 1) := by decide +kernel
theorem dX6_let_143 : decode cX6_let 143 = .ok (.iadd, 1) := by decide +kernel
theorem dX6_let_144 : decode cX6_let 144 = .ok (.iastore, 1) := by decide +kernel
theorem dX6_let_145 : decode cX6_let 145 = .ok (.aload_n 0, 1) := by decide +kernel
theorem dX6_let_146 : decode cX6_let 146 = .ok (.invokevirtual 119, 3) := by decide +kernel
theorem dX6_let_149 : decode cX6_let 149 = .ok (.aload_n 0, 1) := by decide +kernel
theorem dX6_let_150 : decode cX6_let 150 = .ok (.iload_n 1, 1) := by decide +kernel
theorem dX6_let_151 : decode cX6_let 151 = .ok (.invokevirtual 122, 3) := by decide +kernel
theorem dX6_let_154 : decode cX6_let 154 = .ok (.istore_n 2, 1) := by decide +kernel
theorem dX6_let_155 : decode cX6_let 155 = .ok (.iconst 0, 1) := by decide +kernel
theorem dX6_let_156 : decode cX6_let 156 = .ok (.istore_n 3, 1) := by decide +kernel
theorem dX6_let_157 : decode cX6_let 157 = .ok (.iload_n 3, 1) := by decide +kernel
theorem dX6_let_158 : decode cX6_let 158 = .ok (.bipush 9, 2) := by decide +kernel
theorem dX6_let_160 : decode cX6_let 160 = .ok (.if_icmp .ge 21, 3) := by decide +kernel
theorem dX6_let_163 : decode cX6_let 163 = .ok (.aload_n 0, 1) := by decide +kernel
theorem dX6_let_164 : decode cX6_let 164 = .ok (.getfield 29, 3) := by decide +kernel
theorem dX6_let_167 : decode cX6_let 167 = .ok (.iload_n 3, 1) := by decide +kernel
theorem dX6_let_168 : decode cX6_let 168 = .ok (.aload_n 0, 1) := by decide +kernel
theorem dX6_let_169 : decode cX6_let 169 = .ok (.getfield 36, 3) := by decide +kernel
theorem dX6_let_172 : decode cX6_let 172 = .ok (.iload_n 3, 1) := by decide +kernel
theorem dX6_let_173 : decode cX6_let 173 = .ok (.iaload, 1) := by decide +kernel
theorem dX6_let_174 : decode cX6_let 174 = .ok (.iastore, 1) := by decide +kernel
theorem dX6_let_175 : decode cX6_let 175 = .ok (.iinc 3 1, 3) := by decide +kernel
theorem dX6_let_178 : decode cX6_let 178 = .ok (.goto (-21), 3) := by decide +kernel
theorem dX6_let_181 : decode cX6_let 181 = .ok (.iload_n 2, 1) := by decide +kernel
theorem dX6_let_182 : decode cX6_let 182 = .ok (.bipush (-9), 2) := by decide +kernel
theorem dX6_let_184 : decode cX6_let 184 = .ok (.if_icmp .eq 16, 3) := by decide +kernel
theorem dX6_let_187 : decode cX6_let 187 = .ok (.aload_n 0, 1) := by decide +kernel
theorem dX6_let_188 : decode cX6_let 188 = .ok (.getfield 29, 3) := by decide +kernel
theorem dX6_let_191 : decode cX6_let 191 = .ok (.bipush 9, 2) := by decide +kernel
theorem dX6_let_193 : decode cX6_let 193 = .ok (.iload_n 2, 1) := by decide +kernel
theorem dX6_let_194 : decode cX6_let 194 = .ok (.iadd, 1) := by decide +kernel
theorem dX6_let_195 : decode cX6_let 195 = .ok (.dup2, 1) := by decide +kernel
theorem dX6_let_196 : decode cX6_let 196 = .ok (.iaload, 1) := by decide +kernel
theorem dX6_let_197 : decode cX6_let 197 = .ok (.iconst 1, 1) := by decide +kernel
theorem dX6_let_198 : decode cX6_let 198 = .ok (.iadd, 1) := by decide +kernel
theorem dX6_let_199 : decode cX6_let 199 = .ok (.iastore, 1) := by decide +kernel
theorem dX6_let_200 : decode cX6_let 200 = .ok (.aload_n 0, 1) := by decide +kernel
theorem dX6_let_201 : decode cX6_let 201 = .ok (.getfield 29, 3) := by decide +kernel
theorem dX6_let_204 : decode cX6_let 204 = .ok (.bipush 19, 2) := by decide +kernel
theorem dX6_let_206 : decode cX6_let 206 = .ok (.dup2, 1) := by decide +kernel
theorem dX6_let_207 : decode cX6_let 207 = .ok (.iaload, 1) := by decide +kernel
theorem dX6_let_208 : decode cX6_let 208 = .ok (.iconst 1, 1) := by decide +kernel
theorem dX6_let_209 : decode cX6_let 209 = .ok (.iadd, 1) := by decide +kernel
theorem dX6_let_210 : decode cX6_let 210 = .ok (.iastore, 1) := by decide +kernel
theorem dX6_let_211 : decode cX6_let 211 = .ok (.iload_n 2, 1) := by decide +kernel
theorem dX6_let_212 : decode cX6_let 212 = .ok (.ireturn, 1) := by decide +kernel
theorem dX6_undo_0 : decode cX6_undo 0 = .ok (.aload_n 0, 1) := by decide +kernel
theorem dX6_undo_1 : decode cX6_undo 1 = .ok (.getfield 29, 3) := by decide +kernel
theorem dX6_undo_4 : decode cX6_undo 4 = .ok (.bipush 20, 2) := by decide +kernel
theorem dX6_undo_6 : decode cX6_undo 6 = .ok (.iaload, 1) := by decide +kernel
theorem dX6_undo_7 : decode cX6_undo 7 = .ok (.ifCond .ne 6, 3) := by decide +kernel
theorem dX6_undo_10 : decode cX6_undo 10 = .ok (.bipush (-2), 2) := by decide +kernel
theorem dX6_undo_12 : decode cX6_undo 12 = .ok (.ireturn, 1) := by decide +kernel
theorem dX6_undo_13 : decode cX6_undo 13 = .ok (.aload_n 0, 1) := by decide +kernel
theorem dX6_undo_14 : decode cX6_undo 14 = .ok (.getfield 29, 3) := by decide +kernel
theorem dX6_undo_17 : decode cX6_undo 17 = .ok (.bipush 20, 2) := by decide +kernel
theorem dX6_undo_19 : decode cX6_undo 19 = .ok (.dup2, 1) := by decide +kernel
theorem dX6_undo_20 : decode cX6_undo 20 = .ok (.iaload, 1) := by decide +kernel
theorem dX6_undo_21 : decode cX6_undo 21 = .ok (.iconst 1, 1) := by decide +kernel
theorem dX6_undo_22 : decode cX6_undo 22 = .ok (.isub, 1) := by decide +kernel
theorem dX6_undo_23 : decode cX6_undo 23 = .ok (.iastore, 1) := by decide +kernel
theorem dX6_undo_24 : decode cX6_undo 24 = .ok (.iconst 0, 1) := by decide +kernel
theorem dX6_undo_25 : decode cX6_undo 25 = .ok (.istore_n 1, 1) := by decide +kernel
theorem dX6_undo_26 : decode cX6_undo 26 = .ok (.iload_n 1, 1) := by decide +kernel
theorem dX6_undo_27 : decode cX6_undo 27 = .ok (.bipush 18, 2) := by decide +kernel
theorem dX6_undo_29 : decode cX6_undo 29 = .ok (.if_icmp .ge 35, 3) := by decide +kernel
theorem dX6_undo_32 : decode cX6_undo 32 = .ok (.aload_n 0, 1) := by decide +kernel
theorem dX6_undo_33 : decode cX6_undo 33 = .ok (.getfield 29, 3) := by decide +kernel
theorem dX6_undo_36 : decode cX6_undo 36 = .ok (.iload_n 1, 1) := by decide +kernel
theorem dX6_undo_37 : decode cX6_undo 37 = .ok (.aload_n 0, 1) := by decide +kernel
theorem dX6_undo_38 : decode cX6_undo 38 = .ok (.getfield 29, 3) := by decide +kernel
theorem dX6_undo_41 : decode cX6_undo 41 = .ok (.bipush 21, 2) := by decide +kernel
theorem dX6_undo_43 : decode cX6_undo 43 = .ok (.bipush 18, 2) := by decide +kernel
theorem dX6_undo_45 : decode cX6_undo 45 = .ok (.aload_n 0, 1) := by decide +kernel
theorem dX6_undo_46 : decode cX6_undo 46 = .ok (.getfield 29, 3) := by decide +kernel
theorem dX6_undo_49 : decode cX6_undo 49 = .ok (.bipush 20, 2) := by decide +kernel
theorem dX6_undo_51 : decode cX6_undo 51 = .ok (.iaload, 1) := by decide +kernel
theorem dX6_undo_52 : decode cX6_undo 52 = .ok (.imul, 1) := by decide +kernel
theorem dX6_undo_53 : decode cX6_undo 53 = .ok (.iadd, 1) := by decide +kernel
theorem dX6_undo_54 : decode cX6_undo 54 = .ok (.iload_n 1, 1) := by decide +kernel
theorem dX6_undo_55 : decode cX6_undo 55 = .ok (.iadd, 1) := by decide +kernel
theorem dX6_undo_56 : decode cX6_undo 56 = .ok (.iaload, 1) := by decide +kernel
theorem dX6_undo_57 : decode cX6_undo 57 = .ok (.iastore, 1) := by decide +kernel
theorem dX6_undo_58 : decode cX6_undo 58 = .ok (.iinc 1 1, 3) := by decide +kernel
theorem dX6_undo_61 : decode cX6_undo 61 = .ok (.goto (-35), 3) := by decide +kernel
theorem dX6_undo_64 : decode cX6_undo 64 = .ok (.aload_n 0, 1) := by decide +kernel
theorem dX6_undo_65 : decode cX6_undo 65 = .ok (.getfield 29, 3) := by decide +kernel
theorem dX6_undo_68 : decode cX6_undo 68 = .ok (.bipush 19, 2) := by decide +kernel
theorem dX6_undo_70 : decode cX6_undo 70 = .ok (.dup2, 1) := by decide +kernel
theorem dX6_undo_71 : decode cX6_undo 71 = .ok (.iaload, 1) := by decide +kernel
theorem dX6_undo_72 : decode cX6_undo 72 = .ok (.iconst 1, 1) := by decide +kernel
theorem dX6_undo_73 : decode cX6_undo 73 = .ok (.isub, 1) := by decide +kernel
theorem dX6_undo_74 : decode cX6_undo 74 = .ok (.iastore, 1) := by decide +kernel
theorem dX6_undo_75 : decode cX6_undo 75 = .ok (.aload_n 0, 1) := by decide +kernel
