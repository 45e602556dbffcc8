theorem dX3_readWord_66 : decode cX3_readWord 66 = .ok (.ifCond .eq 11, 3) := by decide +kernel
theorem dX3_readWord_69 : decode cX3_readWord 69 = .ok (.aload_n 0, 1) := by decide +kernel
theorem dX3_readWord_70 : decode cX3_readWord 70 = .ok (.iconst 1, 1) := by decide +kernel
theorem dX3_readWord_71 : decode cX3_readWord 71 = .ok (.putfield 43, 3) := by decide +kernel
theorem dX3_readWord_74 : decode cX3_readWord 74 = .ok (.goto 42, 3) := by decide +kernel
theorem dX3_readWord_77 : decode cX3_readWord 77 = .ok (.aload_n 0, 1) := by decide +kernel
theorem dX3_readWord_78 : decode cX3_readWord 78 = .ok (.ldc 82, 2) := by decide +kernel
theorem dX3_readWord_80 : decode cX3_readWord 80 = .ok (.invokevirtual 76, 3) := by decide +kernel
theorem dX3_readWord_83 : decode cX3_readWord 83 = .ok (.ifCond .eq 11, 3) := by decide +kernel
theorem dX3_readWord_86 : decode cX3_readWord 86 = .ok (.aload_n 0, 1) := by decide +kernel
theorem dX3_readWord_87 : decode cX3_readWord 87 = .ok (.iconst 2, 1) := by decide +kernel
theorem dX3_readWord_88 : decode cX3_readWord 88 = .ok (.putfield 43, 3) := by decide +kernel
theorem dX3_readWord_91 : decode cX3_readWord 91 = .ok (.goto 25, 3) := by decide +kernel
theorem dX3_readWord_94 : decode cX3_readWord 94 = .ok (.aload_n 0, 1) := by decide +kernel
theorem dX3_readWord_95 : decode cX3_readWord 95 = .ok (.ldc 84, 2) := by decide +kernel
theorem dX3_readWord_97 : decode cX3_readWord 97 = .ok (.invokevirtual 76, 3) := by decide +kernel
theorem dX3_readWord_100 : decode cX3_readWord 100 = .ok (.ifCond .eq 11, 3) := by decide +kernel
theorem dX3_readWord_103 : decode cX3_readWord 103 = .ok (.aload_n 0, 1) := by decide +kernel
theorem dX3_readWord_104 : decode cX3_readWord 104 = .ok (.iconst 3, 1) := by decide +kernel
theorem dX3_readWord_105 : decode cX3_readWord 105 = .ok (.putfield 43, 3) := by decide +kernel
theorem dX3_readWord_108 : decode cX3_readWord 108 = .ok (.goto 8, 3) := by decide +kernel
theorem dX3_readWord_111 : decode cX3_readWord 111 = .ok (.aload_n 0, 1) := by decide +kernel
theorem dX3_readWord_112 : decode cX3_readWord 112 = .ok (.iconst 4, 1) := by decide +kernel
theorem dX3_readWord_113 : decode cX3_readWord 113 = .ok (.putfield 33, 3) := by decide +kernel
theorem dX3_readWord_116 : decode cX3_readWord 116 = .ok (.return_, 1) := by decide +kernel
set_option maxRecDepth 20000 in
theorem ggX3_readNumber_X3_signAt : GoodIn wsX3_readNumber wsX3_signAt := goodIn_r _ [10, 2, 11, 15, 16, 17, 18, 19, 20, 21] (by decide +kernel) (by decide +kernel)
set_option maxRecDepth 20000 in
theorem gX3_readNumber_X3_signAt : GoodIn wsX3_readNumber (wsV RX3 57 RX3 yX3_signAt wsX3_signAt) := goodIn_app (goodIn_of _ (by decide +kernel)) ggX3_readNumber_X3_signAt
set_option maxRecDepth 20000 in
theorem ggX3_readNumber_X3_isDigit : GoodIn wsX3_readNumber wsX3_isDigit := goodIn_r _ [14] (by decide +kernel) (by decide +kernel)
set_option maxRecDepth 20000 in
theorem gX3_readNumber_X3_isDigit : GoodIn wsX3_readNumber (va_wsS RX3 68 yX3_isDigit wsX3_isDigit) := goodIn_app (goodIn_of _ (by decide +kernel)) ggX3_readNumber_X3_isDigit
theorem dX3_readNumber_0 : decode cX3_readNumber 0 = .ok (.aload_n 0, 1) := by decide +kernel
theorem dX3_readNumber_1 : decode cX3_readNumber 1 = .ok (.getfield 24, 3) := by decide +kernel
theorem dX3_readNumber_4 : decode cX3_readNumber 4 = .ok (.aload_n 0, 1) := by decide +kernel
theorem dX3_readNumber_5 : decode cX3_readNumber 5 = .ok (.getfield 15, 3) := by decide +kernel
theorem dX3_readNumber_8 : decode cX3_readNumber 8 = .ok (.if_icmp .ge 66, 3) := by decide +kernel
theorem dX3_readNumber_11 : decode cX3_readNumber 11 = .ok (.aload_n 0, 1) := by decide +kernel
theorem dX3_readNumber_12 : decode cX3_readNumber 12 = .ok (.aload_n 0, 1) := by decide +kernel
theorem dX3_readNumber_13 : decode cX3_readNumber 13 = .ok (.getfield 24, 3) := by decide +kernel
theorem dX3_readNumber_16 : decode cX3_readNumber 16 = .ok (.invokevirtual 57, 3) := by decide +kernel
theorem dX3_readNumber_19 : decode cX3_readNumber 19 = .ok (.invokestatic 68, 3) := by decide +kernel
theorem dX3_readNumber_22 : decode cX3_readNumber 22 = .ok (.ifCond .eq 52, 3) := by decide +kernel
theorem dX3_readNumber_25 : decode cX3_readNumber 25 = .ok (.aload_n 0, 1) := by decide +kernel
theorem dX3_readNumber_26 : decode cX3_readNumber 26 = .ok (.getfield 24, 3) := by decide +kernel
theorem dX3_readNumber_29 : decode cX3_readNumber 29 = .ok (.aload_n 0, 1) := by decide +kernel
theorem dX3_readNumber_30 : decode cX3_readNumber 30 = .ok (.getfield 40, 3) := by decide +kernel
theorem dX3_readNumber_33 : decode cX3_readNumber 33 = .ok (.isub, 1) := by decide +kernel
theorem dX3_readNumber_34 : decode cX3_readNumber 34 = .ok (.iconst 2, 1) := by decide +kernel
theorem dX3_readNumber_35 : decode cX3_readNumber 35 = .ok (.if_icmp .ge 26, 3) := by decide +kernel
theorem dX3_readNumber_38 : decode cX3_readNumber 38 = .ok (.aload_n 0, 1) := by decide +kernel
theorem dX3_readNumber_39 : decode cX3_readNumber 39 = .ok (.aload_n 0, 1) := by decide +kernel
theorem dX3_readNumber_40 : decode cX3_readNumber 40 = .ok (.getfield 43, 3) := by decide +kernel
theorem dX3_readNumber_43 : decode cX3_readNumber 43 = .ok (.bipush 10, 2) := by decide +kernel
theorem dX3_readNumber_45 : decode cX3_readNumber 45 = .ok (.imul, 1) := by decide +kernel
theorem dX3_readNumber_46 : decode cX3_readNumber 46 = .ok (.aload_n 0, 1) := by decide +kernel
theorem dX3_readNumber_47 : decode cX3_readNumber 47 = .ok (.aload_n 0, 1) := by decide +kernel
theorem dX3_readNumber_48 : decode cX3_readNumber 48 = .ok (.getfield 24, 3) := by decide +kernel
theorem dX3_readNumber_51 : decode cX3_readNumber 51 = .ok (.invokevirtual 57, 3) := by decide +kernel
theorem dX3_readNumber_54 : decode cX3_readNumber 54 = .ok (.iadd, 1) := by decide +kernel
theorem dX3_readNumber_55 : decode cX3_readNumber 55 = .ok (.bipush 48, 2) := by decide +kernel
theorem dX3_readNumber_57 : decode cX3_readNumber 57 = .ok (.isub, 1) := by decide +kernel
theorem dX3_readNumber_58 : decode cX3_readNumber 58 = .ok (.putfield 43, 3) := by decide +kernel
theorem dX3_readNumber_61 : decode cX3_readNumber 61 = .ok (.aload_n 0, 1) := by decide +kernel
theorem dX3_readNumber_62 : decode cX3_readNumber 62 = .ok (.dup, 1) := by decide +kernel
theorem dX3_readNumber_63 : decode cX3_readNumber 63 = .ok (.getfield 24, 3) := by decide +kernel
theorem dX3_readNumber_66 : decode cX3_readNumber 66 = .ok (.iconst 1, 1) := by decide +kernel
theorem dX3_readNumber_67 : decode cX3_readNumber 67 = .ok (.iadd, 1) := by decide +kernel
theorem dX3_readNumber_68 : decode cX3_readNumber 68 = .ok (.putfield 24, 3) := by decide +kernel
theorem dX3_readNumber_71 : decode cX3_readNumber 71 = .ok (.goto (-71), 3) := by decide +kernel
theorem dX3_readNumber_74 : decode cX3_readNumber 74 = .ok (.aload_n 0, 1) := by decide +kernel
theorem dX3_readNumber_75 : decode cX3_readNumber 75 = .ok (.getfield 24, 3) := by decide +kernel
theorem dX3_readNumber_78 : decode cX3_readNumber 78 = .ok (.aload_n 0, 1) := by decide +kernel
theorem dX3_readNumber_79 : decode cX3_readNumber 79 = .ok (.getfield 40, 3) := by decide +kernel
theorem dX3_readNumber_82 : decode cX3_readNumber 82 = .ok (.isub, 1) := by decide +kernel
theorem dX3_readNumber_83 : decode cX3_readNumber 83 = .ok (.istore_n 1, 1) := by decide +kernel
theorem dX3_readNumber_84 : decode cX3_readNumber 84 = .ok (.iload_n 1, 1) := by decide +kernel
theorem dX3_readNumber_85 : decode cX3_readNumber 85 = .ok (.iconst 1, 1) := by decide +kernel
theorem dX3_readNumber_86 : decode cX3_readNumber 86 = .ok (.if_icmp .le 20, 3) := by decide +kernel
theorem dX3_readNumber_89 : decode cX3_readNumber 89 = .ok (.aload_n 0, 1) := by decide +kernel
theorem dX3_readNumber_90 : decode cX3_readNumber 90 = .ok (.aload_n 0, 1) := by decide +kernel
theorem dX3_readNumber_91 : decode cX3_readNumber 91 = .ok (.getfield 40, 3) := by decide +kernel
theorem dX3_readNumber_94 : decode cX3_readNumber 94 = .ok (.invokevirtual 57, 3) := by decide +kernel
theorem dX3_readNumber_97 : decode cX3_readNumber 97 = .ok (.bipush 48, 2) := by decide +kernel
theorem dX3_readNumber_99 : decode cX3_readNumber 99 = .ok (.if_icmp .ne 7, 3) := by decide +kernel
theorem dX3_readNumber_102 : decode cX3_readNumber 102 = .ok (.iconst 1, 1) := by decide +kernel
theorem dX3_readNumber_103 : decode cX3_readNumber 103 = .ok (.goto 4, 3) := by decide +kernel
theorem dX3_readNumber_106 : decode cX3_readNumber 106 = .ok (.iconst 0, 1) := by decide +kernel
theorem dX3_readNumber_107 : decode cX3_readNumber 107 = .ok (.istore_n 2, 1) := by decide +kernel
theorem dX3_readNumber_108 : decode cX3_readNumber 108 = .ok (.aload_n 0, 1) := by decide +kernel
theorem dX3_readNumber_109 : decode cX3_readNumber 109 = .ok (.iload_n 1, 1) := by decide +kernel
theorem dX3_readNumber_110 : decode cX3_readNumber 110 = .ok (.iconst 2, 1) := by decide +kernel
theorem dX3_readNumber_111 : decode cX3_readNumber 111 = .ok (.if_icmp .gt 7, 3) := by decide +kernel
theorem dX3_readNumber_114 : decode cX3_readNumber 114 = .ok (.iload_n 2, 1) := by decide +kernel
theorem dX3_readNumber_115 : decode cX3_readNumber 115 = .ok (.ifCond .eq 7, 3) := by decide +kernel
theorem dX3_readNumber_118 : decode cX3_readNumber 118 = .ok (.iconst 4, 1) := by decide +kernel
theorem dX3_readNumber_119 : decode cX3_readNumber 119 = .ok (.goto 4, 3) := by decide +kernel
theorem dX3_readNumber_122 : decode cX3_readNumber 122 = .ok (.iconst 2, 1) := by decide +kernel
theorem dX3_readNumber_123 : decode cX3_readNumber 123 = .ok (.putfield 33, 3) := by decide +kernel
theorem dX3_readNumber_126 : decode cX3_readNumber 126 = .ok (.return_, 1) := by decide +kernel
set_option maxRecDepth 20000 in
theorem ggX3_tokenIs_J0_length_8abf5 : GoodIn wsX3_tokenIs wsJ0_length_8abf5 := goodIn_r _ [7, 8, 9, 10, 11, 6, 12, 13, 14] (by decide +kernel) (by decide +kernel)
set_option maxRecDepth 20000 in
theorem gX3_tokenIs_J0_length_8abf5 : GoodIn wsX3_tokenIs (wsV RX3 86 RJ0 yJ0_length_8abf5 wsJ0_length_8abf5) := goodIn_app (goodIn_of _ (by decide +kernel)) ggX3_tokenIs_J0_length_8abf5
set_option maxRecDepth 20000 in
theorem ggX3_tokenIs_X3_signAt : GoodIn wsX3_tokenIs wsX3_signAt := goodIn_r _ [19, 20, 21, 59, 60, 61, 62, 63, 64, 65] (by decide +kernel) (by decide +kernel)
set_option maxRecDepth 20000 in
theorem gX3_tokenIs_X3_signAt : GoodIn wsX3_tokenIs (wsV RX3 57 RX3 yX3_signAt wsX3_signAt) := goodIn_app (goodIn_of _ (by decide +kernel)) ggX3_tokenIs_X3_signAt
set_option maxRecDepth 20000 in
theorem ggX3_tokenIs_J0_charAt_5068e : GoodIn wsX3_tokenIs wsJ0_charAt_5068e := goodIn_r _ [25, 8, 26, 27, 28, 6, 29, 13, 14, 30, 31, 32, 33, 34, 35, 36, 37, 38, 39, 40, 41, 42, 43, 44, 45, 46, 47, 48, 49, 50, 51, 52, 53, 54, 55, 56, 57, 58] (by decide +kernel) (by decide +kernel)
set_option maxRecDepth 20000 in
theorem gX3_tokenIs_J0_charAt_5068e : GoodIn wsX3_tokenIs (wsV RX3 91 RJ0 yJ0_charAt_5068e wsJ0_charAt_5068e) := goodIn_app (goodIn_of _ (by decide +kernel)) ggX3_tokenIs_J0_charAt_5068e
theorem dX3_tokenIs_0 : decode cX3_tokenIs 0 = .ok (.aload_n 1, 1) := by decide +kernel
theorem dX3_tokenIs_1 : decode cX3_tokenIs 1 = .ok (.invokevirtual 86, 3) := by decide +kernel
theorem dX3_tokenIs_4 : decode cX3_tokenIs 4 = .ok (.aload_n 0, 1) := by decide +kernel
theorem dX3_tokenIs_5 : decode cX3_tokenIs 5 = .ok (.getfield 24, 3) := by decide +kernel
theorem dX3_tokenIs_8 : decode cX3_tokenIs 8 = .ok (.aload_n 0, 1) := by decide +kernel
theorem dX3_tokenIs_9 : decode cX3_tokenIs 9 = .ok (.getfield 40, 3) := by decide +kernel
theorem dX3_tokenIs_12 : decode cX3_tokenIs 12 = .ok (.isub, 1) := by decide +kernel
theorem dX3_tokenIs_13 : decode cX3_tokenIs 13 = .ok (.if_icmp .eq 5, 3) := by decide +kernel
theorem dX3_tokenIs_16 : decode cX3_tokenIs 16 = .ok (.iconst 0, 1) := by decide +kernel
theorem dX3_tokenIs_17 : decode cX3_tokenIs 17 = .ok (.ireturn, 1) := by decide +kernel
theorem dX3_tokenIs_18 : decode cX3_tokenIs 18 = .ok (.iconst 0, 1) := by decide +kernel
theorem dX3_tokenIs_19 : decode cX3_tokenIs 19 = .ok (.istore_n 2, 1) := by decide +kernel
theorem dX3_tokenIs_20 : decode cX3_tokenIs 20 = .ok (.iload_n 2, 1) := by decide +kernel
theorem dX3_tokenIs_21 : decode cX3_tokenIs 21 = .ok (.aload_n 1, 1) := by decide +kernel
theorem dX3_tokenIs_22 : decode cX3_tokenIs 22 = .ok (.invokevirtual 86, 3) := by decide +kernel
theorem dX3_tokenIs_25 : decode cX3_tokenIs 25 = .ok (.if_icmp .ge 29, 3) := by decide +kernel
theorem dX3_tokenIs_28 : decode cX3_tokenIs 28 = .ok (.aload_n 0, 1) := by decide +kernel
theorem dX3_tokenIs_29 : decode cX3_tokenIs 29 = .ok (.aload_n 0, 1) := by decide +kernel
theorem dX3_tokenIs_30 : decode cX3_tokenIs 30 = .ok (.getfield 40, 3) := by decide +kernel
theorem dX3_tokenIs_33 : decode cX3_tokenIs 33 = .ok (.iload_n 2, 1) := by decide +kernel
theorem dX3_tokenIs_34 : decode cX3_tokenIs 34 = .ok (.iadd, 1) := by decide +kernel
theorem dX3_tokenIs_35 : decode cX3_tokenIs 35 = .ok (.invokevirtual 57, 3) := by decide +kernel
theorem dX3_tokenIs_38 : decode cX3_tokenIs 38 = .ok (.aload_n 1, 1) := by decide +kernel
theorem dX3_tokenIs_39 : decode cX3_tokenIs 39 = .ok (.iload_n 2, 1) := by decide +kernel
theorem dX3_tokenIs_40 : decode cX3_tokenIs 40 = .ok (.invokevirtual 91, 3) := by decide +kernel
theorem dX3_tokenIs_43 : decode cX3_tokenIs 43 = .ok (.if_icmp .eq 5, 3) := by decide +kernel
theorem dX3_tokenIs_46 : decode cX3_tokenIs 46 = .ok (.iconst 0, 1) := by decide +kernel
theorem dX3_tokenIs_47 : decode cX3_tokenIs 47 = .ok (.ireturn, 1) := by decide +kernel
theorem dX3_tokenIs_48 : decode cX3_tokenIs 48 = .ok (.iinc 2 1, 3) := by decide +kernel
theorem dX3_tokenIs_51 : decode cX3_tokenIs 51 = .ok (.goto (-31), 3) := by decide +kernel
theorem dX3_tokenIs_54 : decode cX3_tokenIs 54 = .ok (.iconst 1, 1) := by decide +kernel
theorem dX3_tokenIs_55 : decode cX3_tokenIs 55 = .ok (.ireturn, 1) := by decide +kernel
theorem dX3_signAt_0 : decode cX3_signAt 0 = .ok (.iload_n 1, 1) := by decide +kernel
theorem dX3_signAt_1 : decode cX3_signAt 1 = .ok (.ifCond .lt 27, 3) := by decide +kernel
theorem dX3_signAt_4 : decode cX3_signAt 4 = .ok (.iload_n 1, 1) := by decide +kernel
theorem dX3_signAt_5 : decode cX3_signAt 5 = .ok (.aload_n 0, 1) := by decide +kernel
theorem dX3_signAt_6 : decode cX3_signAt 6 = .ok (.getfield 15, 3) := by decide +kernel
theorem dX3_signAt_9 : decode cX3_signAt 9 = .ok (.if_icmp .ge 19, 3) := by decide +kernel
theorem dX3_signAt_12 : decode cX3_signAt 12 = .ok (.iload_n 1, 1) := by decide +kernel
theorem dX3_signAt_13 : decode cX3_signAt 13 = .ok (.sipush 200, 3) := by decide +kernel
theorem dX3_signAt_16 : decode cX3_signAt 16 = .ok (.if_icmp .ge 12, 3) := by decide +kernel
theorem dX3_signAt_19 : decode cX3_signAt 19 = .ok (.aload_n 0, 1) := by decide +kernel
theorem dX3_signAt_20 : decode cX3_signAt 20 = .ok (.getfield 9, 3) := by decide +kernel
theorem dX3_signAt_23 : decode cX3_signAt 23 = .ok (.iload_n 1, 1) := by decide +kernel
theorem dX3_signAt_24 : decode cX3_signAt 24 = .ok (.iaload, 1) := by decide +kernel
theorem dX3_signAt_25 : decode cX3_signAt 25 = .ok (.goto 4, 3) := by decide +kernel
theorem dX3_signAt_28 : decode cX3_signAt 28 = .ok (.iconst 0, 1) := by decide +kernel
theorem dX3_signAt_29 : decode cX3_signAt 29 = .ok (.ireturn, 1) := by decide +kernel
theorem dX3_isLetter_0 : decode cX3_isLetter 0 = .ok (.iload_n 0, 1) := by decide +kernel
theorem dX3_isLetter_1 : decode cX3_isLetter 1 = .ok (.bipush 97, 2) := by decide +kernel
theorem dX3_isLetter_3 : decode cX3_isLetter 3 = .ok (.if_icmp .lt 13, 3) := by decide +kernel
theorem dX3_isLetter_6 : decode cX3_isLetter 6 = .ok (.iload_n 0, 1) := by decide +kernel
theorem dX3_isLetter_7 : decode cX3_isLetter 7 = .ok (.bipush 122, 2) := by decide +kernel
theorem dX3_isLetter_9 : decode cX3_isLetter 9 = .ok (.if_icmp .gt 7, 3) := by decide +kernel
theorem dX3_isLetter_12 : decode cX3_isLetter 12 = .ok (.iconst 1, 1) := by decide +kernel
theorem dX3_isLetter_13 : decode cX3_isLetter 13 = .ok (.goto 4, 3) := by decide +kernel
theorem dX3_isLetter_16 : decode cX3_isLetter 16 = .ok (.iconst 0, 1) := by decide +kernel
theorem dX3_isLetter_17 : decode cX3_isLetter 17 = .ok (.ireturn, 1) := by decide +kernel
theorem dX3_isDigit_0 : decode cX3_isDigit 0 = .ok (.iload_n 0, 1) := by decide +kernel
theorem dX3_isDigit_1 : decode cX3_isDigit 1 = .ok (.bipush 48, 2) := by decide +kernel
theorem dX3_isDigit_3 : decode cX3_isDigit 3 = .ok (.if_icmp .lt 13, 3) := by decide +kernel
theorem dX3_isDigit_6 : decode cX3_isDigit 6 = .ok (.iload_n 0, 1) := by decide +kernel
theorem dX3_isDigit_7 : decode cX3_isDigit 7 = .ok (.bipush 57, 2) := by decide +kernel
theorem dX3_isDigit_9 : decode cX3_isDigit 9 = .ok (.if_icmp .gt 7, 3) := by decide +kernel
theorem dX3_isDigit_12 : decode cX3_isDigit 12 = .ok (.iconst 1, 1) := by decide +kernel
theorem dX3_isDigit_13 : decode cX3_isDigit 13 = .ok (.goto 4, 3) := by decide +kernel
theorem dX3_isDigit_16 : decode cX3_isDigit 16 = .ok (.iconst 0, 1) := by decide +kernel
theorem dX3_isDigit_17 : decode cX3_isDigit 17 = .ok (.ireturn, 1) := by decide +kernel
theorem dX4_init_0 : decode cX4_init 0 = .ok (.aload_n 0, 1) := by decide +kernel
theorem dX4_init_1 : decode cX4_init 1 = .ok (.invokespecial 3, 3) := by decide +kernel
theorem dX4_init_4 : decode cX4_init 4 = .ok (.aload_n 0, 1) := by decide +kernel
theorem dX4_init_5 : decode cX4_init 5 = .ok (.bipush 9, 2) := by decide +kernel
theorem dX4_init_7 : decode cX4_init 7 = .ok (.newarray .int, 2) := by decide +kernel
theorem dX4_init_9 : decode cX4_init 9 = .ok (.putfield 9, 3) := by decide +kernel
theorem dX4_init_12 : decode cX4_init 12 = .ok (.aload_n 0, 1) := by decide +kernel
theorem dX4_init_13 : decode cX4_init 13 = .ok (.bipush 9, 2) := by decide +kernel
theorem dX4_init_15 : decode cX4_init 15 = .ok (.newarray .int, 2) := by decide +kernel
theorem dX4_init_17 : decode cX4_init 17 = .ok (.putfield 15, 3) := by decide +kernel
theorem dX4_init_20 : decode cX4_init 20 = .ok (.return_, 1) := by decide +kernel
theorem dX4_append_0 : decode cX4_append 0 = .ok (.aload_n 0, 1) := by decide +kernel
theorem dX4_append_1 : decode cX4_append 1 = .ok (.getfield 18, 3) := by decide +kernel
theorem dX4_append_4 : decode cX4_append 4 = .ok (.ifCond .lt 12, 3) := by decide +kernel
theorem dX4_append_7 : decode cX4_append 7 = .ok (.aload_n 0, 1) := by decide +kernel
theorem dX4_append_8 : decode cX4_append 8 = .ok (.getfield 18, 3) := by decide +kernel
theorem dX4_append_11 : decode cX4_append 11 = .ok (.bipush 9, 2) := by decide +kernel
theorem dX4_append_13 : decode cX4_append 13 = .ok (.if_icmp .lt 4, 3) := by decide +kernel
theorem dX4_append_16 : decode cX4_append 16 = .ok (.return_, 1) := by decide +kernel
theorem dX4_append_17 : decode cX4_append 17 = .ok (.aload_n 0, 1) := by decide +kernel
theorem dX4_append_18 : decode cX4_append 18 = .ok (.getfield 9, 3) := by decide +kernel
theorem dX4_append_21 : decode cX4_append 21 = .ok (.aload_n 0, 1) := by decide +kernel
theorem dX4_append_22 : decode cX4_append 22 = .ok (.getfield 18, 3) := by decide +kernel
theorem dX4_append_25 : decode cX4_append 25 = .ok (.iload_n 1, 1) := by decide +kernel
theorem dX4_append_26 : decode cX4_append 26 = .ok (.iastore, 1) := by decide +kernel
theorem dX4_append_27 : decode cX4_append 27 = .ok (.aload_n 0, 1) := by decide +kernel
theorem dX4_append_28 : decode cX4_append 28 = .ok (.getfield 15, 3) := by decide +kernel
theorem dX4_append_31 : decode cX4_append 31 = .ok (.aload_n 0, 1) := by decide +kernel
theorem dX4_append_32 : decode cX4_append 32 = .ok (.getfield 18, 3) := by decide +kernel
theorem dX4_append_35 : decode cX4_append 35 = .ok (.iload_n 2, 1) := by decide +kernel
theorem dX4_append_36 : decode cX4_append 36 = .ok (.iastore, 1) := by decide +kernel
theorem dX4_append_37 : decode cX4_append 37 = .ok (.aload_n 0, 1) := by decide +kernel
theorem dX4_append_38 : decode cX4_append 38 = .ok (.dup, 1) := by decide +kernel
theorem dX4_append_39 : decode cX4_append 39 = .ok (.getfield 18, 3) := by decide +kernel
theorem dX4_append_42 : decode cX4_append 42 = .ok (.iconst 1, 1) := by decide +kernel
theorem dX4_append_43 : decode cX4_append 43 = .ok (.iadd, 1) := by decide +kernel
theorem dX4_append_44 : decode cX4_append 44 = .ok (.putfield 18, 3) := by decide +kernel
theorem dX4_append_47 : decode cX4_append 47 = .ok (.return_, 1) := by decide +kernel
set_option maxRecDepth 20000 in
theorem ggX4_standingBehind_X0_fall : GoodIn wsX4_standingBehind wsX0_fall := goodIn_r _ [8, 9, 10, 11, 12, 13, 14, 15, 16, 7, 17, 18, 19, 20, 21, 22, 23, 24, 25, 26, 27, 38, 39, 40, 41, 42] (by decide +kernel) (by decide +kernel)
set_option maxRecDepth 20000 in
theorem gX4_standingBehind_X0_fall : GoodIn wsX4_standingBehind (wsV RX4 22 RX0 yX0_fall wsX0_fall) := goodIn_app (goodIn_of _ (by decide +kernel)) ggX4_standingBehind_X0_fall
set_option maxRecDepth 20000 in
theorem ggX4_standingBehind_X2_comesOf : GoodIn wsX4_standingBehind wsX2_comesOf := goodIn_r _ [30] (by decide +kernel) (by decide +kernel)
set_option maxRecDepth 20000 in
theorem gX4_standingBehind_X2_comesOf : GoodIn wsX4_standingBehind (va_wsS RX4 28 yX2_comesOf wsX2_comesOf) := goodIn_app (goodIn_of _ (by decide +kernel)) ggX4_standingBehind_X2_comesOf
set_option maxRecDepth 20000 in
theorem ggX4_standingBehind_X2_standingOf : GoodIn wsX4_standingBehind wsX2_standingOf := goodIn_r _ [33, 34] (by decide +kernel) (by decide +kernel)
set_option maxRecDepth 20000 in
theorem gX4_standingBehind_X2_standingOf : GoodIn wsX4_standingBehind (va_wsS RX4 34 yX2_standingOf wsX2_standingOf) := goodIn_app (goodIn_of _ (by decide +kernel)) ggX4_standingBehind_X2_standingOf
theorem dX4_standingBehind_0 : decode cX4_standingBehind 0 = .ok (.aload_n 1, 1) := by decide +kernel
theorem dX4_standingBehind_1 : decode cX4_standingBehind 1 = .ok (.ifnonnull 5, 3) := by decide +kernel
theorem dX4_standingBehind_4 : decode cX4_standingBehind 4 = .ok (.iconst (-1), 1) := by decide +kernel
theorem dX4_standingBehind_5 : decode cX4_standingBehind 5 = .ok (.ireturn, 1) := by decide +kernel
theorem dX4_standingBehind_6 : decode cX4_standingBehind 6 = .ok (.iconst 0, 1) := by decide +kernel
theorem dX4_standingBehind_7 : decode cX4_standingBehind 7 = .ok (.istore_n 3, 1) := by decide +kernel
theorem dX4_standingBehind_8 : decode cX4_standingBehind 8 = .ok (.iconst 0, 1) := by decide +kernel
theorem dX4_standingBehind_9 : decode cX4_standingBehind 9 = .ok (.istore 4, 2) := by decide +kernel
theorem dX4_standingBehind_11 : decode cX4_standingBehind 11 = .ok (.iload 4, 2) := by decide +kernel
theorem dX4_standingBehind_13 : decode cX4_standingBehind 13 = .ok (.aload_n 0, 1) := by decide +kernel
theorem dX4_standingBehind_14 : decode cX4_standingBehind 14 = .ok (.getfield 18, 3) := by decide +kernel
theorem dX4_standingBehind_17 : decode cX4_standingBehind 17 = .ok (.if_icmp .ge 54, 3) := by decide +kernel
theorem dX4_standingBehind_20 : decode cX4_standingBehind 20 = .ok (.iload 4, 2) := by decide +kernel
theorem dX4_standingBehind_22 : decode cX4_standingBehind 22 = .ok (.bipush 9, 2) := by decide +kernel
theorem dX4_standingBehind_24 : decode cX4_standingBehind 24 = .ok (.if_icmp .ge 47, 3) := by decide +kernel
theorem dX4_standingBehind_27 : decode cX4_standingBehind 27 = .ok (.aload_n 1, 1) := by decide +kernel
theorem dX4_standingBehind_28 : decode cX4_standingBehind 28 = .ok (.iload_n 3, 1) := by decide +kernel
theorem dX4_standingBehind_29 : decode cX4_standingBehind 29 = .ok (.aload_n 0, 1) := by decide +kernel
theorem dX4_standingBehind_30 : decode cX4_standingBehind 30 = .ok (.getfield 9, 3) := by decide +kernel
theorem dX4_standingBehind_33 : decode cX4_standingBehind 33 = .ok (.iload 4, 2) := by decide +kernel
theorem dX4_standingBehind_35 : decode cX4_standingBehind 35 = .ok (.iaload, 1) := by decide +kernel
theorem dX4_standingBehind_36 : decode cX4_standingBehind 36 = .ok (.iload_n 2, 1) := by decide +kernel
theorem dX4_standingBehind_37 : decode cX4_standingBehind 37 = .ok (.invokevirtual 22, 3) := by decide +kernel
theorem dX4_standingBehind_40 : decode cX4_standingBehind 40 = .ok (.istore 5, 2) := by decide +kernel
theorem dX4_standingBehind_42 : decode cX4_standingBehind 42 = .ok (.iload 5, 2) := by decide +kernel
theorem dX4_standingBehind_44 : decode cX4_standingBehind 44 = .ok (.invokestatic 28, 3) := by decide +kernel
theorem dX4_standingBehind_47 : decode cX4_standingBehind 47 = .ok (.aload_n 0, 1) := by decide +kernel
theorem dX4_standingBehind_48 : decode cX4_standingBehind 48 = .ok (.getfield 15, 3) := by decide +kernel
theorem dX4_standingBehind_51 : decode cX4_standingBehind 51 = .ok (.iload 4, 2) := by decide +kernel
theorem dX4_standingBehind_53 : decode cX4_standingBehind 53 = .ok (.iaload, 1) := by decide +kernel
theorem dX4_standingBehind_54 : decode cX4_standingBehind 54 = .ok (.if_icmp .eq 5, 3) := by decide +kernel
theorem dX4_standingBehind_57 : decode cX4_standingBehind 57 = .ok (.iconst (-1), 1) := by decide +kernel
theorem dX4_standingBehind_58 : decode cX4_standingBehind 58 = .ok (.ireturn, 1) := by decide +kernel
theorem dX4_standingBehind_59 : decode cX4_standingBehind 59 = .ok (.iload 5, 2) := by decide +kernel
theorem dX4_standingBehind_61 : decode cX4_standingBehind 61 = .ok (.invokestatic 34, 3) := by decide +kernel
theorem dX4_standingBehind_64 : decode cX4_standingBehind 64 = .ok (.istore_n 3, 1) := by decide +kernel
theorem dX4_standingBehind_65 : decode cX4_standingBehind 65 = .ok (.iinc 4 1, 3) := by decide +kernel
theorem dX4_standingBehind_68 : decode cX4_standingBehind 68 = .ok (.goto (-57), 3) := by decide +kernel
theorem dX4_standingBehind_71 : decode cX4_standingBehind 71 = .ok (.iload_n 3, 1) := by decide +kernel
theorem dX4_standingBehind_72 : decode cX4_standingBehind 72 = .ok (.ireturn, 1) := by decide +kernel
set_option maxRecDepth 20000 in
theorem ggX5_init_X3_init : GoodIn wsX5_init wsX3_init := goodIn_r _ [27, 28, 2, 3, 23, 29, 48, 49, 50, 51, 52, 53, 54] (by decide +kernel) (by decide +kernel)
set_option maxRecDepth 20000 in
theorem gX5_init_X3_init_n9 : GoodIn wsX5_init (wsX3_init) := ggX5_init_X3_init
set_option maxRecDepth 20000 in
theorem ggX5_init_X0_init : GoodIn wsX5_init wsX0_init := goodIn_r _ [31, 32, 2, 3, 23, 33, 34, 35, 36, 67, 68, 69, 70, 71] (by decide +kernel) (by decide +kernel)
set_option maxRecDepth 20000 in
theorem gX5_init_X0_init_n18 : GoodIn wsX5_init (wsX0_init) := ggX5_init_X0_init
set_option maxRecDepth 20000 in
theorem ggX5_init_X1_init : GoodIn wsX5_init wsX1_init := goodIn_r _ [38, 39, 2, 3, 40, 23, 41, 42, 72, 73, 74, 75, 76, 77] (by decide +kernel) (by decide +kernel)
set_option maxRecDepth 20000 in
theorem gX5_init_X1_init_n28 : GoodIn wsX5_init (wsX1_init) := ggX5_init_X1_init
set_option maxRecDepth 20000 in
theorem ggX5_init_X4_init : GoodIn wsX5_init wsX4_init := goodIn_r _ [44, 45, 2, 3, 23, 46, 47, 78, 79, 80] (by decide +kernel) (by decide +kernel)
set_option maxRecDepth 20000 in
theorem gX5_init_X4_init_n41 : GoodIn wsX5_init (wsX4_init) := ggX5_init_X4_init
theorem dX5_init_0 : decode cX5_init 0 = .ok (.aload_n 0, 1) := by decide +kernel
theorem dX5_init_1 : decode cX5_init 1 = .ok (.invokespecial 1, 3) := by decide +kernel
theorem dX5_init_4 : decode cX5_init 4 = .ok (.aload_n 0, 1) := by decide +kernel
theorem dX5_init_5 : decode cX5_init 5 = .ok (.new 7, 3) := by decide +kernel
theorem dX5_init_8 : decode cX5_init 8 = .ok (.dup, 1) := by decide +kernel
theorem dX5_init_9 : decode cX5_init 9 = .ok (.invokespecial 9, 3) := by decide +kernel
theorem dX5_init_12 : decode cX5_init 12 = .ok (.putfield 10, 3) := by decide +kernel
theorem dX5_init_15 : decode cX5_init 15 = .ok (.aload_n 0, 1) := by decide +kernel
theorem dX5_init_16 : decode cX5_init 16 = .ok (.new 16, 3) := by decide +kernel
theorem dX5_init_19 : decode cX5_init 19 = .ok (.dup, 1) := by decide +kernel
theorem dX5_init_20 : decode cX5_init 20 = .ok (.invokespecial 18, 3) := by decide +kernel
theorem dX5_init_23 : decode cX5_init 23 = .ok (.putfield 19, 3) := by decide +kernel
theorem dX5_init_26 : decode cX5_init 26 = .ok (.aload_n 0, 1) := by decide +kernel
theorem dX5_init_27 : decode cX5_init 27 = .ok (.new 16, 3) := by decide +kernel
theorem dX5_init_30 : decode cX5_init 30 = .ok (.dup, 1) := by decide +kernel
theorem dX5_init_31 : decode cX5_init 31 = .ok (.invokespecial 18, 3) := by decide +kernel
theorem dX5_init_34 : decode cX5_init 34 = .ok (.putfield 23, 3) := by decide +kernel
theorem dX5_init_37 : decode cX5_init 37 = .ok (.aload_n 0, 1) := by decide +kernel
theorem dX5_init_38 : decode cX5_init 38 = .ok (.new 26, 3) := by decide +kernel
theorem dX5_init_41 : decode cX5_init 41 = .ok (.dup, 1) := by decide +kernel
theorem dX5_init_42 : decode cX5_init 42 = .ok (.invokespecial 28, 3) := by decide +kernel
theorem dX5_init_45 : decode cX5_init 45 = .ok (.putfield 29, 3) := by decide +kernel
theorem dX5_init_48 : decode cX5_init 48 = .ok (.aload_n 0, 1) := by decide +kernel
theorem dX5_init_49 : decode cX5_init 49 = .ok (.new 26, 3) := by decide +kernel
theorem dX5_init_52 : decode cX5_init 52 = .ok (.dup, 1) := by decide +kernel
theorem dX5_init_53 : decode cX5_init 53 = .ok (.invokespecial 28, 3) := by decide +kernel
theorem dX5_init_56 : decode cX5_init 56 = .ok (.putfield 33, 3) := by decide +kernel
theorem dX5_init_59 : decode cX5_init 59 = .ok (.aload_n 0, 1) := by decide +kernel
theorem dX5_init_60 : decode cX5_init 60 = .ok (.new 26, 3) := by decide +kernel
theorem dX5_init_63 : decode cX5_init 63 = .ok (.dup, 1) := by decide +kernel
theorem dX5_init_64 : decode cX5_init 64 = .ok (.invokespecial 28, 3) := by decide +kernel
theorem dX5_init_67 : decode cX5_init 67 = .ok (.putfield 36, 3) := by decide +kernel
theorem dX5_init_70 : decode cX5_init 70 = .ok (.aload_n 0, 1) := by decide +kernel
theorem dX5_init_71 : decode cX5_init 71 = .ok (.new 39, 3) := by decide +kernel
theorem dX5_init_74 : decode cX5_init 74 = .ok (.dup, 1) := by decide +kernel
theorem dX5_init_75 : decode cX5_init 75 = .ok (.invokespecial 41, 3) := by decide +kernel
theorem dX5_init_78 : decode cX5_init 78 = .ok (.putfield 42, 3) := by decide +kernel
theorem dX5_init_81 : decode cX5_init 81 = .ok (.aload_n 0, 1) := by decide +kernel
theorem dX5_init_82 : decode cX5_init 82 = .ok (.sipush 200, 3) := by decide +kernel
theorem dX5_init_85 : decode cX5_init 85 = .ok (.newarray .int, 2) := by decide +kernel
theorem dX5_init_87 : decode cX5_init 87 = .ok (.putfield 46, 3) := by decide +kernel
theorem dX5_init_90 : decode cX5_init 90 = .ok (.aload_n 0, 1) := by decide +kernel
theorem dX5_init_91 : decode cX5_init 91 = .ok (.bipush 10, 2) := by decide +kernel
theorem dX5_init_93 : decode cX5_init 93 = .ok (.newarray .int, 2) := by decide +kernel
theorem dX5_init_95 : decode cX5_init 95 = .ok (.putfield 50, 3) := by decide +kernel
theorem dX5_init_98 : decode cX5_init 98 = .ok (.return_, 1) := by decide +kernel
set_option maxRecDepth 20000 in
theorem ggX5_type_X3_append : GoodIn wsX5_type wsX3_append := goodIn_r _ [6, 7, 8, 21, 22, 23, 24, 25, 26, 27] (by decide +kernel) (by decide +kernel)
set_option maxRecDepth 20000 in
theorem gX5_type_X3_append : GoodIn wsX5_type (wsV RX5 57 RX3 yX3_append wsX3_append) := goodIn_app (goodIn_of _ (by decide +kernel)) ggX5_type_X3_append
theorem dX5_type_0 : decode cX5_type 0 = .ok (.iload_n 3, 1) := by decide +kernel
theorem dX5_type_1 : decode cX5_type 1 = .ok (.iconst 1, 1) := by decide +kernel
theorem dX5_type_2 : decode cX5_type 2 = .ok (.if_icmp .lt 9, 3) := by decide +kernel
theorem dX5_type_5 : decode cX5_type 5 = .ok (.iload_n 3, 1) := by decide +kernel
theorem dX5_type_6 : decode cX5_type 6 = .ok (.bipush 8, 2) := by decide +kernel
theorem dX5_type_8 : decode cX5_type 8 = .ok (.if_icmp .le 5, 3) := by decide +kernel
theorem dX5_type_11 : decode cX5_type 11 = .ok (.iconst (-1), 1) := by decide +kernel
theorem dX5_type_12 : decode cX5_type 12 = .ok (.ireturn, 1) := by decide +kernel
theorem dX5_type_13 : decode cX5_type 13 = .ok (.aload_n 0, 1) := by decide +kernel
theorem dX5_type_14 : decode cX5_type 14 = .ok (.getfield 10, 3) := by decide +kernel
theorem dX5_type_17 : decode cX5_type 17 = .ok (.getfield 53, 3) := by decide +kernel
theorem dX5_type_20 : decode cX5_type 20 = .ok (.iload_n 3, 1) := by decide +kernel
theorem dX5_type_21 : decode cX5_type 21 = .ok (.iadd, 1) := by decide +kernel
theorem dX5_type_22 : decode cX5_type 22 = .ok (.sipush 200, 3) := by decide +kernel
theorem dX5_type_25 : decode cX5_type 25 = .ok (.if_icmp .le 6, 3) := by decide +kernel
theorem dX5_type_28 : decode cX5_type 28 = .ok (.bipush (-3), 2) := by decide +kernel
theorem dX5_type_30 : decode cX5_type 30 = .ok (.ireturn, 1) := by decide +kernel
theorem dX5_type_31 : decode cX5_type 31 = .ok (.iload_n 3, 1) := by decide +kernel
theorem dX5_type_32 : decode cX5_type 32 = .ok (.iconst 1, 1) := by decide +kernel
theorem dX5_type_33 : decode cX5_type 33 = .ok (.isub, 1) := by decide +kernel
theorem dX5_type_34 : decode cX5_type 34 = .ok (.istore 4, 2) := by decide +kernel
theorem dX5_type_36 : decode cX5_type 36 = .ok (.iload 4, 2) := by decide +kernel
theorem dX5_type_38 : decode cX5_type 38 = .ok (.ifCond .lt 28, 3) := by decide +kernel
theorem dX5_type_41 : decode cX5_type 41 = .ok (.aload_n 0, 1) := by decide +kernel
theorem dX5_type_42 : decode cX5_type 42 = .ok (.getfield 10, 3) := by decide +kernel
theorem dX5_type_45 : decode cX5_type 45 = .ok (.lload_n 1, 1) := by decide +kernel
theorem dX5_type_46 : decode cX5_type 46 = .ok (.bipush 8, 2) := by decide +kernel
theorem dX5_type_48 : decode cX5_type 48 = .ok (.iload 4, 2) := by decide +kernel
theorem dX5_type_50 : decode cX5_type 50 = .ok (.imul, 1) := by decide +kernel
theorem dX5_type_51 : decode cX5_type 51 = .ok (.lushr, 1) := by decide +kernel
theorem dX5_type_52 : decode cX5_type 52 = .ok (.l2i, 1) := by decide +kernel
theorem dX5_type_53 : decode cX5_type 53 = .ok (.sipush 255, 3) := by decide +kernel
theorem dX5_type_56 : decode cX5_type 56 = .ok (.iand, 1) := by decide +kernel
theorem dX5_type_57 : decode cX5_type 57 = .ok (.invokevirtual 57, 3) := by decide +kernel
theorem dX5_type_60 : decode cX5_type 60 = .ok (.iinc 4 (-1), 3) := by decide +kernel
theorem dX5_type_63 : decode cX5_type 63 = .ok (.goto (-27), 3) := by decide +kernel
theorem dX5_type_66 : decode cX5_type 66 = .ok (.aload_n 0, 1) := by decide +kernel
theorem dX5_type_67 : decode cX5_type 67 = .ok (.getfield 10, 3) := by decide +kernel
theorem dX5_type_70 : decode cX5_type 70 = .ok (.getfield 53, 3) := by decide +kernel
theorem dX5_type_73 : decode cX5_type 73 = .ok (.ireturn, 1) := by decide +kernel
theorem dX5_clear_0 : decode cX5_clear 0 = .ok (.aload_n 0, 1) := by decide +kernel
theorem dX5_clear_1 : decode cX5_clear 1 = .ok (.getfield 10, 3) := by decide +kernel
theorem dX5_clear_4 : decode cX5_clear 4 = .ok (.getfield 53, 3) := by decide +kernel
theorem dX5_clear_7 : decode cX5_clear 7 = .ok (.istore_n 1, 1) := by decide +kernel
theorem dX5_clear_8 : decode cX5_clear 8 = .ok (.aload_n 0, 1) := by decide +kernel
theorem dX5_clear_9 : decode cX5_clear 9 = .ok (.getfield 10, 3) := by decide +kernel
theorem dX5_clear_12 : decode cX5_clear 12 = .ok (.iconst 0, 1) := by decide +kernel
theorem dX5_clear_13 : decode cX5_clear 13 = .ok (.putfield 53, 3) := by decide +kernel
theorem dX5_clear_16 : decode cX5_clear 16 = .ok (.iload_n 1, 1) := by decide +kernel
theorem dX5_clear_17 : decode cX5_clear 17 = .ok (.ireturn, 1) := by decide +kernel
set_option maxRecDepth 20000 in
theorem ggX5_house_X3_readInto : GoodIn wsX5_house wsX3_readInto := goodIn_r _ [12, 13, 14, 15, 16, 17, 18, 11, 19, 20, 21, 22, 23, 24, 25, 26, 27, 28, 29, 30, 31, 32, 33, 34, 35, 36, 37, 38, 39, 40, 41, 42, 43, 44, 45, 46, 47, 48, 49, 50, 51, 52, 53, 54, 55, 56, 57, 58, 59, 60, 61, 62, 63, 64, 65, 66, 67, 68, 69, 70, 71, 72, 73, 74, 75, 76, 77, 78, 79, 80, 81, 82, 83, 84, 85, 86, 87, 88, 89, 90, 91, 92, 93, 94, 95, 96, 97, 98, 99, 100, 101, 102, 103, 104, 105, 106, 107, 108, 109, 110, 111, 112, 113, 114, 115, 116, 153, 154, 155, 156, 157, 143, 144, 145, 146, 147, 148, 149] (by decide +kernel) (by decide +kernel)
set_option maxRecDepth 20000 in
theorem gX5_house_X3_readInto : GoodIn wsX5_house (wsV RX5 61 RX3 yX3_readInto wsX3_readInto) := goodIn_app (goodIn_of _ (by decide +kernel)) ggX5_house_X3_readInto
set_option maxRecDepth 20000 in
theorem ggX5_house_X1_begin : GoodIn wsX5_house wsX1_begin := goodIn_r _ [121, 122, 123, 124, 125, 126, 127, 128, 129, 130, 158, 159, 160, 161, 162, 163] (by decide +kernel) (by decide +kernel)
set_option maxRecDepth 20000 in
theorem gX5_house_X1_begin : GoodIn wsX5_house (wsV RX5 65 RX1 yX1_begin wsX1_begin) := goodIn_app (goodIn_of _ (by decide +kernel)) ggX5_house_X1_begin
theorem dX5_house_0 : decode cX5_house 0 = .ok (.aload_n 0, 1) := by decide +kernel
theorem dX5_house_1 : decode cX5_house 1 = .ok (.getfield 10, 3) := by decide +kernel
theorem dX5_house_4 : decode cX5_house 4 = .ok (.aload_n 0, 1) := by decide +kernel
theorem dX5_house_5 : decode cX5_house 5 = .ok (.getfield 23, 3) := by decide +kernel
theorem dX5_house_8 : decode cX5_house 8 = .ok (.invokevirtual 61, 3) := by decide +kernel
theorem dX5_house_11 : decode cX5_house 11 = .ok (.istore_n 1, 1) := by decide +kernel
theorem dX5_house_12 : decode cX5_house 12 = .ok (.iload_n 1, 1) := by decide +kernel
theorem dX5_house_13 : decode cX5_house 13 = .ok (.iconst (-1), 1) := by decide +kernel
theorem dX5_house_14 : decode cX5_house 14 = .ok (.if_icmp .eq 8, 3) := by decide +kernel
theorem dX5_house_17 : decode cX5_house 17 = .ok (.bipush (-10), 2) := by decide +kernel
theorem dX5_house_19 : decode cX5_house 19 = .ok (.iload_n 1, 1) := by decide +kernel
theorem dX5_house_20 : decode cX5_house 20 = .ok (.isub, 1) := by decide +kernel
theorem dX5_house_21 : decode cX5_house 21 = .ok (.ireturn, 1) := by decide +kernel
theorem dX5_house_22 : decode cX5_house 22 = .ok (.aload_n 0, 1) := by decide +kernel
theorem dX5_house_23 : decode cX5_house 23 = .ok (.getfield 19, 3) := by decide +kernel
theorem dX5_house_26 : decode cX5_house 26 = .ok (.astore_n 2, 1) := by decide +kernel
theorem dX5_house_27 : decode cX5_house 27 = .ok (.aload_n 0, 1) := by decide +kernel
theorem dX5_house_28 : decode cX5_house 28 = .ok (.aload_n 0, 1) := by decide +kernel
theorem dX5_house_29 : decode cX5_house 29 = .ok (.getfield 23, 3) := by decide +kernel
theorem dX5_house_32 : decode cX5_house 32 = .ok (.putfield 19, 3) := by decide +kernel
theorem dX5_house_35 : decode cX5_house 35 = .ok (.aload_n 0, 1) := by decide +kernel
theorem dX5_house_36 : decode cX5_house 36 = .ok (.aload_n 2, 1) := by decide +kernel
theorem dX5_house_37 : decode cX5_house 37 = .ok (.putfield 23, 3) := by decide +kernel
theorem dX5_house_40 : decode cX5_house 40 = .ok (.aload_n 0, 1) := by decide +kernel
theorem dX5_house_41 : decode cX5_house 41 = .ok (.getfield 10, 3) := by decide +kernel
theorem dX5_house_44 : decode cX5_house 44 = .ok (.iconst 0, 1) := by decide +kernel
theorem dX5_house_45 : decode cX5_house 45 = .ok (.putfield 53, 3) := by decide +kernel
theorem dX5_house_48 : decode cX5_house 48 = .ok (.aload_n 0, 1) := by decide +kernel
theorem dX5_house_49 : decode cX5_house 49 = .ok (.getfield 29, 3) := by decide +kernel
theorem dX5_house_52 : decode cX5_house 52 = .ok (.invokevirtual 65, 3) := by decide +kernel
theorem dX5_house_55 : decode cX5_house 55 = .ok (.aload_n 0, 1) := by decide +kernel
theorem dX5_house_56 : decode cX5_house 56 = .ok (.getfield 42, 3) := by decide +kernel
theorem dX5_house_59 : decode cX5_house 59 = .ok (.iconst 0, 1) := by decide +kernel
theorem dX5_house_60 : decode cX5_house 60 = .ok (.putfield 68, 3) := by decide +kernel
theorem dX5_house_63 : decode cX5_house 63 = .ok (.aload_n 0, 1) := by decide +kernel
theorem dX5_house_64 : decode cX5_house 64 = .ok (.iconst 0, 1) := by decide +kernel
theorem dX5_house_65 : decode cX5_house 65 = .ok (.putfield 71, 3) := by decide +kernel
theorem dX5_house_68 : decode cX5_house 68 = .ok (.aload_n 0, 1) := by decide +kernel
theorem dX5_house_69 : decode cX5_house 69 = .ok (.iconst 0, 1) := by decide +kernel
theorem dX5_house_70 : decode cX5_house 70 = .ok (.putfield 75, 3) := by decide +kernel
theorem dX5_house_73 : decode cX5_house 73 = .ok (.aload_n 0, 1) := by decide +kernel
theorem dX5_house_74 : decode cX5_house 74 = .ok (.getfield 19, 3) := by decide +kernel
theorem dX5_house_77 : decode cX5_house 77 = .ok (.getfield 78, 3) := by decide +kernel
theorem dX5_house_80 : decode cX5_house 80 = .ok (.ireturn, 1) := by decide +kernel
set_option maxRecDepth 20000 in
theorem ggX5_part_X0_has : GoodIn wsX5_part wsX0_has := goodIn_r _ [7, 8, 58, 59, 60, 61, 62] (by decide +kernel) (by decide +kernel)
set_option maxRecDepth 20000 in
theorem gX5_part_X0_has : GoodIn wsX5_part (wsV RX5 81 RX0 yX0_has wsX0_has) := goodIn_app (goodIn_of _ (by decide +kernel)) ggX5_part_X0_has
set_option maxRecDepth 20000 in
theorem ggX5_part_X0_sortOf : GoodIn wsX5_part wsX0_sortOf := goodIn_r _ [12, 13, 14, 4, 5, 6, 7, 8, 58, 59, 60, 61, 62] (by decide +kernel) (by decide +kernel)
set_option maxRecDepth 20000 in
theorem gX5_part_X0_sortOf : GoodIn wsX5_part (wsV RX5 85 RX0 yX0_sortOf wsX0_sortOf) := goodIn_app (goodIn_of _ (by decide +kernel)) ggX5_part_X0_sortOf
set_option maxRecDepth 20000 in
theorem ggX5_part_X0_leftOf : GoodIn wsX5_part wsX0_leftOf := goodIn_r _ [18, 19, 14, 4, 5, 6, 7, 8, 58, 59, 60, 61, 62] (by decide +kernel) (by decide +kernel)
set_option maxRecDepth 20000 in
theorem gX5_part_X0_leftOf : GoodIn wsX5_part (wsV RX5 89 RX0 yX0_leftOf wsX0_leftOf) := goodIn_app (goodIn_of _ (by decide +kernel)) ggX5_part_X0_leftOf
set_option maxRecDepth 20000 in
theorem ggX5_part_X0_rightOf : GoodIn wsX5_part wsX0_rightOf := goodIn_r _ [23, 24, 14, 4, 5, 6, 7, 8, 58, 59, 60, 61, 62] (by decide +kernel) (by decide +kernel)
set_option maxRecDepth 20000 in
theorem gX5_part_X0_rightOf : GoodIn wsX5_part (wsV RX5 92 RX0 yX0_rightOf wsX0_rightOf) := goodIn_app (goodIn_of _ (by decide +kernel)) ggX5_part_X0_rightOf
set_option maxRecDepth 20000 in
theorem ggX5_part_X0_turnOf : GoodIn wsX5_part wsX0_turnOf := goodIn_r _ [28, 29, 14, 4, 5, 6, 7, 8, 58, 59, 60, 61, 62] (by decide +kernel) (by decide +kernel)
set_option maxRecDepth 20000 in
theorem gX5_part_X0_turnOf : GoodIn wsX5_part (wsV RX5 95 RX0 yX0_turnOf wsX0_turnOf) := goodIn_app (goodIn_of _ (by decide +kernel)) ggX5_part_X0_turnOf
set_option maxRecDepth 20000 in
theorem ggX5_part_X2_standAt : GoodIn wsX5_part wsX2_standAt := goodIn_r _ [33] (by decide +kernel) (by decide +kernel)
set_option maxRecDepth 20000 in
theorem gX5_part_X2_standAt : GoodIn wsX5_part (va_wsS RX5 101 yX2_standAt wsX2_standAt) := goodIn_app (goodIn_of _ (by decide +kernel)) ggX5_part_X2_standAt
set_option maxRecDepth 20000 in
theorem ggX5_part_X1_atPart : GoodIn wsX5_part wsX1_atPart := goodIn_r _ [38, 39, 52, 53, 54, 55, 56, 57] (by decide +kernel) (by decide +kernel)
set_option maxRecDepth 20000 in
theorem gX5_part_X1_atPart : GoodIn wsX5_part (wsV RX5 107 RX1 yX1_atPart wsX1_atPart) := goodIn_app (goodIn_of _ (by decide +kernel)) ggX5_part_X1_atPart
theorem dX5_part_0 : decode cX5_part 0 = .ok (.aload_n 0, 1) := by decide +kernel
theorem dX5_part_1 : decode cX5_part 1 = .ok (.getfield 19, 3) := by decide +kernel
theorem dX5_part_4 : decode cX5_part 4 = .ok (.iload_n 1, 1) := by decide +kernel
theorem dX5_part_5 : decode cX5_part 5 = .ok (.invokevirtual 81, 3) := by decide +kernel
theorem dX5_part_8 : decode cX5_part 8 = .ok (.ifCond .eq 12, 3) := by decide +kernel
theorem dX5_part_11 : decode cX5_part 11 = .ok (.iload_n 2, 1) := by decide +kernel
theorem dX5_part_12 : decode cX5_part 12 = .ok (.ifCond .lt 8, 3) := by decide +kernel
theorem dX5_part_15 : decode cX5_part 15 = .ok (.iload_n 2, 1) := by decide +kernel
theorem dX5_part_16 : decode cX5_part 16 = .ok (.iconst 5, 1) := by decide +kernel
theorem dX5_part_17 : decode cX5_part 17 = .ok (.if_icmp .le 5, 3) := by decide +kernel
theorem dX5_part_20 : decode cX5_part 20 = .ok (.iconst (-1), 1) := by decide +kernel
theorem dX5_part_21 : decode cX5_part 21 = .ok (.ireturn, 1) := by decide +kernel
theorem dX5_part_22 : decode cX5_part 22 = .ok (.iload_n 2, 1) := by decide +kernel
theorem dX5_part_23 : decode cX5_part 23 = .ok (.tableswitch 81 0 4 #[33, 42, 51, 60, 69], 33) := by decide +kernel
theorem dX5_part_56 : decode cX5_part 56 = .ok (.aload_n 0, 1) := by decide +kernel
theorem dX5_part_57 : decode cX5_part 57 = .ok (.getfield 19, 3) := by decide +kernel
theorem dX5_part_60 : decode cX5_part 60 = .ok (.iload_n 1, 1) := by decide +kernel
theorem dX5_part_61 : decode cX5_part 61 = .ok (.invokevirtual 85, 3) := by decide +kernel
theorem dX5_part_64 : decode cX5_part 64 = .ok (.ireturn, 1) := by decide +kernel
theorem dX5_part_65 : decode cX5_part 65 = .ok (.aload_n 0, 1) := by decide +kernel
theorem dX5_part_66 : decode cX5_part 66 = .ok (.getfield 19, 3) := by decide +kernel
theorem dX5_part_69 : decode cX5_part 69 = .ok (.iload_n 1, 1) := by decide +kernel
theorem dX5_part_70 : decode cX5_part 70 = .ok (.invokevirtual 89, 3) := by decide +kernel
theorem dX5_part_73 : decode cX5_part 73 = .ok (.ireturn, 1) := by decide +kernel
theorem dX5_part_74 : decode cX5_part 74 = .ok (.aload_n 0, 1) := by decide +kernel
theorem dX5_part_75 : decode cX5_part 75 = .ok (.getfield 19, 3) := by decide +kernel
theorem dX5_part_78 : decode cX5_part 78 = .ok (.iload_n 1, 1) := by decide +kernel
