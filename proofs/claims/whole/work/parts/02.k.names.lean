theorem dX6_undo_76 : decode cX6_undo 76 = .ok (.getfield 29, 3) := by decide +kernel
theorem dX6_undo_79 : decode cX6_undo 79 = .ok (.bipush 19, 2) := by decide +kernel
theorem dX6_undo_81 : decode cX6_undo 81 = .ok (.iaload, 1) := by decide +kernel
theorem dX6_undo_82 : decode cX6_undo 82 = .ok (.ireturn, 1) := by decide +kernel
set_option maxRecDepth 20000 in
theorem ggX6_lodge_X6_isPart : GoodIn wsX6_lodge wsX6_isPart := goodIn_r _ [6, 7, 8, 9, 5, 10, 11, 12, 13, 14, 15, 16, 17, 18, 19, 20, 21, 22, 23, 24, 25, 26, 27, 28, 29, 30, 31, 32, 33, 34, 35, 36, 37, 38] (by decide +kernel) (by decide +kernel)
set_option maxRecDepth 20000 in
theorem gX6_lodge_X6_isPart : GoodIn wsX6_lodge (wsV RX6 112 RX6 yX6_isPart wsX6_isPart) := goodIn_app (goodIn_of _ (by decide +kernel)) ggX6_lodge_X6_isPart
theorem dX6_lodge_0 : decode cX6_lodge 0 = .ok (.iload_n 1, 1) := by decide +kernel
theorem dX6_lodge_1 : decode cX6_lodge 1 = .ok (.iconst (-1), 1) := by decide +kernel
theorem dX6_lodge_2 : decode cX6_lodge 2 = .ok (.if_icmp .eq 13, 3) := by decide +kernel
theorem dX6_lodge_5 : decode cX6_lodge 5 = .ok (.aload_n 0, 1) := by decide +kernel
theorem dX6_lodge_6 : decode cX6_lodge 6 = .ok (.iload_n 1, 1) := by decide +kernel
theorem dX6_lodge_7 : decode cX6_lodge 7 = .ok (.invokevirtual 112, 3) := by decide +kernel
theorem dX6_lodge_10 : decode cX6_lodge 10 = .ok (.ifCond .ne 5, 3) := by decide +kernel
theorem dX6_lodge_13 : decode cX6_lodge 13 = .ok (.iconst (-1), 1) := by decide +kernel
theorem dX6_lodge_14 : decode cX6_lodge 14 = .ok (.ireturn, 1) := by decide +kernel
theorem dX6_lodge_15 : decode cX6_lodge 15 = .ok (.aload_n 0, 1) := by decide +kernel
theorem dX6_lodge_16 : decode cX6_lodge 16 = .ok (.getfield 29, 3) := by decide +kernel
theorem dX6_lodge_19 : decode cX6_lodge 19 = .ok (.bipush 18, 2) := by decide +kernel
theorem dX6_lodge_21 : decode cX6_lodge 21 = .ok (.iaload, 1) := by decide +kernel
theorem dX6_lodge_22 : decode cX6_lodge 22 = .ok (.istore_n 2, 1) := by decide +kernel
theorem dX6_lodge_23 : decode cX6_lodge 23 = .ok (.aload_n 0, 1) := by decide +kernel
theorem dX6_lodge_24 : decode cX6_lodge 24 = .ok (.getfield 29, 3) := by decide +kernel
theorem dX6_lodge_27 : decode cX6_lodge 27 = .ok (.bipush 18, 2) := by decide +kernel
theorem dX6_lodge_29 : decode cX6_lodge 29 = .ok (.iload_n 1, 1) := by decide +kernel
theorem dX6_lodge_30 : decode cX6_lodge 30 = .ok (.iconst (-1), 1) := by decide +kernel
theorem dX6_lodge_31 : decode cX6_lodge 31 = .ok (.if_icmp .ne 8, 3) := by decide +kernel
theorem dX6_lodge_34 : decode cX6_lodge 34 = .ok (.bipush (-9), 2) := by decide +kernel
theorem dX6_lodge_36 : decode cX6_lodge 36 = .ok (.goto 4, 3) := by decide +kernel
theorem dX6_lodge_39 : decode cX6_lodge 39 = .ok (.iload_n 1, 1) := by decide +kernel
theorem dX6_lodge_40 : decode cX6_lodge 40 = .ok (.iastore, 1) := by decide +kernel
theorem dX6_lodge_41 : decode cX6_lodge 41 = .ok (.iload_n 2, 1) := by decide +kernel
theorem dX6_lodge_42 : decode cX6_lodge 42 = .ok (.ireturn, 1) := by decide +kernel
theorem dX6_now_0 : decode cX6_now 0 = .ok (.iconst 0, 1) := by decide +kernel
theorem dX6_now_1 : decode cX6_now 1 = .ok (.istore_n 2, 1) := by decide +kernel
theorem dX6_now_2 : decode cX6_now 2 = .ok (.iconst 0, 1) := by decide +kernel
theorem dX6_now_3 : decode cX6_now 3 = .ok (.istore_n 3, 1) := by decide +kernel
theorem dX6_now_4 : decode cX6_now 4 = .ok (.iconst 0, 1) := by decide +kernel
theorem dX6_now_5 : decode cX6_now 5 = .ok (.istore 4, 2) := by decide +kernel
theorem dX6_now_7 : decode cX6_now 7 = .ok (.iload 4, 2) := by decide +kernel
theorem dX6_now_9 : decode cX6_now 9 = .ok (.aload_n 0, 1) := by decide +kernel
theorem dX6_now_10 : decode cX6_now 10 = .ok (.getfield 13, 3) := by decide +kernel
theorem dX6_now_13 : decode cX6_now 13 = .ok (.iconst 0, 1) := by decide +kernel
theorem dX6_now_14 : decode cX6_now 14 = .ok (.iaload, 1) := by decide +kernel
theorem dX6_now_15 : decode cX6_now 15 = .ok (.if_icmp .ge 51, 3) := by decide +kernel
theorem dX6_now_18 : decode cX6_now 18 = .ok (.iload_n 2, 1) := by decide +kernel
theorem dX6_now_19 : decode cX6_now 19 = .ok (.aload_n 0, 1) := by decide +kernel
theorem dX6_now_20 : decode cX6_now 20 = .ok (.getfield 29, 3) := by decide +kernel
theorem dX6_now_23 : decode cX6_now 23 = .ok (.bipush 9, 2) := by decide +kernel
theorem dX6_now_25 : decode cX6_now 25 = .ok (.iload 4, 2) := by decide +kernel
theorem dX6_now_27 : decode cX6_now 27 = .ok (.iadd, 1) := by decide +kernel
theorem dX6_now_28 : decode cX6_now 28 = .ok (.iaload, 1) := by decide +kernel
theorem dX6_now_29 : decode cX6_now 29 = .ok (.iadd, 1) := by decide +kernel
theorem dX6_now_30 : decode cX6_now 30 = .ok (.istore_n 2, 1) := by decide +kernel
theorem dX6_now_31 : decode cX6_now 31 = .ok (.iload_n 3, 1) := by decide +kernel
theorem dX6_now_32 : decode cX6_now 32 = .ok (.aload_n 0, 1) := by decide +kernel
theorem dX6_now_33 : decode cX6_now 33 = .ok (.getfield 17, 3) := by decide +kernel
theorem dX6_now_36 : decode cX6_now 36 = .ok (.iload 4, 2) := by decide +kernel
theorem dX6_now_38 : decode cX6_now 38 = .ok (.iaload, 1) := by decide +kernel
theorem dX6_now_39 : decode cX6_now 39 = .ok (.iconst 3, 1) := by decide +kernel
theorem dX6_now_40 : decode cX6_now 40 = .ok (.if_icmp .ne 17, 3) := by decide +kernel
theorem dX6_now_43 : decode cX6_now 43 = .ok (.aload_n 0, 1) := by decide +kernel
theorem dX6_now_44 : decode cX6_now 44 = .ok (.getfield 29, 3) := by decide +kernel
theorem dX6_now_47 : decode cX6_now 47 = .ok (.iload 4, 2) := by decide +kernel
theorem dX6_now_49 : decode cX6_now 49 = .ok (.iaload, 1) := by decide +kernel
theorem dX6_now_50 : decode cX6_now 50 = .ok (.ifCond .le 7, 3) := by decide +kernel
theorem dX6_now_53 : decode cX6_now 53 = .ok (.iconst 1, 1) := by decide +kernel
theorem dX6_now_54 : decode cX6_now 54 = .ok (.goto 4, 3) := by decide +kernel
theorem dX6_now_57 : decode cX6_now 57 = .ok (.iconst 0, 1) := by decide +kernel
theorem dX6_now_58 : decode cX6_now 58 = .ok (.iadd, 1) := by decide +kernel
theorem dX6_now_59 : decode cX6_now 59 = .ok (.istore_n 3, 1) := by decide +kernel
theorem dX6_now_60 : decode cX6_now 60 = .ok (.iinc 4 1, 3) := by decide +kernel
theorem dX6_now_63 : decode cX6_now 63 = .ok (.goto (-56), 3) := by decide +kernel
theorem dX6_now_66 : decode cX6_now 66 = .ok (.iload_n 1, 1) := by decide +kernel
theorem dX6_now_67 : decode cX6_now 67 = .ok (.ifCond .ne 13, 3) := by decide +kernel
theorem dX6_now_70 : decode cX6_now 70 = .ok (.aload_n 0, 1) := by decide +kernel
theorem dX6_now_71 : decode cX6_now 71 = .ok (.getfield 29, 3) := by decide +kernel
theorem dX6_now_74 : decode cX6_now 74 = .ok (.bipush 19, 2) := by decide +kernel
theorem dX6_now_76 : decode cX6_now 76 = .ok (.iaload, 1) := by decide +kernel
theorem dX6_now_77 : decode cX6_now 77 = .ok (.goto 37, 3) := by decide +kernel
theorem dX6_now_80 : decode cX6_now 80 = .ok (.iload_n 1, 1) := by decide +kernel
theorem dX6_now_81 : decode cX6_now 81 = .ok (.iconst 1, 1) := by decide +kernel
theorem dX6_now_82 : decode cX6_now 82 = .ok (.if_icmp .ne 7, 3) := by decide +kernel
theorem dX6_now_85 : decode cX6_now 85 = .ok (.iload_n 2, 1) := by decide +kernel
theorem dX6_now_86 : decode cX6_now 86 = .ok (.goto 28, 3) := by decide +kernel
theorem dX6_now_89 : decode cX6_now 89 = .ok (.iload_n 1, 1) := by decide +kernel
theorem dX6_now_90 : decode cX6_now 90 = .ok (.iconst 2, 1) := by decide +kernel
theorem dX6_now_91 : decode cX6_now 91 = .ok (.if_icmp .ne 13, 3) := by decide +kernel
theorem dX6_now_94 : decode cX6_now 94 = .ok (.aload_n 0, 1) := by decide +kernel
theorem dX6_now_95 : decode cX6_now 95 = .ok (.getfield 29, 3) := by decide +kernel
theorem dX6_now_98 : decode cX6_now 98 = .ok (.bipush 18, 2) := by decide +kernel
theorem dX6_now_100 : decode cX6_now 100 = .ok (.iaload, 1) := by decide +kernel
theorem dX6_now_101 : decode cX6_now 101 = .ok (.goto 13, 3) := by decide +kernel
theorem dX6_now_104 : decode cX6_now 104 = .ok (.iload_n 1, 1) := by decide +kernel
theorem dX6_now_105 : decode cX6_now 105 = .ok (.iconst 3, 1) := by decide +kernel
theorem dX6_now_106 : decode cX6_now 106 = .ok (.if_icmp .ne 7, 3) := by decide +kernel
theorem dX6_now_109 : decode cX6_now 109 = .ok (.iload_n 3, 1) := by decide +kernel
theorem dX6_now_110 : decode cX6_now 110 = .ok (.goto 4, 3) := by decide +kernel
theorem dX6_now_113 : decode cX6_now 113 = .ok (.iconst (-1), 1) := by decide +kernel
theorem dX6_now_114 : decode cX6_now 114 = .ok (.ireturn, 1) := by decide +kernel
set_option maxRecDepth 20000 in
theorem ggX6_isRow_X6_in : GoodIn wsX6_isRow wsX6_in := goodIn_r _ [6] (by decide +kernel) (by decide +kernel)
set_option maxRecDepth 20000 in
theorem gX6_isRow_X6_in : GoodIn wsX6_isRow (va_wsS RX6 63 yX6_in wsX6_in) := goodIn_app (goodIn_of _ (by decide +kernel)) ggX6_isRow_X6_in
theorem dX6_isRow_0 : decode cX6_isRow 0 = .ok (.iload_n 1, 1) := by decide +kernel
theorem dX6_isRow_1 : decode cX6_isRow 1 = .ok (.istore_n 2, 1) := by decide +kernel
theorem dX6_isRow_2 : decode cX6_isRow 2 = .ok (.aload_n 0, 1) := by decide +kernel
theorem dX6_isRow_3 : decode cX6_isRow 3 = .ok (.iconst 0, 1) := by decide +kernel
theorem dX6_isRow_4 : decode cX6_isRow 4 = .ok (.putfield 126, 3) := by decide +kernel
theorem dX6_isRow_7 : decode cX6_isRow 7 = .ok (.iload_n 1, 1) := by decide +kernel
theorem dX6_isRow_8 : decode cX6_isRow 8 = .ok (.ifCond .ge 5, 3) := by decide +kernel
theorem dX6_isRow_11 : decode cX6_isRow 11 = .ok (.iconst 0, 1) := by decide +kernel
theorem dX6_isRow_12 : decode cX6_isRow 12 = .ok (.ireturn, 1) := by decide +kernel
theorem dX6_isRow_13 : decode cX6_isRow 13 = .ok (.iload_n 2, 1) := by decide +kernel
theorem dX6_isRow_14 : decode cX6_isRow 14 = .ok (.ifCond .le 44, 3) := by decide +kernel
theorem dX6_isRow_17 : decode cX6_isRow 17 = .ok (.aload_n 0, 1) := by decide +kernel
theorem dX6_isRow_18 : decode cX6_isRow 18 = .ok (.getfield 126, 3) := by decide +kernel
theorem dX6_isRow_21 : decode cX6_isRow 21 = .ok (.bipush 9, 2) := by decide +kernel
theorem dX6_isRow_23 : decode cX6_isRow 23 = .ok (.if_icmp .eq 15, 3) := by decide +kernel
theorem dX6_isRow_26 : decode cX6_isRow 26 = .ok (.iload_n 2, 1) := by decide +kernel
theorem dX6_isRow_27 : decode cX6_isRow 27 = .ok (.bipush 10, 2) := by decide +kernel
theorem dX6_isRow_29 : decode cX6_isRow 29 = .ok (.irem, 1) := by decide +kernel
theorem dX6_isRow_30 : decode cX6_isRow 30 = .ok (.iconst 1, 1) := by decide +kernel
theorem dX6_isRow_31 : decode cX6_isRow 31 = .ok (.iconst 2, 1) := by decide +kernel
theorem dX6_isRow_32 : decode cX6_isRow 32 = .ok (.invokestatic 63, 3) := by decide +kernel
theorem dX6_isRow_35 : decode cX6_isRow 35 = .ok (.ifCond .ne 5, 3) := by decide +kernel
theorem dX6_isRow_38 : decode cX6_isRow 38 = .ok (.iconst 0, 1) := by decide +kernel
theorem dX6_isRow_39 : decode cX6_isRow 39 = .ok (.ireturn, 1) := by decide +kernel
theorem dX6_isRow_40 : decode cX6_isRow 40 = .ok (.aload_n 0, 1) := by decide +kernel
theorem dX6_isRow_41 : decode cX6_isRow 41 = .ok (.dup, 1) := by decide +kernel
theorem dX6_isRow_42 : decode cX6_isRow 42 = .ok (.getfield 126, 3) := by decide +kernel
theorem dX6_isRow_45 : decode cX6_isRow 45 = .ok (.iconst 1, 1) := by decide +kernel
theorem dX6_isRow_46 : decode cX6_isRow 46 = .ok (.iadd, 1) := by decide +kernel
theorem dX6_isRow_47 : decode cX6_isRow 47 = .ok (.putfield 126, 3) := by decide +kernel
theorem dX6_isRow_50 : decode cX6_isRow 50 = .ok (.iload_n 2, 1) := by decide +kernel
theorem dX6_isRow_51 : decode cX6_isRow 51 = .ok (.bipush 10, 2) := by decide +kernel
theorem dX6_isRow_53 : decode cX6_isRow 53 = .ok (.idiv, 1) := by decide +kernel
theorem dX6_isRow_54 : decode cX6_isRow 54 = .ok (.istore_n 2, 1) := by decide +kernel
theorem dX6_isRow_55 : decode cX6_isRow 55 = .ok (.goto (-42), 3) := by decide +kernel
theorem dX6_isRow_58 : decode cX6_isRow 58 = .ok (.iload_n 1, 1) := by decide +kernel
theorem dX6_isRow_59 : decode cX6_isRow 59 = .ok (.istore_n 2, 1) := by decide +kernel
theorem dX6_isRow_60 : decode cX6_isRow 60 = .ok (.aload_n 0, 1) := by decide +kernel
theorem dX6_isRow_61 : decode cX6_isRow 61 = .ok (.getfield 126, 3) := by decide +kernel
theorem dX6_isRow_64 : decode cX6_isRow 64 = .ok (.iconst 1, 1) := by decide +kernel
theorem dX6_isRow_65 : decode cX6_isRow 65 = .ok (.isub, 1) := by decide +kernel
theorem dX6_isRow_66 : decode cX6_isRow 66 = .ok (.istore_n 3, 1) := by decide +kernel
theorem dX6_isRow_67 : decode cX6_isRow 67 = .ok (.iload_n 3, 1) := by decide +kernel
theorem dX6_isRow_68 : decode cX6_isRow 68 = .ok (.ifCond .lt 26, 3) := by decide +kernel
theorem dX6_isRow_71 : decode cX6_isRow 71 = .ok (.aload_n 0, 1) := by decide +kernel
theorem dX6_isRow_72 : decode cX6_isRow 72 = .ok (.getfield 39, 3) := by decide +kernel
theorem dX6_isRow_75 : decode cX6_isRow 75 = .ok (.iload_n 3, 1) := by decide +kernel
theorem dX6_isRow_76 : decode cX6_isRow 76 = .ok (.iload_n 2, 1) := by decide +kernel
theorem dX6_isRow_77 : decode cX6_isRow 77 = .ok (.bipush 10, 2) := by decide +kernel
theorem dX6_isRow_79 : decode cX6_isRow 79 = .ok (.irem, 1) := by decide +kernel
theorem dX6_isRow_80 : decode cX6_isRow 80 = .ok (.iconst 1, 1) := by decide +kernel
theorem dX6_isRow_81 : decode cX6_isRow 81 = .ok (.isub, 1) := by decide +kernel
theorem dX6_isRow_82 : decode cX6_isRow 82 = .ok (.iastore, 1) := by decide +kernel
theorem dX6_isRow_83 : decode cX6_isRow 83 = .ok (.iload_n 2, 1) := by decide +kernel
theorem dX6_isRow_84 : decode cX6_isRow 84 = .ok (.bipush 10, 2) := by decide +kernel
theorem dX6_isRow_86 : decode cX6_isRow 86 = .ok (.idiv, 1) := by decide +kernel
theorem dX6_isRow_87 : decode cX6_isRow 87 = .ok (.istore_n 2, 1) := by decide +kernel
theorem dX6_isRow_88 : decode cX6_isRow 88 = .ok (.iinc 3 (-1), 3) := by decide +kernel
theorem dX6_isRow_91 : decode cX6_isRow 91 = .ok (.goto (-24), 3) := by decide +kernel
theorem dX6_isRow_94 : decode cX6_isRow 94 = .ok (.iconst 1, 1) := by decide +kernel
theorem dX6_isRow_95 : decode cX6_isRow 95 = .ok (.ireturn, 1) := by decide +kernel
set_option maxRecDepth 20000 in
theorem ggX6_bring_X6_fromNow : GoodIn wsX6_bring wsX6_fromNow := goodIn_r _ [8, 9, 10, 11, 21, 22, 23, 24, 25, 26, 27, 28, 29, 30, 31, 32, 33, 34, 35, 36, 37, 38, 39, 40, 41, 42, 43, 44, 45, 46, 47, 48] (by decide +kernel) (by decide +kernel)
set_option maxRecDepth 20000 in
theorem gX6_bring_X6_fromNow : GoodIn wsX6_bring (wsV RX6 119 RX6 yX6_fromNow wsX6_fromNow) := goodIn_app (goodIn_of _ (by decide +kernel)) ggX6_bring_X6_fromNow
set_option maxRecDepth 20000 in
theorem ggX6_bring_X6_go : GoodIn wsX6_bring wsX6_go := goodIn_r _ [15, 16, 17, 11, 18, 19, 20, 9, 21, 22, 23, 24, 25, 26, 27, 28, 29, 30, 31, 32, 33, 34, 35, 36, 37, 38, 39, 40, 41, 42, 43, 44, 45, 46, 47, 48] (by decide +kernel) (by decide +kernel)
set_option maxRecDepth 20000 in
theorem gX6_bring_X6_go : GoodIn wsX6_bring (wsV RX6 122 RX6 yX6_go wsX6_go) := goodIn_app (goodIn_of _ (by decide +kernel)) ggX6_bring_X6_go
theorem dX6_bring_0 : decode cX6_bring 0 = .ok (.aload_n 0, 1) := by decide +kernel
theorem dX6_bring_1 : decode cX6_bring 1 = .ok (.invokevirtual 119, 3) := by decide +kernel
theorem dX6_bring_4 : decode cX6_bring 4 = .ok (.iconst 0, 1) := by decide +kernel
theorem dX6_bring_5 : decode cX6_bring 5 = .ok (.istore_n 1, 1) := by decide +kernel
theorem dX6_bring_6 : decode cX6_bring 6 = .ok (.iload_n 1, 1) := by decide +kernel
theorem dX6_bring_7 : decode cX6_bring 7 = .ok (.aload_n 0, 1) := by decide +kernel
theorem dX6_bring_8 : decode cX6_bring 8 = .ok (.getfield 126, 3) := by decide +kernel
theorem dX6_bring_11 : decode cX6_bring 11 = .ok (.if_icmp .ge 25, 3) := by decide +kernel
theorem dX6_bring_14 : decode cX6_bring 14 = .ok (.aload_n 0, 1) := by decide +kernel
theorem dX6_bring_15 : decode cX6_bring 15 = .ok (.getfield 42, 3) := by decide +kernel
theorem dX6_bring_18 : decode cX6_bring 18 = .ok (.iload_n 1, 1) := by decide +kernel
theorem dX6_bring_19 : decode cX6_bring 19 = .ok (.aload_n 0, 1) := by decide +kernel
theorem dX6_bring_20 : decode cX6_bring 20 = .ok (.aload_n 0, 1) := by decide +kernel
theorem dX6_bring_21 : decode cX6_bring 21 = .ok (.getfield 39, 3) := by decide +kernel
theorem dX6_bring_24 : decode cX6_bring 24 = .ok (.iload_n 1, 1) := by decide +kernel
theorem dX6_bring_25 : decode cX6_bring 25 = .ok (.iaload, 1) := by decide +kernel
theorem dX6_bring_26 : decode cX6_bring 26 = .ok (.invokevirtual 122, 3) := by decide +kernel
theorem dX6_bring_29 : decode cX6_bring 29 = .ok (.iastore, 1) := by decide +kernel
theorem dX6_bring_30 : decode cX6_bring 30 = .ok (.iinc 1 1, 3) := by decide +kernel
theorem dX6_bring_33 : decode cX6_bring 33 = .ok (.goto (-27), 3) := by decide +kernel
theorem dX6_bring_36 : decode cX6_bring 36 = .ok (.return_, 1) := by decide +kernel
set_option maxRecDepth 20000 in
theorem ggX6_brings_X6_isRow : GoodIn wsX6_brings wsX6_isRow := goodIn_r _ [8, 2, 9, 10, 11, 7, 12, 32, 33, 34, 35, 36, 37, 38, 39, 40, 41, 42, 43, 44, 45, 46, 47, 48, 49, 50, 51, 52, 53, 54, 55, 56, 57, 58, 59] (by decide +kernel) (by decide +kernel)
set_option maxRecDepth 20000 in
theorem gX6_brings_X6_isRow : GoodIn wsX6_brings (wsV RX6 129 RX6 yX6_isRow wsX6_isRow) := goodIn_app (goodIn_of _ (by decide +kernel)) ggX6_brings_X6_isRow
set_option maxRecDepth 20000 in
theorem ggX6_brings_X6_bring : GoodIn wsX6_brings wsX6_bring := goodIn_r _ [16, 2, 3, 9, 17, 18, 19, 7, 20, 21, 22, 23, 24, 25, 26, 27, 1, 28, 29, 30, 31, 32, 33, 34, 35, 36, 37, 38, 39, 40, 41, 42, 43, 44, 45, 46, 47, 48, 49, 50, 51, 52, 53, 54, 55, 56, 57, 58, 59] (by decide +kernel) (by decide +kernel)
set_option maxRecDepth 20000 in
theorem gX6_brings_X6_bring : GoodIn wsX6_brings (wsV RX6 132 RX6 yX6_bring wsX6_bring) := goodIn_app (goodIn_of _ (by decide +kernel)) ggX6_brings_X6_bring
theorem dX6_brings_0 : decode cX6_brings 0 = .ok (.aload_n 0, 1) := by decide +kernel
theorem dX6_brings_1 : decode cX6_brings 1 = .ok (.iload_n 1, 1) := by decide +kernel
theorem dX6_brings_2 : decode cX6_brings 2 = .ok (.invokevirtual 129, 3) := by decide +kernel
theorem dX6_brings_5 : decode cX6_brings 5 = .ok (.ifCond .eq 7, 3) := by decide +kernel
theorem dX6_brings_8 : decode cX6_brings 8 = .ok (.iload_n 2, 1) := by decide +kernel
theorem dX6_brings_9 : decode cX6_brings 9 = .ok (.ifCond .ge 5, 3) := by decide +kernel
theorem dX6_brings_12 : decode cX6_brings 12 = .ok (.iconst (-1), 1) := by decide +kernel
theorem dX6_brings_13 : decode cX6_brings 13 = .ok (.ireturn, 1) := by decide +kernel
theorem dX6_brings_14 : decode cX6_brings 14 = .ok (.aload_n 0, 1) := by decide +kernel
theorem dX6_brings_15 : decode cX6_brings 15 = .ok (.getfield 13, 3) := by decide +kernel
theorem dX6_brings_18 : decode cX6_brings 18 = .ok (.iconst 0, 1) := by decide +kernel
theorem dX6_brings_19 : decode cX6_brings 19 = .ok (.iaload, 1) := by decide +kernel
theorem dX6_brings_20 : decode cX6_brings 20 = .ok (.ifCond .ne 6, 3) := by decide +kernel
theorem dX6_brings_23 : decode cX6_brings 23 = .ok (.bipush (-2), 2) := by decide +kernel
theorem dX6_brings_25 : decode cX6_brings 25 = .ok (.ireturn, 1) := by decide +kernel
theorem dX6_brings_26 : decode cX6_brings 26 = .ok (.aload_n 0, 1) := by decide +kernel
theorem dX6_brings_27 : decode cX6_brings 27 = .ok (.invokevirtual 132, 3) := by decide +kernel
theorem dX6_brings_30 : decode cX6_brings 30 = .ok (.iload_n 2, 1) := by decide +kernel
theorem dX6_brings_31 : decode cX6_brings 31 = .ok (.aload_n 0, 1) := by decide +kernel
theorem dX6_brings_32 : decode cX6_brings 32 = .ok (.getfield 126, 3) := by decide +kernel
theorem dX6_brings_35 : decode cX6_brings 35 = .ok (.if_icmp .ge 12, 3) := by decide +kernel
theorem dX6_brings_38 : decode cX6_brings 38 = .ok (.aload_n 0, 1) := by decide +kernel
theorem dX6_brings_39 : decode cX6_brings 39 = .ok (.getfield 42, 3) := by decide +kernel
theorem dX6_brings_42 : decode cX6_brings 42 = .ok (.iload_n 2, 1) := by decide +kernel
theorem dX6_brings_43 : decode cX6_brings 43 = .ok (.iaload, 1) := by decide +kernel
theorem dX6_brings_44 : decode cX6_brings 44 = .ok (.goto 5, 3) := by decide +kernel
theorem dX6_brings_47 : decode cX6_brings 47 = .ok (.bipush (-5), 2) := by decide +kernel
theorem dX6_brings_49 : decode cX6_brings 49 = .ok (.ireturn, 1) := by decide +kernel
set_option maxRecDepth 20000 in
theorem ggX6_areLandings_X6_isPart : GoodIn wsX6_areLandings wsX6_isPart := goodIn_r _ [8, 9, 10, 11, 7, 12, 13, 14, 15, 16, 17, 18, 19, 20, 21, 22, 23, 24, 25, 26, 27, 28, 29, 30, 31, 32, 33, 34, 35, 36, 37, 38, 39, 40] (by decide +kernel) (by decide +kernel)
set_option maxRecDepth 20000 in
theorem gX6_areLandings_X6_isPart : GoodIn wsX6_areLandings (wsV RX6 112 RX6 yX6_isPart wsX6_isPart) := goodIn_app (goodIn_of _ (by decide +kernel)) ggX6_areLandings_X6_isPart
theorem dX6_areLandings_0 : decode cX6_areLandings 0 = .ok (.iload_n 1, 1) := by decide +kernel
theorem dX6_areLandings_1 : decode cX6_areLandings 1 = .ok (.istore_n 2, 1) := by decide +kernel
theorem dX6_areLandings_2 : decode cX6_areLandings 2 = .ok (.aload_n 0, 1) := by decide +kernel
theorem dX6_areLandings_3 : decode cX6_areLandings 3 = .ok (.iconst 0, 1) := by decide +kernel
theorem dX6_areLandings_4 : decode cX6_areLandings 4 = .ok (.putfield 135, 3) := by decide +kernel
theorem dX6_areLandings_7 : decode cX6_areLandings 7 = .ok (.iload_n 1, 1) := by decide +kernel
theorem dX6_areLandings_8 : decode cX6_areLandings 8 = .ok (.ifCond .lt 10, 3) := by decide +kernel
theorem dX6_areLandings_11 : decode cX6_areLandings 11 = .ok (.iload_n 1, 1) := by decide +kernel
theorem dX6_areLandings_12 : decode cX6_areLandings 12 = .ok (.sipush 9999, 3) := by decide +kernel
theorem dX6_areLandings_15 : decode cX6_areLandings 15 = .ok (.if_icmp .le 5, 3) := by decide +kernel
theorem dX6_areLandings_18 : decode cX6_areLandings 18 = .ok (.iconst 0, 1) := by decide +kernel
theorem dX6_areLandings_19 : decode cX6_areLandings 19 = .ok (.ireturn, 1) := by decide +kernel
theorem dX6_areLandings_20 : decode cX6_areLandings 20 = .ok (.iload_n 2, 1) := by decide +kernel
theorem dX6_areLandings_21 : decode cX6_areLandings 21 = .ok (.ifCond .le 47, 3) := by decide +kernel
theorem dX6_areLandings_24 : decode cX6_areLandings 24 = .ok (.iload_n 2, 1) := by decide +kernel
theorem dX6_areLandings_25 : decode cX6_areLandings 25 = .ok (.bipush 10, 2) := by decide +kernel
theorem dX6_areLandings_27 : decode cX6_areLandings 27 = .ok (.irem, 1) := by decide +kernel
theorem dX6_areLandings_28 : decode cX6_areLandings 28 = .ok (.iconst 1, 1) := by decide +kernel
theorem dX6_areLandings_29 : decode cX6_areLandings 29 = .ok (.isub, 1) := by decide +kernel
theorem dX6_areLandings_30 : decode cX6_areLandings 30 = .ok (.istore_n 3, 1) := by decide +kernel
theorem dX6_areLandings_31 : decode cX6_areLandings 31 = .ok (.aload_n 0, 1) := by decide +kernel
theorem dX6_areLandings_32 : decode cX6_areLandings 32 = .ok (.iload_n 3, 1) := by decide +kernel
theorem dX6_areLandings_33 : decode cX6_areLandings 33 = .ok (.invokevirtual 112, 3) := by decide +kernel
theorem dX6_areLandings_36 : decode cX6_areLandings 36 = .ok (.ifCond .eq 12, 3) := by decide +kernel
theorem dX6_areLandings_39 : decode cX6_areLandings 39 = .ok (.aload_n 0, 1) := by decide +kernel
theorem dX6_areLandings_40 : decode cX6_areLandings 40 = .ok (.getfield 17, 3) := by decide +kernel
theorem dX6_areLandings_43 : decode cX6_areLandings 43 = .ok (.iload_n 3, 1) := by decide +kernel
theorem dX6_areLandings_44 : decode cX6_areLandings 44 = .ok (.iaload, 1) := by decide +kernel
theorem dX6_areLandings_45 : decode cX6_areLandings 45 = .ok (.ifCond .eq 5, 3) := by decide +kernel
theorem dX6_areLandings_48 : decode cX6_areLandings 48 = .ok (.iconst 0, 1) := by decide +kernel
theorem dX6_areLandings_49 : decode cX6_areLandings 49 = .ok (.ireturn, 1) := by decide +kernel
theorem dX6_areLandings_50 : decode cX6_areLandings 50 = .ok (.aload_n 0, 1) := by decide +kernel
theorem dX6_areLandings_51 : decode cX6_areLandings 51 = .ok (.dup, 1) := by decide +kernel
theorem dX6_areLandings_52 : decode cX6_areLandings 52 = .ok (.getfield 135, 3) := by decide +kernel
theorem dX6_areLandings_55 : decode cX6_areLandings 55 = .ok (.iconst 1, 1) := by decide +kernel
theorem dX6_areLandings_56 : decode cX6_areLandings 56 = .ok (.iadd, 1) := by decide +kernel
theorem dX6_areLandings_57 : decode cX6_areLandings 57 = .ok (.putfield 135, 3) := by decide +kernel
theorem dX6_areLandings_60 : decode cX6_areLandings 60 = .ok (.iload_n 2, 1) := by decide +kernel
theorem dX6_areLandings_61 : decode cX6_areLandings 61 = .ok (.bipush 10, 2) := by decide +kernel
theorem dX6_areLandings_63 : decode cX6_areLandings 63 = .ok (.idiv, 1) := by decide +kernel
theorem dX6_areLandings_64 : decode cX6_areLandings 64 = .ok (.istore_n 2, 1) := by decide +kernel
theorem dX6_areLandings_65 : decode cX6_areLandings 65 = .ok (.goto (-45), 3) := by decide +kernel
theorem dX6_areLandings_68 : decode cX6_areLandings 68 = .ok (.iload_n 1, 1) := by decide +kernel
theorem dX6_areLandings_69 : decode cX6_areLandings 69 = .ok (.istore_n 2, 1) := by decide +kernel
theorem dX6_areLandings_70 : decode cX6_areLandings 70 = .ok (.aload_n 0, 1) := by decide +kernel
theorem dX6_areLandings_71 : decode cX6_areLandings 71 = .ok (.getfield 135, 3) := by decide +kernel
theorem dX6_areLandings_74 : decode cX6_areLandings 74 = .ok (.iconst 1, 1) := by decide +kernel
theorem dX6_areLandings_75 : decode cX6_areLandings 75 = .ok (.isub, 1) := by decide +kernel
theorem dX6_areLandings_76 : decode cX6_areLandings 76 = .ok (.istore_n 3, 1) := by decide +kernel
theorem dX6_areLandings_77 : decode cX6_areLandings 77 = .ok (.iload_n 3, 1) := by decide +kernel
theorem dX6_areLandings_78 : decode cX6_areLandings 78 = .ok (.ifCond .lt 26, 3) := by decide +kernel
theorem dX6_areLandings_81 : decode cX6_areLandings 81 = .ok (.aload_n 0, 1) := by decide +kernel
theorem dX6_areLandings_82 : decode cX6_areLandings 82 = .ok (.getfield 45, 3) := by decide +kernel
theorem dX6_areLandings_85 : decode cX6_areLandings 85 = .ok (.iload_n 3, 1) := by decide +kernel
theorem dX6_areLandings_86 : decode cX6_areLandings 86 = .ok (.iload_n 2, 1) := by decide +kernel
theorem dX6_areLandings_87 : decode cX6_areLandings 87 = .ok (.bipush 10, 2) := by decide +kernel
theorem dX6_areLandings_89 : decode cX6_areLandings 89 = .ok (.irem, 1) := by decide +kernel
theorem dX6_areLandings_90 : decode cX6_areLandings 90 = .ok (.iconst 1, 1) := by decide +kernel
theorem dX6_areLandings_91 : decode cX6_areLandings 91 = .ok (.isub, 1) := by decide +kernel
theorem dX6_areLandings_92 : decode cX6_areLandings 92 = .ok (.iastore, 1) := by decide +kernel
theorem dX6_areLandings_93 : decode cX6_areLandings 93 = .ok (.iload_n 2, 1) := by decide +kernel
theorem dX6_areLandings_94 : decode cX6_areLandings 94 = .ok (.bipush 10, 2) := by decide +kernel
theorem dX6_areLandings_96 : decode cX6_areLandings 96 = .ok (.idiv, 1) := by decide +kernel
theorem dX6_areLandings_97 : decode cX6_areLandings 97 = .ok (.istore_n 2, 1) := by decide +kernel
theorem dX6_areLandings_98 : decode cX6_areLandings 98 = .ok (.iinc 3 (-1), 3) := by decide +kernel
theorem dX6_areLandings_101 : decode cX6_areLandings 101 = .ok (.goto (-24), 3) := by decide +kernel
theorem dX6_areLandings_104 : decode cX6_areLandings 104 = .ok (.iconst 1, 1) := by decide +kernel
theorem dX6_areLandings_105 : decode cX6_areLandings 105 = .ok (.ireturn, 1) := by decide +kernel
set_option maxRecDepth 20000 in
theorem ggX6_bringsTold_X6_fromNow : GoodIn wsX6_bringsTold wsX6_fromNow := goodIn_r _ [7, 8, 9, 10, 20, 21, 22, 23, 24, 25, 26, 27, 28, 29, 30, 31, 32, 33, 34, 35, 36, 37, 38, 39, 40, 41, 42, 43, 44, 45, 46, 47] (by decide +kernel) (by decide +kernel)
set_option maxRecDepth 20000 in
theorem gX6_bringsTold_X6_fromNow : GoodIn wsX6_bringsTold (wsV RX6 119 RX6 yX6_fromNow wsX6_fromNow) := goodIn_app (goodIn_of _ (by decide +kernel)) ggX6_bringsTold_X6_fromNow
set_option maxRecDepth 20000 in
theorem ggX6_bringsTold_X6_go : GoodIn wsX6_bringsTold wsX6_go := goodIn_r _ [14, 15, 16, 10, 17, 18, 19, 8, 20, 21, 22, 23, 24, 25, 26, 27, 28, 29, 30, 31, 32, 33, 34, 35, 36, 37, 38, 39, 40, 41, 42, 43, 44, 45, 46, 47] (by decide +kernel) (by decide +kernel)
set_option maxRecDepth 20000 in
theorem gX6_bringsTold_X6_go : GoodIn wsX6_bringsTold (wsV RX6 122 RX6 yX6_go wsX6_go) := goodIn_app (goodIn_of _ (by decide +kernel)) ggX6_bringsTold_X6_go
theorem dX6_bringsTold_0 : decode cX6_bringsTold 0 = .ok (.aload_n 0, 1) := by decide +kernel
theorem dX6_bringsTold_1 : decode cX6_bringsTold 1 = .ok (.invokevirtual 119, 3) := by decide +kernel
theorem dX6_bringsTold_4 : decode cX6_bringsTold 4 = .ok (.iconst 0, 1) := by decide +kernel
theorem dX6_bringsTold_5 : decode cX6_bringsTold 5 = .ok (.istore_n 3, 1) := by decide +kernel
theorem dX6_bringsTold_6 : decode cX6_bringsTold 6 = .ok (.iload_n 2, 1) := by decide +kernel
theorem dX6_bringsTold_7 : decode cX6_bringsTold 7 = .ok (.iconst 1, 1) := by decide +kernel
theorem dX6_bringsTold_8 : decode cX6_bringsTold 8 = .ok (.isub, 1) := by decide +kernel
theorem dX6_bringsTold_9 : decode cX6_bringsTold 9 = .ok (.istore 4, 2) := by decide +kernel
theorem dX6_bringsTold_11 : decode cX6_bringsTold 11 = .ok (.iload 4, 2) := by decide +kernel
theorem dX6_bringsTold_13 : decode cX6_bringsTold 13 = .ok (.ifCond .lt 52, 3) := by decide +kernel
theorem dX6_bringsTold_16 : decode cX6_bringsTold 16 = .ok (.aload_n 0, 1) := by decide +kernel
theorem dX6_bringsTold_17 : decode cX6_bringsTold 17 = .ok (.iload_n 1, 1) := by decide +kernel
theorem dX6_bringsTold_18 : decode cX6_bringsTold 18 = .ok (.iload 4, 2) := by decide +kernel
theorem dX6_bringsTold_20 : decode cX6_bringsTold 20 = .ok (.ishr, 1) := by decide +kernel
theorem dX6_bringsTold_21 : decode cX6_bringsTold 21 = .ok (.iconst 1, 1) := by decide +kernel
theorem dX6_bringsTold_22 : decode cX6_bringsTold 22 = .ok (.iand, 1) := by decide +kernel
theorem dX6_bringsTold_23 : decode cX6_bringsTold 23 = .ok (.invokevirtual 122, 3) := by decide +kernel
theorem dX6_bringsTold_26 : decode cX6_bringsTold 26 = .ok (.istore 5, 2) := by decide +kernel
theorem dX6_bringsTold_28 : decode cX6_bringsTold 28 = .ok (.iload 5, 2) := by decide +kernel
theorem dX6_bringsTold_30 : decode cX6_bringsTold 30 = .ok (.bipush (-9), 2) := by decide +kernel
theorem dX6_bringsTold_32 : decode cX6_bringsTold 32 = .ok (.if_icmp .eq 27, 3) := by decide +kernel
theorem dX6_bringsTold_35 : decode cX6_bringsTold 35 = .ok (.iload_n 3, 1) := by decide +kernel
theorem dX6_bringsTold_36 : decode cX6_bringsTold 36 = .ok (.aload_n 0, 1) := by decide +kernel
theorem dX6_bringsTold_37 : decode cX6_bringsTold 37 = .ok (.getfield 135, 3) := by decide +kernel
theorem dX6_bringsTold_40 : decode cX6_bringsTold 40 = .ok (.if_icmp .eq 14, 3) := by decide +kernel
theorem dX6_bringsTold_43 : decode cX6_bringsTold 43 = .ok (.aload_n 0, 1) := by decide +kernel
theorem dX6_bringsTold_44 : decode cX6_bringsTold 44 = .ok (.getfield 45, 3) := by decide +kernel
theorem dX6_bringsTold_47 : decode cX6_bringsTold 47 = .ok (.iload_n 3, 1) := by decide +kernel
theorem dX6_bringsTold_48 : decode cX6_bringsTold 48 = .ok (.iaload, 1) := by decide +kernel
theorem dX6_bringsTold_49 : decode cX6_bringsTold 49 = .ok (.iload 5, 2) := by decide +kernel
theorem dX6_bringsTold_51 : decode cX6_bringsTold 51 = .ok (.if_icmp .eq 5, 3) := by decide +kernel
theorem dX6_bringsTold_54 : decode cX6_bringsTold 54 = .ok (.iconst 0, 1) := by decide +kernel
theorem dX6_bringsTold_55 : decode cX6_bringsTold 55 = .ok (.ireturn, 1) := by decide +kernel
theorem dX6_bringsTold_56 : decode cX6_bringsTold 56 = .ok (.iinc 3 1, 3) := by decide +kernel
theorem dX6_bringsTold_59 : decode cX6_bringsTold 59 = .ok (.iinc 4 (-1), 3) := by decide +kernel
theorem dX6_bringsTold_62 : decode cX6_bringsTold 62 = .ok (.goto (-51), 3) := by decide +kernel
theorem dX6_bringsTold_65 : decode cX6_bringsTold 65 = .ok (.iload_n 3, 1) := by decide +kernel
theorem dX6_bringsTold_66 : decode cX6_bringsTold 66 = .ok (.aload_n 0, 1) := by decide +kernel
theorem dX6_bringsTold_67 : decode cX6_bringsTold 67 = .ok (.getfield 135, 3) := by decide +kernel
theorem dX6_bringsTold_70 : decode cX6_bringsTold 70 = .ok (.if_icmp .ne 7, 3) := by decide +kernel
theorem dX6_bringsTold_73 : decode cX6_bringsTold 73 = .ok (.iconst 1, 1) := by decide +kernel
theorem dX6_bringsTold_74 : decode cX6_bringsTold 74 = .ok (.goto 4, 3) := by decide +kernel
theorem dX6_bringsTold_77 : decode cX6_bringsTold 77 = .ok (.iconst 0, 1) := by decide +kernel
theorem dX6_bringsTold_78 : decode cX6_bringsTold 78 = .ok (.ireturn, 1) := by decide +kernel
set_option maxRecDepth 20000 in
theorem ggX6_shortest_X6_areLandings : GoodIn wsX6_shortest wsX6_areLandings := goodIn_r _ [6, 7, 8, 9, 10, 11, 12, 5, 13, 1, 14, 15, 16, 35, 36, 37, 38, 39, 40, 41, 42, 43, 44, 45, 46, 47, 48, 49, 50, 51, 52, 53, 54, 55, 56, 57, 58, 59, 60, 61, 62] (by decide +kernel) (by decide +kernel)
set_option maxRecDepth 20000 in
theorem gX6_shortest_X6_areLandings : GoodIn wsX6_shortest (wsV RX6 138 RX6 yX6_areLandings wsX6_areLandings) := goodIn_app (goodIn_of _ (by decide +kernel)) ggX6_shortest_X6_areLandings
set_option maxRecDepth 20000 in
theorem ggX6_shortest_X6_bringsTold : GoodIn wsX6_shortest wsX6_bringsTold := goodIn_r _ [20, 7, 9, 21, 22, 23, 5, 24, 25, 26, 27, 28, 29, 30, 31, 1, 8, 32, 33, 34, 35, 36, 37, 38, 39, 40, 41, 42, 43, 44, 45, 46, 47, 48, 49, 50, 51, 52, 53, 54, 55, 56, 57, 58, 59, 60, 61, 62] (by decide +kernel) (by decide +kernel)
set_option maxRecDepth 20000 in
theorem gX6_shortest_X6_bringsTold : GoodIn wsX6_shortest (wsV RX6 141 RX6 yX6_bringsTold wsX6_bringsTold) := goodIn_app (goodIn_of _ (by decide +kernel)) ggX6_shortest_X6_bringsTold
theorem dX6_shortest_0 : decode cX6_shortest 0 = .ok (.aload_n 0, 1) := by decide +kernel
theorem dX6_shortest_1 : decode cX6_shortest 1 = .ok (.iload_n 1, 1) := by decide +kernel
theorem dX6_shortest_2 : decode cX6_shortest 2 = .ok (.invokevirtual 138, 3) := by decide +kernel
theorem dX6_shortest_5 : decode cX6_shortest 5 = .ok (.ifCond .ne 5, 3) := by decide +kernel
theorem dX6_shortest_8 : decode cX6_shortest 8 = .ok (.iconst (-1), 1) := by decide +kernel
theorem dX6_shortest_9 : decode cX6_shortest 9 = .ok (.ireturn, 1) := by decide +kernel
theorem dX6_shortest_10 : decode cX6_shortest 10 = .ok (.aload_n 0, 1) := by decide +kernel
theorem dX6_shortest_11 : decode cX6_shortest 11 = .ok (.getfield 13, 3) := by decide +kernel
theorem dX6_shortest_14 : decode cX6_shortest 14 = .ok (.iconst 0, 1) := by decide +kernel
theorem dX6_shortest_15 : decode cX6_shortest 15 = .ok (.iaload, 1) := by decide +kernel
theorem dX6_shortest_16 : decode cX6_shortest 16 = .ok (.ifCond .ne 6, 3) := by decide +kernel
theorem dX6_shortest_19 : decode cX6_shortest 19 = .ok (.bipush (-2), 2) := by decide +kernel
theorem dX6_shortest_21 : decode cX6_shortest 21 = .ok (.ireturn, 1) := by decide +kernel
theorem dX6_shortest_22 : decode cX6_shortest 22 = .ok (.iconst 0, 1) := by decide +kernel
theorem dX6_shortest_23 : decode cX6_shortest 23 = .ok (.istore_n 2, 1) := by decide +kernel
theorem dX6_shortest_24 : decode cX6_shortest 24 = .ok (.iload_n 2, 1) := by decide +kernel
theorem dX6_shortest_25 : decode cX6_shortest 25 = .ok (.bipush 9, 2) := by decide +kernel
theorem dX6_shortest_27 : decode cX6_shortest 27 = .ok (.if_icmp .gt 71, 3) := by decide +kernel
theorem dX6_shortest_30 : decode cX6_shortest 30 = .ok (.iconst 0, 1) := by decide +kernel
theorem dX6_shortest_31 : decode cX6_shortest 31 = .ok (.istore_n 3, 1) := by decide +kernel
theorem dX6_shortest_32 : decode cX6_shortest 32 = .ok (.iload_n 3, 1) := by decide +kernel
theorem dX6_shortest_33 : decode cX6_shortest 33 = .ok (.iconst 1, 1) := by decide +kernel
theorem dX6_shortest_34 : decode cX6_shortest 34 = .ok (.iload_n 2, 1) := by decide +kernel
theorem dX6_shortest_35 : decode cX6_shortest 35 = .ok (.ishl, 1) := by decide +kernel
theorem dX6_shortest_36 : decode cX6_shortest 36 = .ok (.if_icmp .ge 56, 3) := by decide +kernel
theorem dX6_shortest_39 : decode cX6_shortest 39 = .ok (.aload_n 0, 1) := by decide +kernel
theorem dX6_shortest_40 : decode cX6_shortest 40 = .ok (.iload_n 3, 1) := by decide +kernel
theorem dX6_shortest_41 : decode cX6_shortest 41 = .ok (.iload_n 2, 1) := by decide +kernel
theorem dX6_shortest_42 : decode cX6_shortest 42 = .ok (.invokevirtual 141, 3) := by decide +kernel
theorem dX6_shortest_45 : decode cX6_shortest 45 = .ok (.ifCond .eq 41, 3) := by decide +kernel
theorem dX6_shortest_48 : decode cX6_shortest 48 = .ok (.iconst 0, 1) := by decide +kernel
theorem dX6_shortest_49 : decode cX6_shortest 49 = .ok (.istore 4, 2) := by decide +kernel
theorem dX6_shortest_51 : decode cX6_shortest 51 = .ok (.iload_n 2, 1) := by decide +kernel
theorem dX6_shortest_52 : decode cX6_shortest 52 = .ok (.iconst 1, 1) := by decide +kernel
theorem dX6_shortest_53 : decode cX6_shortest 53 = .ok (.isub, 1) := by decide +kernel
theorem dX6_shortest_54 : decode cX6_shortest 54 = .ok (.istore 5, 2) := by decide +kernel
theorem dX6_shortest_56 : decode cX6_shortest 56 = .ok (.iload 5, 2) := by decide +kernel
theorem dX6_shortest_58 : decode cX6_shortest 58 = .ok (.ifCond .lt 25, 3) := by decide +kernel
theorem dX6_shortest_61 : decode cX6_shortest 61 = .ok (.bipush 10, 2) := by decide +kernel
theorem dX6_shortest_63 : decode cX6_shortest 63 = .ok (.iload 4, 2) := by decide +kernel
theorem dX6_shortest_65 : decode cX6_shortest 65 = .ok (.imul, 1) := by decide +kernel
theorem dX6_shortest_66 : decode cX6_shortest 66 = .ok (.iconst 1, 1) := by decide +kernel
theorem dX6_shortest_67 : decode cX6_shortest 67 = .ok (.iadd, 1) := by decide +kernel
theorem dX6_shortest_68 : decode cX6_shortest 68 = .ok (.iload_n 3, 1) := by decide +kernel
theorem dX6_shortest_69 : decode cX6_shortest 69 = .ok (.iload 5, 2) := by decide +kernel
theorem dX6_shortest_71 : decode cX6_shortest 71 = .ok (.ishr, 1) := by decide +kernel
theorem dX6_shortest_72 : decode cX6_shortest 72 = .ok (.iconst 1, 1) := by decide +kernel
theorem dX6_shortest_73 : decode cX6_shortest 73 = .ok (.iand, 1) := by decide +kernel
theorem dX6_shortest_74 : decode cX6_shortest 74 = .ok (.iadd, 1) := by decide +kernel
theorem dX6_shortest_75 : decode cX6_shortest 75 = .ok (.istore 4, 2) := by decide +kernel
theorem dX6_shortest_77 : decode cX6_shortest 77 = .ok (.iinc 5 (-1), 3) := by decide +kernel
theorem dX6_shortest_80 : decode cX6_shortest 80 = .ok (.goto (-24), 3) := by decide +kernel
theorem dX6_shortest_83 : decode cX6_shortest 83 = .ok (.iload 4, 2) := by decide +kernel
theorem dX6_shortest_85 : decode cX6_shortest 85 = .ok (.ireturn, 1) := by decide +kernel
theorem dX6_shortest_86 : decode cX6_shortest 86 = .ok (.iinc 3 1, 3) := by decide +kernel
theorem dX6_shortest_89 : decode cX6_shortest 89 = .ok (.goto (-57), 3) := by decide +kernel
theorem dX6_shortest_92 : decode cX6_shortest 92 = .ok (.iinc 2 1, 3) := by decide +kernel
theorem dX6_shortest_95 : decode cX6_shortest 95 = .ok (.goto (-71), 3) := by decide +kernel
theorem dX6_shortest_98 : decode cX6_shortest 98 = .ok (.bipush (-9), 2) := by decide +kernel
theorem dX6_shortest_100 : decode cX6_shortest 100 = .ok (.ireturn, 1) := by decide +kernel
set_option maxRecDepth 20000 in
theorem ggX6_round_X6_in : GoodIn wsX6_round wsX6_in := goodIn_r _ [5] (by decide +kernel) (by decide +kernel)
set_option maxRecDepth 20000 in
theorem gX6_round_X6_in : GoodIn wsX6_round (va_wsS RX6 63 yX6_in wsX6_in) := goodIn_app (goodIn_of _ (by decide +kernel)) ggX6_round_X6_in
set_option maxRecDepth 20000 in
theorem ggX6_round_X6_fromNow : GoodIn wsX6_round wsX6_fromNow := goodIn_r _ [9, 10, 11, 12, 25, 26, 27, 28, 29, 30, 31, 32, 33, 34, 35, 36, 37, 38, 39, 40, 41, 42, 43, 44, 45, 46, 47, 48, 49, 50, 51, 52] (by decide +kernel) (by decide +kernel)
set_option maxRecDepth 20000 in
theorem gX6_round_X6_fromNow : GoodIn wsX6_round (wsV RX6 119 RX6 yX6_fromNow wsX6_fromNow) := goodIn_app (goodIn_of _ (by decide +kernel)) ggX6_round_X6_fromNow
set_option maxRecDepth 20000 in
theorem ggX6_round_X6_go : GoodIn wsX6_round wsX6_go := goodIn_r _ [16, 1, 17, 12, 18, 19, 20, 10, 25, 26, 27, 28, 29, 30, 31, 32, 33, 34, 35, 36, 37, 38, 39, 40, 41, 42, 43, 44, 45, 46, 47, 48, 49, 50, 51, 52] (by decide +kernel) (by decide +kernel)
set_option maxRecDepth 20000 in
theorem gX6_round_X6_go : GoodIn wsX6_round (wsV RX6 122 RX6 yX6_go wsX6_go) := goodIn_app (goodIn_of _ (by decide +kernel)) ggX6_round_X6_go
set_option maxRecDepth 20000 in
theorem ggX6_round_X6_isAsNow : GoodIn wsX6_round wsX6_isAsNow := goodIn_r _ [24, 1, 10, 11, 25, 26, 27, 28, 29, 30, 31, 32, 33, 34, 35, 36, 37, 38, 39, 40, 41, 42, 43, 44, 45, 46, 47, 48, 49, 50, 51, 52] (by decide +kernel) (by decide +kernel)
set_option maxRecDepth 20000 in
theorem gX6_round_X6_isAsNow : GoodIn wsX6_round (wsV RX6 145 RX6 yX6_isAsNow wsX6_isAsNow) := goodIn_app (goodIn_of _ (by decide +kernel)) ggX6_round_X6_isAsNow
theorem dX6_round_0 : decode cX6_round 0 = .ok (.iload_n 1, 1) := by decide +kernel
theorem dX6_round_1 : decode cX6_round 1 = .ok (.iconst 0, 1) := by decide +kernel
theorem dX6_round_2 : decode cX6_round 2 = .ok (.iconst 1, 1) := by decide +kernel
theorem dX6_round_3 : decode cX6_round 3 = .ok (.invokestatic 63, 3) := by decide +kernel
theorem dX6_round_6 : decode cX6_round 6 = .ok (.ifCond .ne 5, 3) := by decide +kernel
theorem dX6_round_9 : decode cX6_round 9 = .ok (.iconst (-1), 1) := by decide +kernel
theorem dX6_round_10 : decode cX6_round 10 = .ok (.ireturn, 1) := by decide +kernel
theorem dX6_round_11 : decode cX6_round 11 = .ok (.aload_n 0, 1) := by decide +kernel
theorem dX6_round_12 : decode cX6_round 12 = .ok (.getfield 13, 3) := by decide +kernel
theorem dX6_round_15 : decode cX6_round 15 = .ok (.iconst 0, 1) := by decide +kernel
theorem dX6_round_16 : decode cX6_round 16 = .ok (.iaload, 1) := by decide +kernel
theorem dX6_round_17 : decode cX6_round 17 = .ok (.ifCond .ne 6, 3) := by decide +kernel
theorem dX6_round_20 : decode cX6_round 20 = .ok (.bipush (-2), 2) := by decide +kernel
theorem dX6_round_22 : decode cX6_round 22 = .ok (.ireturn, 1) := by decide +kernel
theorem dX6_round_23 : decode cX6_round 23 = .ok (.aload_n 0, 1) := by decide +kernel
theorem dX6_round_24 : decode cX6_round 24 = .ok (.invokevirtual 119, 3) := by decide +kernel
theorem dX6_round_27 : decode cX6_round 27 = .ok (.iconst 1, 1) := by decide +kernel
theorem dX6_round_28 : decode cX6_round 28 = .ok (.istore_n 2, 1) := by decide +kernel
theorem dX6_round_29 : decode cX6_round 29 = .ok (.iload_n 2, 1) := by decide +kernel
theorem dX6_round_30 : decode cX6_round 30 = .ok (.sipush 500, 3) := by decide +kernel
theorem dX6_round_33 : decode cX6_round 33 = .ok (.if_icmp .gt 24, 3) := by decide +kernel
theorem dX6_round_36 : decode cX6_round 36 = .ok (.aload_n 0, 1) := by decide +kernel
theorem dX6_round_37 : decode cX6_round 37 = .ok (.iload_n 1, 1) := by decide +kernel
theorem dX6_round_38 : decode cX6_round 38 = .ok (.invokevirtual 122, 3) := by decide +kernel
theorem dX6_round_41 : decode cX6_round 41 = .ok (.pop, 1) := by decide +kernel
theorem dX6_round_42 : decode cX6_round 42 = .ok (.aload_n 0, 1) := by decide +kernel
theorem dX6_round_43 : decode cX6_round 43 = .ok (.invokevirtual 145, 3) := by decide +kernel
theorem dX6_round_46 : decode cX6_round 46 = .ok (.ifCond .eq 5, 3) := by decide +kernel
theorem dX6_round_49 : decode cX6_round 49 = .ok (.iload_n 2, 1) := by decide +kernel
theorem dX6_round_50 : decode cX6_round 50 = .ok (.ireturn, 1) := by decide +kernel
theorem dX6_round_51 : decode cX6_round 51 = .ok (.iinc 2 1, 3) := by decide +kernel
theorem dX6_round_54 : decode cX6_round 54 = .ok (.goto (-25), 3) := by decide +kernel
theorem dX6_round_57 : decode cX6_round 57 = .ok (.bipush (-9), 2) := by decide +kernel
theorem dX6_round_59 : decode cX6_round 59 = .ok (.ireturn, 1) := by decide +kernel
theorem dX6_code_0 : decode cX6_code 0 = .ok (.iconst 0, 1) := by decide +kernel
theorem dX6_code_1 : decode cX6_code 1 = .ok (.istore_n 1, 1) := by decide +kernel
theorem dX6_code_2 : decode cX6_code 2 = .ok (.bipush 8, 2) := by decide +kernel
theorem dX6_code_4 : decode cX6_code 4 = .ok (.istore_n 2, 1) := by decide +kernel
theorem dX6_code_5 : decode cX6_code 5 = .ok (.iload_n 2, 1) := by decide +kernel
theorem dX6_code_6 : decode cX6_code 6 = .ok (.ifCond .lt 21, 3) := by decide +kernel
theorem dX6_code_9 : decode cX6_code 9 = .ok (.bipush 6, 2) := by decide +kernel
