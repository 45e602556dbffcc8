theorem dX5_part_79 : decode cX5_part 79 = .ok (.invokevirtual 92, 3) := by decide +kernel
theorem dX5_part_82 : decode cX5_part 82 = .ok (.ireturn, 1) := by decide +kernel
theorem dX5_part_83 : decode cX5_part 83 = .ok (.aload_n 0, 1) := by decide +kernel
theorem dX5_part_84 : decode cX5_part 84 = .ok (.getfield 19, 3) := by decide +kernel
theorem dX5_part_87 : decode cX5_part 87 = .ok (.iload_n 1, 1) := by decide +kernel
theorem dX5_part_88 : decode cX5_part 88 = .ok (.invokevirtual 95, 3) := by decide +kernel
theorem dX5_part_91 : decode cX5_part 91 = .ok (.ireturn, 1) := by decide +kernel
theorem dX5_part_92 : decode cX5_part 92 = .ok (.aload_n 0, 1) := by decide +kernel
theorem dX5_part_93 : decode cX5_part 93 = .ok (.getfield 29, 3) := by decide +kernel
theorem dX5_part_96 : decode cX5_part 96 = .ok (.getfield 98, 3) := by decide +kernel
theorem dX5_part_99 : decode cX5_part 99 = .ok (.iload_n 1, 1) := by decide +kernel
theorem dX5_part_100 : decode cX5_part 100 = .ok (.invokestatic 101, 3) := by decide +kernel
theorem dX5_part_103 : decode cX5_part 103 = .ok (.ireturn, 1) := by decide +kernel
theorem dX5_part_104 : decode cX5_part 104 = .ok (.aload_n 0, 1) := by decide +kernel
theorem dX5_part_105 : decode cX5_part 105 = .ok (.getfield 29, 3) := by decide +kernel
theorem dX5_part_108 : decode cX5_part 108 = .ok (.iload_n 1, 1) := by decide +kernel
theorem dX5_part_109 : decode cX5_part 109 = .ok (.invokevirtual 107, 3) := by decide +kernel
theorem dX5_part_112 : decode cX5_part 112 = .ok (.ireturn, 1) := by decide +kernel
set_option maxRecDepth 20000 in
theorem ggX5_let_X5_isSize : GoodIn wsX5_let wsX5_isSize := goodIn_r _ [6] (by decide +kernel) (by decide +kernel)
set_option maxRecDepth 20000 in
theorem gX5_let_X5_isSize : GoodIn wsX5_let (va_wsS RX5 110 yX5_isSize wsX5_isSize) := goodIn_app (goodIn_of _ (by decide +kernel)) ggX5_let_X5_isSize
set_option maxRecDepth 20000 in
theorem ggX5_let_X0_fall : GoodIn wsX5_let wsX0_fall := goodIn_r _ [11, 12, 13, 14, 15, 16, 17, 18, 19, 10, 20, 21, 22, 23, 24, 25, 26, 27, 28, 29, 30, 70, 71, 72, 73, 74] (by decide +kernel) (by decide +kernel)
set_option maxRecDepth 20000 in
theorem gX5_let_X0_fall : GoodIn wsX5_let (wsV RX5 119 RX0 yX0_fall wsX0_fall) := goodIn_app (goodIn_of _ (by decide +kernel)) ggX5_let_X0_fall
set_option maxRecDepth 20000 in
theorem ggX5_let_X1_take : GoodIn wsX5_let wsX1_take := goodIn_r _ [35, 36, 37, 38, 39, 40, 41, 42, 43, 44, 45, 23, 46, 47, 29, 30, 48, 49, 50, 34, 51, 52, 53, 54, 55, 56, 75, 76, 77, 78, 79, 80] (by decide +kernel) (by decide +kernel)
set_option maxRecDepth 20000 in
theorem gX5_let_X1_take : GoodIn wsX5_let (wsV RX5 123 RX1 yX1_take wsX1_take) := goodIn_app (goodIn_of _ (by decide +kernel)) ggX5_let_X1_take
set_option maxRecDepth 20000 in
theorem ggX5_let_X2_comesOf : GoodIn wsX5_let wsX2_comesOf := goodIn_r _ [46] (by decide +kernel) (by decide +kernel)
set_option maxRecDepth 20000 in
theorem gX5_let_X2_comesOf : GoodIn wsX5_let (va_wsS RX5 126 yX2_comesOf wsX2_comesOf) := goodIn_app (goodIn_of _ (by decide +kernel)) ggX5_let_X2_comesOf
theorem dX5_let_0 : decode cX5_let 0 = .ok (.iload_n 1, 1) := by decide +kernel
theorem dX5_let_1 : decode cX5_let 1 = .ok (.invokestatic 110, 3) := by decide +kernel
theorem dX5_let_4 : decode cX5_let 4 = .ok (.ifCond .ne 5, 3) := by decide +kernel
theorem dX5_let_7 : decode cX5_let 7 = .ok (.iconst (-1), 1) := by decide +kernel
theorem dX5_let_8 : decode cX5_let 8 = .ok (.ireturn, 1) := by decide +kernel
theorem dX5_let_9 : decode cX5_let 9 = .ok (.aload_n 0, 1) := by decide +kernel
theorem dX5_let_10 : decode cX5_let 10 = .ok (.getfield 19, 3) := by decide +kernel
theorem dX5_let_13 : decode cX5_let 13 = .ok (.getfield 78, 3) := by decide +kernel
theorem dX5_let_16 : decode cX5_let 16 = .ok (.ifCond .ne 6, 3) := by decide +kernel
theorem dX5_let_19 : decode cX5_let 19 = .ok (.bipush (-2), 2) := by decide +kernel
theorem dX5_let_21 : decode cX5_let 21 = .ok (.ireturn, 1) := by decide +kernel
theorem dX5_let_22 : decode cX5_let 22 = .ok (.aload_n 0, 1) := by decide +kernel
theorem dX5_let_23 : decode cX5_let 23 = .ok (.getfield 29, 3) := by decide +kernel
theorem dX5_let_26 : decode cX5_let 26 = .ok (.getfield 113, 3) := by decide +kernel
theorem dX5_let_29 : decode cX5_let 29 = .ok (.bipush 100, 2) := by decide +kernel
theorem dX5_let_31 : decode cX5_let 31 = .ok (.if_icmp .lt 6, 3) := by decide +kernel
theorem dX5_let_34 : decode cX5_let 34 = .ok (.bipush (-3), 2) := by decide +kernel
theorem dX5_let_36 : decode cX5_let 36 = .ok (.ireturn, 1) := by decide +kernel
theorem dX5_let_37 : decode cX5_let 37 = .ok (.aload_n 0, 1) := by decide +kernel
theorem dX5_let_38 : decode cX5_let 38 = .ok (.getfield 19, 3) := by decide +kernel
theorem dX5_let_41 : decode cX5_let 41 = .ok (.aload_n 0, 1) := by decide +kernel
theorem dX5_let_42 : decode cX5_let 42 = .ok (.getfield 29, 3) := by decide +kernel
theorem dX5_let_45 : decode cX5_let 45 = .ok (.getfield 98, 3) := by decide +kernel
theorem dX5_let_48 : decode cX5_let 48 = .ok (.iload_n 1, 1) := by decide +kernel
theorem dX5_let_49 : decode cX5_let 49 = .ok (.aload_n 0, 1) := by decide +kernel
theorem dX5_let_50 : decode cX5_let 50 = .ok (.getfield 29, 3) := by decide +kernel
theorem dX5_let_53 : decode cX5_let 53 = .ok (.getfield 116, 3) := by decide +kernel
theorem dX5_let_56 : decode cX5_let 56 = .ok (.invokevirtual 119, 3) := by decide +kernel
theorem dX5_let_59 : decode cX5_let 59 = .ok (.istore_n 2, 1) := by decide +kernel
theorem dX5_let_60 : decode cX5_let 60 = .ok (.aload_n 0, 1) := by decide +kernel
theorem dX5_let_61 : decode cX5_let 61 = .ok (.getfield 29, 3) := by decide +kernel
theorem dX5_let_64 : decode cX5_let 64 = .ok (.iload_n 2, 1) := by decide +kernel
theorem dX5_let_65 : decode cX5_let 65 = .ok (.invokevirtual 123, 3) := by decide +kernel
theorem dX5_let_68 : decode cX5_let 68 = .ok (.iload_n 2, 1) := by decide +kernel
theorem dX5_let_69 : decode cX5_let 69 = .ok (.invokestatic 126, 3) := by decide +kernel
theorem dX5_let_72 : decode cX5_let 72 = .ok (.ireturn, 1) := by decide +kernel
set_option maxRecDepth 20000 in
theorem ggX5_undo_X1_takeBack : GoodIn wsX5_undo wsX1_takeBack := goodIn_r _ [6, 7, 8, 9, 10, 11, 12, 13, 14, 15, 16, 17, 5, 18, 19, 20, 21, 22, 23, 36, 37, 38, 39, 40, 41] (by decide +kernel) (by decide +kernel)
set_option maxRecDepth 20000 in
theorem gX5_undo_X1_takeBack : GoodIn wsX5_undo (wsV RX5 132 RX1 yX1_takeBack wsX1_takeBack) := goodIn_app (goodIn_of _ (by decide +kernel)) ggX5_undo_X1_takeBack
theorem dX5_undo_0 : decode cX5_undo 0 = .ok (.aload_n 0, 1) := by decide +kernel
theorem dX5_undo_1 : decode cX5_undo 1 = .ok (.getfield 29, 3) := by decide +kernel
theorem dX5_undo_4 : decode cX5_undo 4 = .ok (.getfield 129, 3) := by decide +kernel
theorem dX5_undo_7 : decode cX5_undo 7 = .ok (.iconst 1, 1) := by decide +kernel
theorem dX5_undo_8 : decode cX5_undo 8 = .ok (.if_icmp .ge 6, 3) := by decide +kernel
theorem dX5_undo_11 : decode cX5_undo 11 = .ok (.bipush (-2), 2) := by decide +kernel
theorem dX5_undo_13 : decode cX5_undo 13 = .ok (.ireturn, 1) := by decide +kernel
theorem dX5_undo_14 : decode cX5_undo 14 = .ok (.aload_n 0, 1) := by decide +kernel
theorem dX5_undo_15 : decode cX5_undo 15 = .ok (.getfield 29, 3) := by decide +kernel
theorem dX5_undo_18 : decode cX5_undo 18 = .ok (.invokevirtual 132, 3) := by decide +kernel
theorem dX5_undo_21 : decode cX5_undo 21 = .ok (.aload_n 0, 1) := by decide +kernel
theorem dX5_undo_22 : decode cX5_undo 22 = .ok (.getfield 29, 3) := by decide +kernel
theorem dX5_undo_25 : decode cX5_undo 25 = .ok (.getfield 113, 3) := by decide +kernel
theorem dX5_undo_28 : decode cX5_undo 28 = .ok (.ireturn, 1) := by decide +kernel
set_option maxRecDepth 20000 in
theorem ggX5_lodge_X0_has : GoodIn wsX5_lodge wsX0_has := goodIn_r _ [7, 8, 27, 28, 29, 30, 31] (by decide +kernel) (by decide +kernel)
set_option maxRecDepth 20000 in
theorem gX5_lodge_X0_has : GoodIn wsX5_lodge (wsV RX5 81 RX0 yX0_has wsX0_has) := goodIn_app (goodIn_of _ (by decide +kernel)) ggX5_lodge_X0_has
theorem dX5_lodge_0 : decode cX5_lodge 0 = .ok (.iload_n 1, 1) := by decide +kernel
theorem dX5_lodge_1 : decode cX5_lodge 1 = .ok (.iconst (-1), 1) := by decide +kernel
theorem dX5_lodge_2 : decode cX5_lodge 2 = .ok (.if_icmp .eq 16, 3) := by decide +kernel
theorem dX5_lodge_5 : decode cX5_lodge 5 = .ok (.aload_n 0, 1) := by decide +kernel
theorem dX5_lodge_6 : decode cX5_lodge 6 = .ok (.getfield 19, 3) := by decide +kernel
theorem dX5_lodge_9 : decode cX5_lodge 9 = .ok (.iload_n 1, 1) := by decide +kernel
theorem dX5_lodge_10 : decode cX5_lodge 10 = .ok (.invokevirtual 81, 3) := by decide +kernel
theorem dX5_lodge_13 : decode cX5_lodge 13 = .ok (.ifCond .ne 5, 3) := by decide +kernel
theorem dX5_lodge_16 : decode cX5_lodge 16 = .ok (.iconst (-1), 1) := by decide +kernel
theorem dX5_lodge_17 : decode cX5_lodge 17 = .ok (.ireturn, 1) := by decide +kernel
theorem dX5_lodge_18 : decode cX5_lodge 18 = .ok (.aload_n 0, 1) := by decide +kernel
theorem dX5_lodge_19 : decode cX5_lodge 19 = .ok (.getfield 29, 3) := by decide +kernel
theorem dX5_lodge_22 : decode cX5_lodge 22 = .ok (.getfield 116, 3) := by decide +kernel
theorem dX5_lodge_25 : decode cX5_lodge 25 = .ok (.istore_n 2, 1) := by decide +kernel
theorem dX5_lodge_26 : decode cX5_lodge 26 = .ok (.aload_n 0, 1) := by decide +kernel
theorem dX5_lodge_27 : decode cX5_lodge 27 = .ok (.getfield 29, 3) := by decide +kernel
theorem dX5_lodge_30 : decode cX5_lodge 30 = .ok (.iload_n 1, 1) := by decide +kernel
theorem dX5_lodge_31 : decode cX5_lodge 31 = .ok (.iconst (-1), 1) := by decide +kernel
theorem dX5_lodge_32 : decode cX5_lodge 32 = .ok (.if_icmp .ne 8, 3) := by decide +kernel
theorem dX5_lodge_35 : decode cX5_lodge 35 = .ok (.bipush (-9), 2) := by decide +kernel
theorem dX5_lodge_37 : decode cX5_lodge 37 = .ok (.goto 4, 3) := by decide +kernel
theorem dX5_lodge_40 : decode cX5_lodge 40 = .ok (.iload_n 1, 1) := by decide +kernel
theorem dX5_lodge_41 : decode cX5_lodge 41 = .ok (.putfield 116, 3) := by decide +kernel
theorem dX5_lodge_44 : decode cX5_lodge 44 = .ok (.iload_n 2, 1) := by decide +kernel
theorem dX5_lodge_45 : decode cX5_lodge 45 = .ok (.ireturn, 1) := by decide +kernel
set_option maxRecDepth 20000 in
theorem ggX5_now_X1_atAll : GoodIn wsX5_now wsX1_atAll := goodIn_r _ [7, 8, 40, 41, 42, 43, 44, 45] (by decide +kernel) (by decide +kernel)
set_option maxRecDepth 20000 in
theorem gX5_now_X1_atAll : GoodIn wsX5_now (wsV RX5 135 RX1 yX1_atAll wsX1_atAll) := goodIn_app (goodIn_of _ (by decide +kernel)) ggX5_now_X1_atAll
set_option maxRecDepth 20000 in
theorem ggX5_now_X0_cupsHolding : GoodIn wsX5_now wsX0_cupsHolding := goodIn_r _ [13, 14, 15, 16, 17, 12, 18, 19, 20, 21, 22, 23, 24, 25, 26, 27, 46, 47, 48, 49, 50] (by decide +kernel) (by decide +kernel)
set_option maxRecDepth 20000 in
theorem gX5_now_X0_cupsHolding : GoodIn wsX5_now (wsV RX5 139 RX0 yX0_cupsHolding wsX0_cupsHolding) := goodIn_app (goodIn_of _ (by decide +kernel)) ggX5_now_X0_cupsHolding
theorem dX5_now_0 : decode cX5_now 0 = .ok (.iload_n 1, 1) := by decide +kernel
theorem dX5_now_1 : decode cX5_now 1 = .ok (.tableswitch 70 0 3 #[31, 39, 47, 55], 31) := by decide +kernel
theorem dX5_now_32 : decode cX5_now 32 = .ok (.aload_n 0, 1) := by decide +kernel
theorem dX5_now_33 : decode cX5_now 33 = .ok (.getfield 29, 3) := by decide +kernel
theorem dX5_now_36 : decode cX5_now 36 = .ok (.getfield 113, 3) := by decide +kernel
theorem dX5_now_39 : decode cX5_now 39 = .ok (.ireturn, 1) := by decide +kernel
theorem dX5_now_40 : decode cX5_now 40 = .ok (.aload_n 0, 1) := by decide +kernel
theorem dX5_now_41 : decode cX5_now 41 = .ok (.getfield 29, 3) := by decide +kernel
theorem dX5_now_44 : decode cX5_now 44 = .ok (.invokevirtual 135, 3) := by decide +kernel
theorem dX5_now_47 : decode cX5_now 47 = .ok (.ireturn, 1) := by decide +kernel
theorem dX5_now_48 : decode cX5_now 48 = .ok (.aload_n 0, 1) := by decide +kernel
theorem dX5_now_49 : decode cX5_now 49 = .ok (.getfield 29, 3) := by decide +kernel
theorem dX5_now_52 : decode cX5_now 52 = .ok (.getfield 116, 3) := by decide +kernel
theorem dX5_now_55 : decode cX5_now 55 = .ok (.ireturn, 1) := by decide +kernel
theorem dX5_now_56 : decode cX5_now 56 = .ok (.aload_n 0, 1) := by decide +kernel
theorem dX5_now_57 : decode cX5_now 57 = .ok (.getfield 19, 3) := by decide +kernel
theorem dX5_now_60 : decode cX5_now 60 = .ok (.aload_n 0, 1) := by decide +kernel
theorem dX5_now_61 : decode cX5_now 61 = .ok (.getfield 29, 3) := by decide +kernel
theorem dX5_now_64 : decode cX5_now 64 = .ok (.getfield 98, 3) := by decide +kernel
theorem dX5_now_67 : decode cX5_now 67 = .ok (.invokevirtual 139, 3) := by decide +kernel
theorem dX5_now_70 : decode cX5_now 70 = .ok (.ireturn, 1) := by decide +kernel
theorem dX5_now_71 : decode cX5_now 71 = .ok (.iconst (-1), 1) := by decide +kernel
theorem dX5_now_72 : decode cX5_now 72 = .ok (.ireturn, 1) := by decide +kernel
set_option maxRecDepth 20000 in
theorem ggX5_brings_X5_isRow : GoodIn wsX5_brings wsX5_isRow := goodIn_r _ [6, 7] (by decide +kernel) (by decide +kernel)
set_option maxRecDepth 20000 in
theorem gX5_brings_X5_isRow : GoodIn wsX5_brings (va_wsS RX5 142 yX5_isRow wsX5_isRow) := goodIn_app (goodIn_of _ (by decide +kernel)) ggX5_brings_X5_isRow
set_option maxRecDepth 20000 in
theorem ggX5_brings_X5_figures : GoodIn wsX5_brings wsX5_figures := goodIn_r _ [10] (by decide +kernel) (by decide +kernel)
set_option maxRecDepth 20000 in
theorem gX5_brings_X5_figures : GoodIn wsX5_brings (va_wsS RX5 145 yX5_figures wsX5_figures) := goodIn_app (goodIn_of _ (by decide +kernel)) ggX5_brings_X5_figures
set_option maxRecDepth 20000 in
theorem ggX5_brings_X5_turned : GoodIn wsX5_brings wsX5_turned := goodIn_r _ [13] (by decide +kernel) (by decide +kernel)
set_option maxRecDepth 20000 in
theorem gX5_brings_X5_turned : GoodIn wsX5_brings (va_wsS RX5 148 yX5_turned wsX5_turned) := goodIn_app (goodIn_of _ (by decide +kernel)) ggX5_brings_X5_turned
set_option maxRecDepth 20000 in
theorem ggX5_brings_X2_outcome : GoodIn wsX5_brings wsX2_outcome := goodIn_r _ [17] (by decide +kernel) (by decide +kernel)
set_option maxRecDepth 20000 in
theorem gX5_brings_X2_outcome : GoodIn wsX5_brings (va_wsS RX5 151 yX2_outcome wsX2_outcome) := goodIn_app (goodIn_of _ (by decide +kernel)) ggX5_brings_X2_outcome
set_option maxRecDepth 20000 in
theorem ggX5_brings_X2_standingOf : GoodIn wsX5_brings wsX2_standingOf := goodIn_r _ [20, 21] (by decide +kernel) (by decide +kernel)
set_option maxRecDepth 20000 in
theorem gX5_brings_X2_standingOf : GoodIn wsX5_brings (va_wsS RX5 154 yX2_standingOf wsX2_standingOf) := goodIn_app (goodIn_of _ (by decide +kernel)) ggX5_brings_X2_standingOf
set_option maxRecDepth 20000 in
theorem ggX5_brings_X0_fall : GoodIn wsX5_brings wsX0_fall := goodIn_r _ [26, 27, 28, 29, 30, 31, 32, 33, 34, 25, 35, 36, 37, 16, 38, 39, 40, 41, 42, 15, 17, 58, 59, 60, 61, 62] (by decide +kernel) (by decide +kernel)
set_option maxRecDepth 20000 in
theorem gX5_brings_X0_fall : GoodIn wsX5_brings (wsV RX5 119 RX0 yX0_fall wsX0_fall) := goodIn_app (goodIn_of _ (by decide +kernel)) ggX5_brings_X0_fall
set_option maxRecDepth 20000 in
theorem ggX5_brings_X2_comesOf : GoodIn wsX5_brings wsX2_comesOf := goodIn_r _ [45] (by decide +kernel) (by decide +kernel)
set_option maxRecDepth 20000 in
theorem gX5_brings_X2_comesOf : GoodIn wsX5_brings (va_wsS RX5 126 yX2_comesOf wsX2_comesOf) := goodIn_app (goodIn_of _ (by decide +kernel)) ggX5_brings_X2_comesOf
theorem dX5_brings_0 : decode cX5_brings 0 = .ok (.iload_n 1, 1) := by decide +kernel
theorem dX5_brings_1 : decode cX5_brings 1 = .ok (.invokestatic 142, 3) := by decide +kernel
theorem dX5_brings_4 : decode cX5_brings 4 = .ok (.ifCond .eq 7, 3) := by decide +kernel
theorem dX5_brings_7 : decode cX5_brings 7 = .ok (.iload_n 2, 1) := by decide +kernel
theorem dX5_brings_8 : decode cX5_brings 8 = .ok (.ifCond .ge 5, 3) := by decide +kernel
theorem dX5_brings_11 : decode cX5_brings 11 = .ok (.iconst (-1), 1) := by decide +kernel
theorem dX5_brings_12 : decode cX5_brings 12 = .ok (.ireturn, 1) := by decide +kernel
theorem dX5_brings_13 : decode cX5_brings 13 = .ok (.aload_n 0, 1) := by decide +kernel
theorem dX5_brings_14 : decode cX5_brings 14 = .ok (.getfield 19, 3) := by decide +kernel
theorem dX5_brings_17 : decode cX5_brings 17 = .ok (.getfield 78, 3) := by decide +kernel
theorem dX5_brings_20 : decode cX5_brings 20 = .ok (.ifCond .ne 6, 3) := by decide +kernel
theorem dX5_brings_23 : decode cX5_brings 23 = .ok (.bipush (-2), 2) := by decide +kernel
theorem dX5_brings_25 : decode cX5_brings 25 = .ok (.ireturn, 1) := by decide +kernel
theorem dX5_brings_26 : decode cX5_brings 26 = .ok (.iload_n 2, 1) := by decide +kernel
theorem dX5_brings_27 : decode cX5_brings 27 = .ok (.iload_n 1, 1) := by decide +kernel
theorem dX5_brings_28 : decode cX5_brings 28 = .ok (.invokestatic 145, 3) := by decide +kernel
theorem dX5_brings_31 : decode cX5_brings 31 = .ok (.if_icmp .lt 6, 3) := by decide +kernel
theorem dX5_brings_34 : decode cX5_brings 34 = .ok (.bipush (-5), 2) := by decide +kernel
theorem dX5_brings_36 : decode cX5_brings 36 = .ok (.ireturn, 1) := by decide +kernel
theorem dX5_brings_37 : decode cX5_brings 37 = .ok (.iload_n 1, 1) := by decide +kernel
theorem dX5_brings_38 : decode cX5_brings 38 = .ok (.invokestatic 148, 3) := by decide +kernel
theorem dX5_brings_41 : decode cX5_brings 41 = .ok (.istore_n 3, 1) := by decide +kernel
theorem dX5_brings_42 : decode cX5_brings 42 = .ok (.aload_n 0, 1) := by decide +kernel
theorem dX5_brings_43 : decode cX5_brings 43 = .ok (.getfield 29, 3) := by decide +kernel
theorem dX5_brings_46 : decode cX5_brings 46 = .ok (.getfield 98, 3) := by decide +kernel
theorem dX5_brings_49 : decode cX5_brings 49 = .ok (.bipush (-9), 2) := by decide +kernel
theorem dX5_brings_51 : decode cX5_brings 51 = .ok (.invokestatic 151, 3) := by decide +kernel
theorem dX5_brings_54 : decode cX5_brings 54 = .ok (.istore 4, 2) := by decide +kernel
theorem dX5_brings_56 : decode cX5_brings 56 = .ok (.iconst 0, 1) := by decide +kernel
theorem dX5_brings_57 : decode cX5_brings 57 = .ok (.istore 5, 2) := by decide +kernel
theorem dX5_brings_59 : decode cX5_brings 59 = .ok (.iload 5, 2) := by decide +kernel
theorem dX5_brings_61 : decode cX5_brings 61 = .ok (.iload_n 2, 1) := by decide +kernel
theorem dX5_brings_62 : decode cX5_brings 62 = .ok (.if_icmp .gt 48, 3) := by decide +kernel
theorem dX5_brings_65 : decode cX5_brings 65 = .ok (.iload 5, 2) := by decide +kernel
theorem dX5_brings_67 : decode cX5_brings 67 = .ok (.bipush 9, 2) := by decide +kernel
theorem dX5_brings_69 : decode cX5_brings 69 = .ok (.if_icmp .ge 41, 3) := by decide +kernel
theorem dX5_brings_72 : decode cX5_brings 72 = .ok (.aload_n 0, 1) := by decide +kernel
theorem dX5_brings_73 : decode cX5_brings 73 = .ok (.getfield 19, 3) := by decide +kernel
theorem dX5_brings_76 : decode cX5_brings 76 = .ok (.iload 4, 2) := by decide +kernel
theorem dX5_brings_78 : decode cX5_brings 78 = .ok (.invokestatic 154, 3) := by decide +kernel
theorem dX5_brings_81 : decode cX5_brings 81 = .ok (.iload_n 3, 1) := by decide +kernel
theorem dX5_brings_82 : decode cX5_brings 82 = .ok (.bipush 10, 2) := by decide +kernel
theorem dX5_brings_84 : decode cX5_brings 84 = .ok (.irem, 1) := by decide +kernel
theorem dX5_brings_85 : decode cX5_brings 85 = .ok (.iconst 1, 1) := by decide +kernel
theorem dX5_brings_86 : decode cX5_brings 86 = .ok (.isub, 1) := by decide +kernel
theorem dX5_brings_87 : decode cX5_brings 87 = .ok (.aload_n 0, 1) := by decide +kernel
theorem dX5_brings_88 : decode cX5_brings 88 = .ok (.getfield 29, 3) := by decide +kernel
theorem dX5_brings_91 : decode cX5_brings 91 = .ok (.getfield 116, 3) := by decide +kernel
theorem dX5_brings_94 : decode cX5_brings 94 = .ok (.invokevirtual 119, 3) := by decide +kernel
theorem dX5_brings_97 : decode cX5_brings 97 = .ok (.istore 4, 2) := by decide +kernel
theorem dX5_brings_99 : decode cX5_brings 99 = .ok (.iload_n 3, 1) := by decide +kernel
theorem dX5_brings_100 : decode cX5_brings 100 = .ok (.bipush 10, 2) := by decide +kernel
theorem dX5_brings_102 : decode cX5_brings 102 = .ok (.idiv, 1) := by decide +kernel
theorem dX5_brings_103 : decode cX5_brings 103 = .ok (.istore_n 3, 1) := by decide +kernel
theorem dX5_brings_104 : decode cX5_brings 104 = .ok (.iinc 5 1, 3) := by decide +kernel
theorem dX5_brings_107 : decode cX5_brings 107 = .ok (.goto (-48), 3) := by decide +kernel
theorem dX5_brings_110 : decode cX5_brings 110 = .ok (.iload 4, 2) := by decide +kernel
theorem dX5_brings_112 : decode cX5_brings 112 = .ok (.invokestatic 126, 3) := by decide +kernel
theorem dX5_brings_115 : decode cX5_brings 115 = .ok (.ireturn, 1) := by decide +kernel
set_option maxRecDepth 20000 in
theorem ggX5_shortest_X5_areLandings : GoodIn wsX5_shortest wsX5_areLandings := goodIn_r _ [7, 1, 8, 9, 10, 11, 12, 13, 14, 15, 16, 17, 18, 53, 54, 55, 56, 57, 58, 59, 60, 61, 62, 63, 64, 65, 66, 67, 68, 69] (by decide +kernel) (by decide +kernel)
set_option maxRecDepth 20000 in
theorem gX5_shortest_X5_areLandings : GoodIn wsX5_shortest (wsV RX5 157 RX5 yX5_areLandings wsX5_areLandings) := goodIn_app (goodIn_of _ (by decide +kernel)) ggX5_shortest_X5_areLandings
set_option maxRecDepth 20000 in
theorem ggX5_shortest_X5_turned : GoodIn wsX5_shortest wsX5_turned := goodIn_r _ [21] (by decide +kernel) (by decide +kernel)
set_option maxRecDepth 20000 in
theorem gX5_shortest_X5_turned : GoodIn wsX5_shortest (va_wsS RX5 148 yX5_turned wsX5_turned) := goodIn_app (goodIn_of _ (by decide +kernel)) ggX5_shortest_X5_turned
set_option maxRecDepth 20000 in
theorem ggX5_shortest_X5_rowOf : GoodIn wsX5_shortest wsX5_rowOf := goodIn_r _ [25, 1, 2, 26, 27, 6, 28, 29, 30, 31, 11, 32, 18, 33, 13, 34, 35, 14, 15, 16, 17, 36, 37, 38, 39, 40, 41, 42, 43, 44, 45, 46, 47, 48, 49, 50, 51, 52, 22, 23, 24, 53, 54, 55, 56, 57, 58, 59, 60, 61, 62, 63, 64, 70, 71, 72, 73, 74, 75, 65, 66, 67, 68, 69] (by decide +kernel) (by decide +kernel)
set_option maxRecDepth 20000 in
theorem gX5_shortest_X5_rowOf : GoodIn wsX5_shortest (wsV RX5 160 RX5 yX5_rowOf wsX5_rowOf) := goodIn_app (goodIn_of _ (by decide +kernel)) ggX5_shortest_X5_rowOf
theorem dX5_shortest_0 : decode cX5_shortest 0 = .ok (.aload_n 0, 1) := by decide +kernel
theorem dX5_shortest_1 : decode cX5_shortest 1 = .ok (.iload_n 1, 1) := by decide +kernel
theorem dX5_shortest_2 : decode cX5_shortest 2 = .ok (.invokevirtual 157, 3) := by decide +kernel
theorem dX5_shortest_5 : decode cX5_shortest 5 = .ok (.ifCond .ne 5, 3) := by decide +kernel
theorem dX5_shortest_8 : decode cX5_shortest 8 = .ok (.iconst (-1), 1) := by decide +kernel
theorem dX5_shortest_9 : decode cX5_shortest 9 = .ok (.ireturn, 1) := by decide +kernel
theorem dX5_shortest_10 : decode cX5_shortest 10 = .ok (.aload_n 0, 1) := by decide +kernel
theorem dX5_shortest_11 : decode cX5_shortest 11 = .ok (.getfield 19, 3) := by decide +kernel
theorem dX5_shortest_14 : decode cX5_shortest 14 = .ok (.getfield 78, 3) := by decide +kernel
theorem dX5_shortest_17 : decode cX5_shortest 17 = .ok (.ifCond .ne 6, 3) := by decide +kernel
theorem dX5_shortest_20 : decode cX5_shortest 20 = .ok (.bipush (-2), 2) := by decide +kernel
theorem dX5_shortest_22 : decode cX5_shortest 22 = .ok (.ireturn, 1) := by decide +kernel
theorem dX5_shortest_23 : decode cX5_shortest 23 = .ok (.iload_n 1, 1) := by decide +kernel
theorem dX5_shortest_24 : decode cX5_shortest 24 = .ok (.invokestatic 148, 3) := by decide +kernel
theorem dX5_shortest_27 : decode cX5_shortest 27 = .ok (.istore_n 2, 1) := by decide +kernel
theorem dX5_shortest_28 : decode cX5_shortest 28 = .ok (.iconst 0, 1) := by decide +kernel
theorem dX5_shortest_29 : decode cX5_shortest 29 = .ok (.istore_n 3, 1) := by decide +kernel
theorem dX5_shortest_30 : decode cX5_shortest 30 = .ok (.iload_n 3, 1) := by decide +kernel
theorem dX5_shortest_31 : decode cX5_shortest 31 = .ok (.bipush 9, 2) := by decide +kernel
theorem dX5_shortest_33 : decode cX5_shortest 33 = .ok (.if_icmp .gt 35, 3) := by decide +kernel
theorem dX5_shortest_36 : decode cX5_shortest 36 = .ok (.aload_n 0, 1) := by decide +kernel
theorem dX5_shortest_37 : decode cX5_shortest 37 = .ok (.iload_n 3, 1) := by decide +kernel
theorem dX5_shortest_38 : decode cX5_shortest 38 = .ok (.aload_n 0, 1) := by decide +kernel
theorem dX5_shortest_39 : decode cX5_shortest 39 = .ok (.getfield 29, 3) := by decide +kernel
theorem dX5_shortest_42 : decode cX5_shortest 42 = .ok (.getfield 98, 3) := by decide +kernel
theorem dX5_shortest_45 : decode cX5_shortest 45 = .ok (.iload_n 2, 1) := by decide +kernel
theorem dX5_shortest_46 : decode cX5_shortest 46 = .ok (.iconst 0, 1) := by decide +kernel
theorem dX5_shortest_47 : decode cX5_shortest 47 = .ok (.invokevirtual 160, 3) := by decide +kernel
theorem dX5_shortest_50 : decode cX5_shortest 50 = .ok (.istore 4, 2) := by decide +kernel
theorem dX5_shortest_52 : decode cX5_shortest 52 = .ok (.iload 4, 2) := by decide +kernel
theorem dX5_shortest_54 : decode cX5_shortest 54 = .ok (.bipush (-9), 2) := by decide +kernel
theorem dX5_shortest_56 : decode cX5_shortest 56 = .ok (.if_icmp .eq 6, 3) := by decide +kernel
theorem dX5_shortest_59 : decode cX5_shortest 59 = .ok (.iload 4, 2) := by decide +kernel
theorem dX5_shortest_61 : decode cX5_shortest 61 = .ok (.ireturn, 1) := by decide +kernel
theorem dX5_shortest_62 : decode cX5_shortest 62 = .ok (.iinc 3 1, 3) := by decide +kernel
theorem dX5_shortest_65 : decode cX5_shortest 65 = .ok (.goto (-35), 3) := by decide +kernel
theorem dX5_shortest_68 : decode cX5_shortest 68 = .ok (.bipush (-9), 2) := by decide +kernel
theorem dX5_shortest_70 : decode cX5_shortest 70 = .ok (.ireturn, 1) := by decide +kernel
set_option maxRecDepth 20000 in
theorem ggX5_round_X5_isSize : GoodIn wsX5_round wsX5_isSize := goodIn_r _ [6] (by decide +kernel) (by decide +kernel)
set_option maxRecDepth 20000 in
theorem gX5_round_X5_isSize : GoodIn wsX5_round (va_wsS RX5 110 yX5_isSize wsX5_isSize) := goodIn_app (goodIn_of _ (by decide +kernel)) ggX5_round_X5_isSize
set_option maxRecDepth 20000 in
theorem ggX5_round_X0_standingAfter : GoodIn wsX5_round wsX0_standingAfter := goodIn_r _ [11, 12, 13, 14, 10, 15, 16, 17, 18, 19, 20, 21, 22, 23, 24, 25, 26, 27, 28, 29, 30, 31, 32, 33, 34, 35, 36, 37, 38, 51, 52, 53, 54, 55] (by decide +kernel) (by decide +kernel)
set_option maxRecDepth 20000 in
theorem gX5_round_X0_standingAfter : GoodIn wsX5_round (wsV RX5 164 RX0 yX0_standingAfter wsX0_standingAfter) := goodIn_app (goodIn_of _ (by decide +kernel)) ggX5_round_X0_standingAfter
theorem dX5_round_0 : decode cX5_round 0 = .ok (.iload_n 1, 1) := by decide +kernel
theorem dX5_round_1 : decode cX5_round 1 = .ok (.invokestatic 110, 3) := by decide +kernel
theorem dX5_round_4 : decode cX5_round 4 = .ok (.ifCond .ne 5, 3) := by decide +kernel
theorem dX5_round_7 : decode cX5_round 7 = .ok (.iconst (-1), 1) := by decide +kernel
theorem dX5_round_8 : decode cX5_round 8 = .ok (.ireturn, 1) := by decide +kernel
theorem dX5_round_9 : decode cX5_round 9 = .ok (.aload_n 0, 1) := by decide +kernel
theorem dX5_round_10 : decode cX5_round 10 = .ok (.getfield 19, 3) := by decide +kernel
theorem dX5_round_13 : decode cX5_round 13 = .ok (.getfield 78, 3) := by decide +kernel
theorem dX5_round_16 : decode cX5_round 16 = .ok (.ifCond .ne 6, 3) := by decide +kernel
theorem dX5_round_19 : decode cX5_round 19 = .ok (.bipush (-2), 2) := by decide +kernel
theorem dX5_round_21 : decode cX5_round 21 = .ok (.ireturn, 1) := by decide +kernel
theorem dX5_round_22 : decode cX5_round 22 = .ok (.aload_n 0, 1) := by decide +kernel
theorem dX5_round_23 : decode cX5_round 23 = .ok (.getfield 29, 3) := by decide +kernel
theorem dX5_round_26 : decode cX5_round 26 = .ok (.getfield 98, 3) := by decide +kernel
theorem dX5_round_29 : decode cX5_round 29 = .ok (.istore_n 2, 1) := by decide +kernel
theorem dX5_round_30 : decode cX5_round 30 = .ok (.iconst 1, 1) := by decide +kernel
theorem dX5_round_31 : decode cX5_round 31 = .ok (.istore_n 3, 1) := by decide +kernel
theorem dX5_round_32 : decode cX5_round 32 = .ok (.iload_n 3, 1) := by decide +kernel
theorem dX5_round_33 : decode cX5_round 33 = .ok (.sipush 500, 3) := by decide +kernel
theorem dX5_round_36 : decode cX5_round 36 = .ok (.if_icmp .gt 39, 3) := by decide +kernel
theorem dX5_round_39 : decode cX5_round 39 = .ok (.aload_n 0, 1) := by decide +kernel
theorem dX5_round_40 : decode cX5_round 40 = .ok (.getfield 19, 3) := by decide +kernel
theorem dX5_round_43 : decode cX5_round 43 = .ok (.iload_n 2, 1) := by decide +kernel
theorem dX5_round_44 : decode cX5_round 44 = .ok (.iload_n 1, 1) := by decide +kernel
theorem dX5_round_45 : decode cX5_round 45 = .ok (.aload_n 0, 1) := by decide +kernel
theorem dX5_round_46 : decode cX5_round 46 = .ok (.getfield 29, 3) := by decide +kernel
theorem dX5_round_49 : decode cX5_round 49 = .ok (.getfield 116, 3) := by decide +kernel
theorem dX5_round_52 : decode cX5_round 52 = .ok (.invokevirtual 164, 3) := by decide +kernel
theorem dX5_round_55 : decode cX5_round 55 = .ok (.istore_n 2, 1) := by decide +kernel
theorem dX5_round_56 : decode cX5_round 56 = .ok (.iload_n 2, 1) := by decide +kernel
theorem dX5_round_57 : decode cX5_round 57 = .ok (.aload_n 0, 1) := by decide +kernel
theorem dX5_round_58 : decode cX5_round 58 = .ok (.getfield 29, 3) := by decide +kernel
theorem dX5_round_61 : decode cX5_round 61 = .ok (.getfield 98, 3) := by decide +kernel
theorem dX5_round_64 : decode cX5_round 64 = .ok (.if_icmp .ne 5, 3) := by decide +kernel
theorem dX5_round_67 : decode cX5_round 67 = .ok (.iload_n 3, 1) := by decide +kernel
theorem dX5_round_68 : decode cX5_round 68 = .ok (.ireturn, 1) := by decide +kernel
theorem dX5_round_69 : decode cX5_round 69 = .ok (.iinc 3 1, 3) := by decide +kernel
theorem dX5_round_72 : decode cX5_round 72 = .ok (.goto (-40), 3) := by decide +kernel
theorem dX5_round_75 : decode cX5_round 75 = .ok (.bipush (-9), 2) := by decide +kernel
theorem dX5_round_77 : decode cX5_round 77 = .ok (.ireturn, 1) := by decide +kernel
set_option maxRecDepth 20000 in
theorem ggX5_standings_X0_standingAfter : GoodIn wsX5_standings wsX0_standingAfter := goodIn_r _ [8, 9, 10, 11, 7, 12, 13, 14, 15, 16, 17, 18, 19, 20, 21, 22, 23, 24, 25, 26, 27, 28, 29, 30, 31, 32, 33, 34, 35, 53, 54, 55, 56, 57] (by decide +kernel) (by decide +kernel)
set_option maxRecDepth 20000 in
theorem gX5_standings_X0_standingAfter : GoodIn wsX5_standings (wsV RX5 164 RX0 yX0_standingAfter wsX0_standingAfter) := goodIn_app (goodIn_of _ (by decide +kernel)) ggX5_standings_X0_standingAfter
set_option maxRecDepth 20000 in
theorem ggX5_standings_X5_isReached : GoodIn wsX5_standings wsX5_isReached := goodIn_r _ [40, 2, 41, 42, 43, 44, 45, 46, 47, 48, 49, 50, 51, 52] (by decide +kernel) (by decide +kernel)
set_option maxRecDepth 20000 in
theorem gX5_standings_X5_isReached : GoodIn wsX5_standings (wsV RX5 167 RX5 yX5_isReached wsX5_isReached) := goodIn_app (goodIn_of _ (by decide +kernel)) ggX5_standings_X5_isReached
theorem dX5_standings_0 : decode cX5_standings 0 = .ok (.aload_n 0, 1) := by decide +kernel
theorem dX5_standings_1 : decode cX5_standings 1 = .ok (.getfield 19, 3) := by decide +kernel
theorem dX5_standings_4 : decode cX5_standings 4 = .ok (.getfield 78, 3) := by decide +kernel
theorem dX5_standings_7 : decode cX5_standings 7 = .ok (.ifCond .ne 6, 3) := by decide +kernel
theorem dX5_standings_10 : decode cX5_standings 10 = .ok (.bipush (-2), 2) := by decide +kernel
theorem dX5_standings_12 : decode cX5_standings 12 = .ok (.ireturn, 1) := by decide +kernel
theorem dX5_standings_13 : decode cX5_standings 13 = .ok (.aload_n 0, 1) := by decide +kernel
theorem dX5_standings_14 : decode cX5_standings 14 = .ok (.getfield 46, 3) := by decide +kernel
theorem dX5_standings_17 : decode cX5_standings 17 = .ok (.iconst 0, 1) := by decide +kernel
theorem dX5_standings_18 : decode cX5_standings 18 = .ok (.aload_n 0, 1) := by decide +kernel
theorem dX5_standings_19 : decode cX5_standings 19 = .ok (.getfield 29, 3) := by decide +kernel
theorem dX5_standings_22 : decode cX5_standings 22 = .ok (.getfield 98, 3) := by decide +kernel
theorem dX5_standings_25 : decode cX5_standings 25 = .ok (.iastore, 1) := by decide +kernel
theorem dX5_standings_26 : decode cX5_standings 26 = .ok (.iconst 1, 1) := by decide +kernel
theorem dX5_standings_27 : decode cX5_standings 27 = .ok (.istore_n 1, 1) := by decide +kernel
theorem dX5_standings_28 : decode cX5_standings 28 = .ok (.iconst 0, 1) := by decide +kernel
theorem dX5_standings_29 : decode cX5_standings 29 = .ok (.istore_n 2, 1) := by decide +kernel
theorem dX5_standings_30 : decode cX5_standings 30 = .ok (.iload_n 2, 1) := by decide +kernel
theorem dX5_standings_31 : decode cX5_standings 31 = .ok (.iload_n 1, 1) := by decide +kernel
theorem dX5_standings_32 : decode cX5_standings 32 = .ok (.if_icmp .ge 80, 3) := by decide +kernel
theorem dX5_standings_35 : decode cX5_standings 35 = .ok (.iload_n 2, 1) := by decide +kernel
theorem dX5_standings_36 : decode cX5_standings 36 = .ok (.sipush 200, 3) := by decide +kernel
theorem dX5_standings_39 : decode cX5_standings 39 = .ok (.if_icmp .ge 73, 3) := by decide +kernel
theorem dX5_standings_42 : decode cX5_standings 42 = .ok (.iconst 0, 1) := by decide +kernel
theorem dX5_standings_43 : decode cX5_standings 43 = .ok (.istore_n 3, 1) := by decide +kernel
theorem dX5_standings_44 : decode cX5_standings 44 = .ok (.iload_n 3, 1) := by decide +kernel
theorem dX5_standings_45 : decode cX5_standings 45 = .ok (.iconst 1, 1) := by decide +kernel
theorem dX5_standings_46 : decode cX5_standings 46 = .ok (.if_icmp .gt 60, 3) := by decide +kernel
theorem dX5_standings_49 : decode cX5_standings 49 = .ok (.aload_n 0, 1) := by decide +kernel
theorem dX5_standings_50 : decode cX5_standings 50 = .ok (.getfield 19, 3) := by decide +kernel
theorem dX5_standings_53 : decode cX5_standings 53 = .ok (.aload_n 0, 1) := by decide +kernel
theorem dX5_standings_54 : decode cX5_standings 54 = .ok (.getfield 46, 3) := by decide +kernel
theorem dX5_standings_57 : decode cX5_standings 57 = .ok (.iload_n 2, 1) := by decide +kernel
theorem dX5_standings_58 : decode cX5_standings 58 = .ok (.iaload, 1) := by decide +kernel
theorem dX5_standings_59 : decode cX5_standings 59 = .ok (.iload_n 3, 1) := by decide +kernel
theorem dX5_standings_60 : decode cX5_standings 60 = .ok (.aload_n 0, 1) := by decide +kernel
theorem dX5_standings_61 : decode cX5_standings 61 = .ok (.getfield 29, 3) := by decide +kernel
theorem dX5_standings_64 : decode cX5_standings 64 = .ok (.getfield 116, 3) := by decide +kernel
theorem dX5_standings_67 : decode cX5_standings 67 = .ok (.invokevirtual 164, 3) := by decide +kernel
theorem dX5_standings_70 : decode cX5_standings 70 = .ok (.istore 4, 2) := by decide +kernel
theorem dX5_standings_72 : decode cX5_standings 72 = .ok (.iload_n 1, 1) := by decide +kernel
theorem dX5_standings_73 : decode cX5_standings 73 = .ok (.sipush 200, 3) := by decide +kernel
theorem dX5_standings_76 : decode cX5_standings 76 = .ok (.if_icmp .ge 24, 3) := by decide +kernel
theorem dX5_standings_79 : decode cX5_standings 79 = .ok (.aload_n 0, 1) := by decide +kernel
theorem dX5_standings_80 : decode cX5_standings 80 = .ok (.iload 4, 2) := by decide +kernel
theorem dX5_standings_82 : decode cX5_standings 82 = .ok (.iload_n 1, 1) := by decide +kernel
theorem dX5_standings_83 : decode cX5_standings 83 = .ok (.invokevirtual 167, 3) := by decide +kernel
theorem dX5_standings_86 : decode cX5_standings 86 = .ok (.ifCond .ne 14, 3) := by decide +kernel
theorem dX5_standings_89 : decode cX5_standings 89 = .ok (.aload_n 0, 1) := by decide +kernel
theorem dX5_standings_90 : decode cX5_standings 90 = .ok (.getfield 46, 3) := by decide +kernel
theorem dX5_standings_93 : decode cX5_standings 93 = .ok (.iload_n 1, 1) := by decide +kernel
theorem dX5_standings_94 : decode cX5_standings 94 = .ok (.iload 4, 2) := by decide +kernel
theorem dX5_standings_96 : decode cX5_standings 96 = .ok (.iastore, 1) := by decide +kernel
theorem dX5_standings_97 : decode cX5_standings 97 = .ok (.iinc 1 1, 3) := by decide +kernel
theorem dX5_standings_100 : decode cX5_standings 100 = .ok (.iinc 3 1, 3) := by decide +kernel
theorem dX5_standings_103 : decode cX5_standings 103 = .ok (.goto (-59), 3) := by decide +kernel
theorem dX5_standings_106 : decode cX5_standings 106 = .ok (.iinc 2 1, 3) := by decide +kernel
theorem dX5_standings_109 : decode cX5_standings 109 = .ok (.goto (-79), 3) := by decide +kernel
theorem dX5_standings_112 : decode cX5_standings 112 = .ok (.iload_n 1, 1) := by decide +kernel
theorem dX5_standings_113 : decode cX5_standings 113 = .ok (.ireturn, 1) := by decide +kernel
set_option maxRecDepth 20000 in
theorem ggX5_apart_X5_isRow : GoodIn wsX5_apart wsX5_isRow := goodIn_r _ [6, 7] (by decide +kernel) (by decide +kernel)
set_option maxRecDepth 20000 in
theorem gX5_apart_X5_isRow : GoodIn wsX5_apart (va_wsS RX5 142 yX5_isRow wsX5_isRow) := goodIn_app (goodIn_of _ (by decide +kernel)) ggX5_apart_X5_isRow
set_option maxRecDepth 20000 in
theorem ggX5_apart_X5_figures : GoodIn wsX5_apart wsX5_figures := goodIn_r _ [10] (by decide +kernel) (by decide +kernel)
set_option maxRecDepth 20000 in
theorem gX5_apart_X5_figures : GoodIn wsX5_apart (va_wsS RX5 145 yX5_figures wsX5_figures) := goodIn_app (goodIn_of _ (by decide +kernel)) ggX5_apart_X5_figures
set_option maxRecDepth 20000 in
theorem ggX5_apart_X5_turned : GoodIn wsX5_apart wsX5_turned := goodIn_r _ [13] (by decide +kernel) (by decide +kernel)
set_option maxRecDepth 20000 in
theorem gX5_apart_X5_turned : GoodIn wsX5_apart (va_wsS RX5 148 yX5_turned wsX5_turned) := goodIn_app (goodIn_of _ (by decide +kernel)) ggX5_apart_X5_turned
set_option maxRecDepth 20000 in
theorem ggX5_apart_X2_outcome : GoodIn wsX5_apart wsX2_outcome := goodIn_r _ [17] (by decide +kernel) (by decide +kernel)
set_option maxRecDepth 20000 in
theorem gX5_apart_X2_outcome : GoodIn wsX5_apart (va_wsS RX5 151 yX2_outcome wsX2_outcome) := goodIn_app (goodIn_of _ (by decide +kernel)) ggX5_apart_X2_outcome
set_option maxRecDepth 20000 in
theorem ggX5_apart_X2_standingOf : GoodIn wsX5_apart wsX2_standingOf := goodIn_r _ [20, 21] (by decide +kernel) (by decide +kernel)
set_option maxRecDepth 20000 in
theorem gX5_apart_X2_standingOf : GoodIn wsX5_apart (va_wsS RX5 154 yX2_standingOf wsX2_standingOf) := goodIn_app (goodIn_of _ (by decide +kernel)) ggX5_apart_X2_standingOf
set_option maxRecDepth 20000 in
theorem ggX5_apart_X0_fall : GoodIn wsX5_apart wsX0_fall := goodIn_r _ [26, 27, 28, 29, 30, 31, 32, 33, 34, 25, 35, 36, 37, 16, 38, 39, 40, 41, 42, 15, 17, 58, 59, 60, 61, 62] (by decide +kernel) (by decide +kernel)
set_option maxRecDepth 20000 in
theorem gX5_apart_X0_fall : GoodIn wsX5_apart (wsV RX5 119 RX0 yX0_fall wsX0_fall) := goodIn_app (goodIn_of _ (by decide +kernel)) ggX5_apart_X0_fall
set_option maxRecDepth 20000 in
theorem ggX5_apart_X2_comesOf : GoodIn wsX5_apart wsX2_comesOf := goodIn_r _ [45] (by decide +kernel) (by decide +kernel)
set_option maxRecDepth 20000 in
theorem gX5_apart_X2_comesOf : GoodIn wsX5_apart (va_wsS RX5 126 yX2_comesOf wsX2_comesOf) := goodIn_app (goodIn_of _ (by decide +kernel)) ggX5_apart_X2_comesOf
theorem dX5_apart_0 : decode cX5_apart 0 = .ok (.iload_n 1, 1) := by decide +kernel
theorem dX5_apart_1 : decode cX5_apart 1 = .ok (.invokestatic 142, 3) := by decide +kernel
theorem dX5_apart_4 : decode cX5_apart 4 = .ok (.ifCond .eq 21, 3) := by decide +kernel
theorem dX5_apart_7 : decode cX5_apart 7 = .ok (.iload_n 2, 1) := by decide +kernel
theorem dX5_apart_8 : decode cX5_apart 8 = .ok (.invokestatic 142, 3) := by decide +kernel
theorem dX5_apart_11 : decode cX5_apart 11 = .ok (.ifCond .eq 14, 3) := by decide +kernel
theorem dX5_apart_14 : decode cX5_apart 14 = .ok (.iload_n 1, 1) := by decide +kernel
theorem dX5_apart_15 : decode cX5_apart 15 = .ok (.invokestatic 145, 3) := by decide +kernel
theorem dX5_apart_18 : decode cX5_apart 18 = .ok (.iload_n 2, 1) := by decide +kernel
theorem dX5_apart_19 : decode cX5_apart 19 = .ok (.invokestatic 145, 3) := by decide +kernel
theorem dX5_apart_22 : decode cX5_apart 22 = .ok (.if_icmp .eq 5, 3) := by decide +kernel
theorem dX5_apart_25 : decode cX5_apart 25 = .ok (.iconst (-1), 1) := by decide +kernel
theorem dX5_apart_26 : decode cX5_apart 26 = .ok (.ireturn, 1) := by decide +kernel
theorem dX5_apart_27 : decode cX5_apart 27 = .ok (.aload_n 0, 1) := by decide +kernel
theorem dX5_apart_28 : decode cX5_apart 28 = .ok (.getfield 19, 3) := by decide +kernel
theorem dX5_apart_31 : decode cX5_apart 31 = .ok (.getfield 78, 3) := by decide +kernel
theorem dX5_apart_34 : decode cX5_apart 34 = .ok (.ifCond .ne 6, 3) := by decide +kernel
theorem dX5_apart_37 : decode cX5_apart 37 = .ok (.bipush (-2), 2) := by decide +kernel
theorem dX5_apart_39 : decode cX5_apart 39 = .ok (.ireturn, 1) := by decide +kernel
theorem dX5_apart_40 : decode cX5_apart 40 = .ok (.iload_n 1, 1) := by decide +kernel
theorem dX5_apart_41 : decode cX5_apart 41 = .ok (.invokestatic 145, 3) := by decide +kernel
theorem dX5_apart_44 : decode cX5_apart 44 = .ok (.istore_n 3, 1) := by decide +kernel
theorem dX5_apart_45 : decode cX5_apart 45 = .ok (.iload_n 1, 1) := by decide +kernel
theorem dX5_apart_46 : decode cX5_apart 46 = .ok (.invokestatic 148, 3) := by decide +kernel
theorem dX5_apart_49 : decode cX5_apart 49 = .ok (.istore 4, 2) := by decide +kernel
theorem dX5_apart_51 : decode cX5_apart 51 = .ok (.iload_n 2, 1) := by decide +kernel
theorem dX5_apart_52 : decode cX5_apart 52 = .ok (.invokestatic 148, 3) := by decide +kernel
theorem dX5_apart_55 : decode cX5_apart 55 = .ok (.istore 5, 2) := by decide +kernel
theorem dX5_apart_57 : decode cX5_apart 57 = .ok (.aload_n 0, 1) := by decide +kernel
theorem dX5_apart_58 : decode cX5_apart 58 = .ok (.getfield 29, 3) := by decide +kernel
theorem dX5_apart_61 : decode cX5_apart 61 = .ok (.getfield 98, 3) := by decide +kernel
theorem dX5_apart_64 : decode cX5_apart 64 = .ok (.bipush (-9), 2) := by decide +kernel
theorem dX5_apart_66 : decode cX5_apart 66 = .ok (.invokestatic 151, 3) := by decide +kernel
theorem dX5_apart_69 : decode cX5_apart 69 = .ok (.istore 6, 2) := by decide +kernel
theorem dX5_apart_71 : decode cX5_apart 71 = .ok (.iload 6, 2) := by decide +kernel
theorem dX5_apart_73 : decode cX5_apart 73 = .ok (.istore 7, 2) := by decide +kernel
theorem dX5_apart_75 : decode cX5_apart 75 = .ok (.iconst 0, 1) := by decide +kernel
theorem dX5_apart_76 : decode cX5_apart 76 = .ok (.istore 8, 2) := by decide +kernel
theorem dX5_apart_78 : decode cX5_apart 78 = .ok (.iload 8, 2) := by decide +kernel
theorem dX5_apart_80 : decode cX5_apart 80 = .ok (.iload_n 3, 1) := by decide +kernel
theorem dX5_apart_81 : decode cX5_apart 81 = .ok (.if_icmp .ge 95, 3) := by decide +kernel
theorem dX5_apart_84 : decode cX5_apart 84 = .ok (.aload_n 0, 1) := by decide +kernel
theorem dX5_apart_85 : decode cX5_apart 85 = .ok (.getfield 19, 3) := by decide +kernel
theorem dX5_apart_88 : decode cX5_apart 88 = .ok (.iload 6, 2) := by decide +kernel
theorem dX5_apart_90 : decode cX5_apart 90 = .ok (.invokestatic 154, 3) := by decide +kernel
theorem dX5_apart_93 : decode cX5_apart 93 = .ok (.iload 4, 2) := by decide +kernel
theorem dX5_apart_95 : decode cX5_apart 95 = .ok (.bipush 10, 2) := by decide +kernel
theorem dX5_apart_97 : decode cX5_apart 97 = .ok (.irem, 1) := by decide +kernel
theorem dX5_apart_98 : decode cX5_apart 98 = .ok (.iconst 1, 1) := by decide +kernel
theorem dX5_apart_99 : decode cX5_apart 99 = .ok (.isub, 1) := by decide +kernel
theorem dX5_apart_100 : decode cX5_apart 100 = .ok (.aload_n 0, 1) := by decide +kernel
theorem dX5_apart_101 : decode cX5_apart 101 = .ok (.getfield 29, 3) := by decide +kernel
theorem dX5_apart_104 : decode cX5_apart 104 = .ok (.getfield 116, 3) := by decide +kernel
theorem dX5_apart_107 : decode cX5_apart 107 = .ok (.invokevirtual 119, 3) := by decide +kernel
theorem dX5_apart_110 : decode cX5_apart 110 = .ok (.istore 6, 2) := by decide +kernel
theorem dX5_apart_112 : decode cX5_apart 112 = .ok (.aload_n 0, 1) := by decide +kernel
theorem dX5_apart_113 : decode cX5_apart 113 = .ok (.getfield 19, 3) := by decide +kernel
theorem dX5_apart_116 : decode cX5_apart 116 = .ok (.iload 7, 2) := by decide +kernel
theorem dX5_apart_118 : decode cX5_apart 118 = .ok (.invokestatic 154, 3) := by decide +kernel
theorem dX5_apart_121 : decode cX5_apart 121 = .ok (.iload 5, 2) := by decide +kernel
theorem dX5_apart_123 : decode cX5_apart 123 = .ok (.bipush 10, 2) := by decide +kernel
theorem dX5_apart_125 : decode cX5_apart 125 = .ok (.irem, 1) := by decide +kernel
theorem dX5_apart_126 : decode cX5_apart 126 = .ok (.iconst 1, 1) := by decide +kernel
theorem dX5_apart_127 : decode cX5_apart 127 = .ok (.isub, 1) := by decide +kernel
theorem dX5_apart_128 : decode cX5_apart 128 = .ok (.aload_n 0, 1) := by decide +kernel
theorem dX5_apart_129 : decode cX5_apart 129 = .ok (.getfield 29, 3) := by decide +kernel
theorem dX5_apart_132 : decode cX5_apart 132 = .ok (.getfield 116, 3) := by decide +kernel
theorem dX5_apart_135 : decode cX5_apart 135 = .ok (.invokevirtual 119, 3) := by decide +kernel
theorem dX5_apart_138 : decode cX5_apart 138 = .ok (.istore 7, 2) := by decide +kernel
theorem dX5_apart_140 : decode cX5_apart 140 = .ok (.iload 6, 2) := by decide +kernel
theorem dX5_apart_142 : decode cX5_apart 142 = .ok (.invokestatic 126, 3) := by decide +kernel
theorem dX5_apart_145 : decode cX5_apart 145 = .ok (.iload 7, 2) := by decide +kernel
theorem dX5_apart_147 : decode cX5_apart 147 = .ok (.invokestatic 126, 3) := by decide +kernel
theorem dX5_apart_150 : decode cX5_apart 150 = .ok (.if_icmp .eq 6, 3) := by decide +kernel
theorem dX5_apart_153 : decode cX5_apart 153 = .ok (.iload 8, 2) := by decide +kernel
theorem dX5_apart_155 : decode cX5_apart 155 = .ok (.ireturn, 1) := by decide +kernel
theorem dX5_apart_156 : decode cX5_apart 156 = .ok (.iload 4, 2) := by decide +kernel
theorem dX5_apart_158 : decode cX5_apart 158 = .ok (.bipush 10, 2) := by decide +kernel
theorem dX5_apart_160 : decode cX5_apart 160 = .ok (.idiv, 1) := by decide +kernel
