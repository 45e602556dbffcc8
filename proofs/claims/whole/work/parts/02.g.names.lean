theorem dX5_apart_161 : decode cX5_apart 161 = .ok (.istore 4, 2) := by decide +kernel
theorem dX5_apart_163 : decode cX5_apart 163 = .ok (.iload 5, 2) := by decide +kernel
theorem dX5_apart_165 : decode cX5_apart 165 = .ok (.bipush 10, 2) := by decide +kernel
theorem dX5_apart_167 : decode cX5_apart 167 = .ok (.idiv, 1) := by decide +kernel
theorem dX5_apart_168 : decode cX5_apart 168 = .ok (.istore 5, 2) := by decide +kernel
theorem dX5_apart_170 : decode cX5_apart 170 = .ok (.iinc 8 1, 3) := by decide +kernel
theorem dX5_apart_173 : decode cX5_apart 173 = .ok (.goto (-95), 3) := by decide +kernel
theorem dX5_apart_176 : decode cX5_apart 176 = .ok (.bipush (-9), 2) := by decide +kernel
theorem dX5_apart_178 : decode cX5_apart 178 = .ok (.ireturn, 1) := by decide +kernel
set_option maxRecDepth 20000 in
theorem ggX5_tried_X5_isSize : GoodIn wsX5_tried wsX5_isSize := goodIn_r _ [6] (by decide +kernel) (by decide +kernel)
set_option maxRecDepth 20000 in
theorem gX5_tried_X5_isSize : GoodIn wsX5_tried (va_wsS RX5 110 yX5_isSize wsX5_isSize) := goodIn_app (goodIn_of _ (by decide +kernel)) ggX5_tried_X5_isSize
set_option maxRecDepth 20000 in
theorem ggX5_tried_X0_isLanding : GoodIn wsX5_tried wsX0_isLanding := goodIn_r _ [11, 12, 13, 14, 15, 10, 16, 17, 41, 42, 43, 44, 45] (by decide +kernel) (by decide +kernel)
set_option maxRecDepth 20000 in
theorem gX5_tried_X0_isLanding : GoodIn wsX5_tried (wsV RX5 171 RX0 yX0_isLanding wsX0_isLanding) := goodIn_app (goodIn_of _ (by decide +kernel)) ggX5_tried_X0_isLanding
set_option maxRecDepth 20000 in
theorem ggX5_tried_X4_append : GoodIn wsX5_tried wsX4_append := goodIn_r _ [22, 23, 24, 25, 38, 39, 40] (by decide +kernel) (by decide +kernel)
set_option maxRecDepth 20000 in
theorem gX5_tried_X4_append : GoodIn wsX5_tried (wsV RX5 174 RX4 yX4_append wsX4_append) := goodIn_app (goodIn_of _ (by decide +kernel)) ggX5_tried_X4_append
theorem dX5_tried_0 : decode cX5_tried 0 = .ok (.iload_n 1, 1) := by decide +kernel
theorem dX5_tried_1 : decode cX5_tried 1 = .ok (.invokestatic 110, 3) := by decide +kernel
theorem dX5_tried_4 : decode cX5_tried 4 = .ok (.ifCond .eq 20, 3) := by decide +kernel
theorem dX5_tried_7 : decode cX5_tried 7 = .ok (.iload_n 2, 1) := by decide +kernel
theorem dX5_tried_8 : decode cX5_tried 8 = .ok (.bipush (-9), 2) := by decide +kernel
theorem dX5_tried_10 : decode cX5_tried 10 = .ok (.if_icmp .eq 16, 3) := by decide +kernel
theorem dX5_tried_13 : decode cX5_tried 13 = .ok (.aload_n 0, 1) := by decide +kernel
theorem dX5_tried_14 : decode cX5_tried 14 = .ok (.getfield 19, 3) := by decide +kernel
theorem dX5_tried_17 : decode cX5_tried 17 = .ok (.iload_n 2, 1) := by decide +kernel
theorem dX5_tried_18 : decode cX5_tried 18 = .ok (.invokevirtual 171, 3) := by decide +kernel
theorem dX5_tried_21 : decode cX5_tried 21 = .ok (.ifCond .ne 5, 3) := by decide +kernel
theorem dX5_tried_24 : decode cX5_tried 24 = .ok (.iconst (-1), 1) := by decide +kernel
theorem dX5_tried_25 : decode cX5_tried 25 = .ok (.ireturn, 1) := by decide +kernel
theorem dX5_tried_26 : decode cX5_tried 26 = .ok (.aload_n 0, 1) := by decide +kernel
theorem dX5_tried_27 : decode cX5_tried 27 = .ok (.getfield 42, 3) := by decide +kernel
theorem dX5_tried_30 : decode cX5_tried 30 = .ok (.getfield 68, 3) := by decide +kernel
theorem dX5_tried_33 : decode cX5_tried 33 = .ok (.bipush 9, 2) := by decide +kernel
theorem dX5_tried_35 : decode cX5_tried 35 = .ok (.if_icmp .lt 6, 3) := by decide +kernel
theorem dX5_tried_38 : decode cX5_tried 38 = .ok (.bipush (-3), 2) := by decide +kernel
theorem dX5_tried_40 : decode cX5_tried 40 = .ok (.ireturn, 1) := by decide +kernel
theorem dX5_tried_41 : decode cX5_tried 41 = .ok (.aload_n 0, 1) := by decide +kernel
theorem dX5_tried_42 : decode cX5_tried 42 = .ok (.getfield 42, 3) := by decide +kernel
theorem dX5_tried_45 : decode cX5_tried 45 = .ok (.iload_n 1, 1) := by decide +kernel
theorem dX5_tried_46 : decode cX5_tried 46 = .ok (.iload_n 2, 1) := by decide +kernel
theorem dX5_tried_47 : decode cX5_tried 47 = .ok (.invokevirtual 174, 3) := by decide +kernel
theorem dX5_tried_50 : decode cX5_tried 50 = .ok (.aload_n 0, 1) := by decide +kernel
theorem dX5_tried_51 : decode cX5_tried 51 = .ok (.getfield 42, 3) := by decide +kernel
theorem dX5_tried_54 : decode cX5_tried 54 = .ok (.getfield 68, 3) := by decide +kernel
theorem dX5_tried_57 : decode cX5_tried 57 = .ok (.ireturn, 1) := by decide +kernel
theorem dX5_forget_0 : decode cX5_forget 0 = .ok (.aload_n 0, 1) := by decide +kernel
theorem dX5_forget_1 : decode cX5_forget 1 = .ok (.getfield 42, 3) := by decide +kernel
theorem dX5_forget_4 : decode cX5_forget 4 = .ok (.getfield 68, 3) := by decide +kernel
theorem dX5_forget_7 : decode cX5_forget 7 = .ok (.istore_n 1, 1) := by decide +kernel
theorem dX5_forget_8 : decode cX5_forget 8 = .ok (.aload_n 0, 1) := by decide +kernel
theorem dX5_forget_9 : decode cX5_forget 9 = .ok (.getfield 42, 3) := by decide +kernel
theorem dX5_forget_12 : decode cX5_forget 12 = .ok (.iconst 0, 1) := by decide +kernel
theorem dX5_forget_13 : decode cX5_forget 13 = .ok (.putfield 68, 3) := by decide +kernel
theorem dX5_forget_16 : decode cX5_forget 16 = .ok (.iload_n 1, 1) := by decide +kernel
theorem dX5_forget_17 : decode cX5_forget 17 = .ok (.ireturn, 1) := by decide +kernel
set_option maxRecDepth 20000 in
theorem ggX5_lodges_X5_canBeLodged : GoodIn wsX5_lodges wsX5_canBeLodged := goodIn_r _ [7, 1, 8, 9, 10, 11, 12, 13, 51, 52, 53, 54, 55, 56, 57, 58, 59, 60, 61, 62, 63, 64, 65, 66, 67] (by decide +kernel) (by decide +kernel)
set_option maxRecDepth 20000 in
theorem gX5_lodges_X5_canBeLodged : GoodIn wsX5_lodges (wsV RX5 177 RX5 yX5_canBeLodged wsX5_canBeLodged) := goodIn_app (goodIn_of _ (by decide +kernel)) ggX5_lodges_X5_canBeLodged
set_option maxRecDepth 20000 in
theorem ggX5_lodges_X5_lodgedOf : GoodIn wsX5_lodges wsX5_lodgedOf := goodIn_r _ [16] (by decide +kernel) (by decide +kernel)
set_option maxRecDepth 20000 in
theorem gX5_lodges_X5_lodgedOf : GoodIn wsX5_lodges (va_wsS RX5 180 yX5_lodgedOf wsX5_lodgedOf) := goodIn_app (goodIn_of _ (by decide +kernel)) ggX5_lodges_X5_lodgedOf
set_option maxRecDepth 20000 in
theorem ggX5_lodges_X4_standingBehind : GoodIn wsX5_lodges wsX4_standingBehind := goodIn_r _ [21, 22, 23, 24, 25, 26, 27, 11, 28, 13, 29, 30, 31, 32, 33, 9, 10, 12, 34, 35, 36, 37, 38, 39, 40, 41, 42, 43, 44, 45, 46, 47, 48, 49, 50, 68, 69, 70, 63, 64, 65, 66, 67] (by decide +kernel) (by decide +kernel)
set_option maxRecDepth 20000 in
theorem gX5_lodges_X4_standingBehind : GoodIn wsX5_lodges (wsV RX5 183 RX4 yX4_standingBehind wsX4_standingBehind) := goodIn_app (goodIn_of _ (by decide +kernel)) ggX5_lodges_X4_standingBehind
theorem dX5_lodges_0 : decode cX5_lodges 0 = .ok (.aload_n 0, 1) := by decide +kernel
theorem dX5_lodges_1 : decode cX5_lodges 1 = .ok (.getfield 19, 3) := by decide +kernel
theorem dX5_lodges_4 : decode cX5_lodges 4 = .ok (.getfield 78, 3) := by decide +kernel
theorem dX5_lodges_7 : decode cX5_lodges 7 = .ok (.ifCond .ne 6, 3) := by decide +kernel
theorem dX5_lodges_10 : decode cX5_lodges 10 = .ok (.bipush (-2), 2) := by decide +kernel
theorem dX5_lodges_12 : decode cX5_lodges 12 = .ok (.ireturn, 1) := by decide +kernel
theorem dX5_lodges_13 : decode cX5_lodges 13 = .ok (.iconst 0, 1) := by decide +kernel
theorem dX5_lodges_14 : decode cX5_lodges 14 = .ok (.istore_n 1, 1) := by decide +kernel
theorem dX5_lodges_15 : decode cX5_lodges 15 = .ok (.iconst 0, 1) := by decide +kernel
theorem dX5_lodges_16 : decode cX5_lodges 16 = .ok (.istore_n 2, 1) := by decide +kernel
theorem dX5_lodges_17 : decode cX5_lodges 17 = .ok (.iload_n 2, 1) := by decide +kernel
theorem dX5_lodges_18 : decode cX5_lodges 18 = .ok (.bipush 9, 2) := by decide +kernel
theorem dX5_lodges_20 : decode cX5_lodges 20 = .ok (.if_icmp .gt 42, 3) := by decide +kernel
theorem dX5_lodges_23 : decode cX5_lodges 23 = .ok (.aload_n 0, 1) := by decide +kernel
theorem dX5_lodges_24 : decode cX5_lodges 24 = .ok (.iload_n 2, 1) := by decide +kernel
theorem dX5_lodges_25 : decode cX5_lodges 25 = .ok (.invokevirtual 177, 3) := by decide +kernel
theorem dX5_lodges_28 : decode cX5_lodges 28 = .ok (.ifCond .eq 28, 3) := by decide +kernel
theorem dX5_lodges_31 : decode cX5_lodges 31 = .ok (.aload_n 0, 1) := by decide +kernel
theorem dX5_lodges_32 : decode cX5_lodges 32 = .ok (.getfield 42, 3) := by decide +kernel
theorem dX5_lodges_35 : decode cX5_lodges 35 = .ok (.aload_n 0, 1) := by decide +kernel
theorem dX5_lodges_36 : decode cX5_lodges 36 = .ok (.getfield 19, 3) := by decide +kernel
theorem dX5_lodges_39 : decode cX5_lodges 39 = .ok (.iload_n 2, 1) := by decide +kernel
theorem dX5_lodges_40 : decode cX5_lodges 40 = .ok (.invokestatic 180, 3) := by decide +kernel
theorem dX5_lodges_43 : decode cX5_lodges 43 = .ok (.invokevirtual 183, 3) := by decide +kernel
theorem dX5_lodges_46 : decode cX5_lodges 46 = .ok (.iconst (-1), 1) := by decide +kernel
theorem dX5_lodges_47 : decode cX5_lodges 47 = .ok (.if_icmp .eq 9, 3) := by decide +kernel
theorem dX5_lodges_50 : decode cX5_lodges 50 = .ok (.iload_n 1, 1) := by decide +kernel
theorem dX5_lodges_51 : decode cX5_lodges 51 = .ok (.iconst 1, 1) := by decide +kernel
theorem dX5_lodges_52 : decode cX5_lodges 52 = .ok (.iload_n 2, 1) := by decide +kernel
theorem dX5_lodges_53 : decode cX5_lodges 53 = .ok (.ishl, 1) := by decide +kernel
theorem dX5_lodges_54 : decode cX5_lodges 54 = .ok (.ior, 1) := by decide +kernel
theorem dX5_lodges_55 : decode cX5_lodges 55 = .ok (.istore_n 1, 1) := by decide +kernel
theorem dX5_lodges_56 : decode cX5_lodges 56 = .ok (.iinc 2 1, 3) := by decide +kernel
theorem dX5_lodges_59 : decode cX5_lodges 59 = .ok (.goto (-42), 3) := by decide +kernel
theorem dX5_lodges_62 : decode cX5_lodges 62 = .ok (.iload_n 1, 1) := by decide +kernel
theorem dX5_lodges_63 : decode cX5_lodges 63 = .ok (.ireturn, 1) := by decide +kernel
set_option maxRecDepth 20000 in
theorem ggX5_trial_X5_leftAtWorst : GoodIn wsX5_trial wsX5_leftAtWorst := goodIn_r _ [10, 11, 12, 1, 13, 14, 4, 15, 16, 17, 18, 19, 20, 21, 22, 9, 23, 24, 25, 26, 27, 28, 29, 30, 31, 32, 33, 34, 35, 36, 37, 38, 39, 40, 41, 42, 43, 44, 45, 46, 47, 48, 49, 50, 51, 52, 53, 54, 55, 56, 57, 58, 59, 60, 61, 62, 63, 64, 65, 66, 67, 68, 69, 70, 71, 72, 73, 74, 75, 76, 77, 78, 79, 80, 81, 82, 83, 84, 85, 86, 87, 88] (by decide +kernel) (by decide +kernel)
set_option maxRecDepth 20000 in
theorem gX5_trial_X5_leftAtWorst : GoodIn wsX5_trial (wsV RX5 187 RX5 yX5_leftAtWorst wsX5_leftAtWorst) := goodIn_app (goodIn_of _ (by decide +kernel)) ggX5_trial_X5_leftAtWorst
theorem dX5_trial_0 : decode cX5_trial 0 = .ok (.iload_n 1, 1) := by decide +kernel
theorem dX5_trial_1 : decode cX5_trial 1 = .ok (.ifCond .eq 10, 3) := by decide +kernel
theorem dX5_trial_4 : decode cX5_trial 4 = .ok (.iload_n 1, 1) := by decide +kernel
theorem dX5_trial_5 : decode cX5_trial 5 = .ok (.iconst 1, 1) := by decide +kernel
theorem dX5_trial_6 : decode cX5_trial 6 = .ok (.if_icmp .eq 5, 3) := by decide +kernel
theorem dX5_trial_9 : decode cX5_trial 9 = .ok (.iconst (-1), 1) := by decide +kernel
theorem dX5_trial_10 : decode cX5_trial 10 = .ok (.ireturn, 1) := by decide +kernel
theorem dX5_trial_11 : decode cX5_trial 11 = .ok (.aload_n 0, 1) := by decide +kernel
theorem dX5_trial_12 : decode cX5_trial 12 = .ok (.getfield 19, 3) := by decide +kernel
theorem dX5_trial_15 : decode cX5_trial 15 = .ok (.getfield 78, 3) := by decide +kernel
theorem dX5_trial_18 : decode cX5_trial 18 = .ok (.ifCond .ne 6, 3) := by decide +kernel
theorem dX5_trial_21 : decode cX5_trial 21 = .ok (.bipush (-2), 2) := by decide +kernel
theorem dX5_trial_23 : decode cX5_trial 23 = .ok (.ireturn, 1) := by decide +kernel
theorem dX5_trial_24 : decode cX5_trial 24 = .ok (.aload_n 0, 1) := by decide +kernel
theorem dX5_trial_25 : decode cX5_trial 25 = .ok (.iconst 0, 1) := by decide +kernel
theorem dX5_trial_26 : decode cX5_trial 26 = .ok (.invokevirtual 187, 3) := by decide +kernel
theorem dX5_trial_29 : decode cX5_trial 29 = .ok (.istore_n 2, 1) := by decide +kernel
theorem dX5_trial_30 : decode cX5_trial 30 = .ok (.aload_n 0, 1) := by decide +kernel
theorem dX5_trial_31 : decode cX5_trial 31 = .ok (.iconst 1, 1) := by decide +kernel
theorem dX5_trial_32 : decode cX5_trial 32 = .ok (.invokevirtual 187, 3) := by decide +kernel
theorem dX5_trial_35 : decode cX5_trial 35 = .ok (.istore_n 3, 1) := by decide +kernel
theorem dX5_trial_36 : decode cX5_trial 36 = .ok (.iload_n 2, 1) := by decide +kernel
theorem dX5_trial_37 : decode cX5_trial 37 = .ok (.ifCond .ne 6, 3) := by decide +kernel
theorem dX5_trial_40 : decode cX5_trial 40 = .ok (.bipush (-9), 2) := by decide +kernel
theorem dX5_trial_42 : decode cX5_trial 42 = .ok (.ireturn, 1) := by decide +kernel
theorem dX5_trial_43 : decode cX5_trial 43 = .ok (.iload_n 1, 1) := by decide +kernel
theorem dX5_trial_44 : decode cX5_trial 44 = .ok (.iconst 1, 1) := by decide +kernel
theorem dX5_trial_45 : decode cX5_trial 45 = .ok (.if_icmp .ne 9, 3) := by decide +kernel
theorem dX5_trial_48 : decode cX5_trial 48 = .ok (.iload_n 2, 1) := by decide +kernel
theorem dX5_trial_49 : decode cX5_trial 49 = .ok (.iload_n 3, 1) := by decide +kernel
theorem dX5_trial_50 : decode cX5_trial 50 = .ok (.invokestatic 190, 3) := by decide +kernel
theorem dX5_trial_53 : decode cX5_trial 53 = .ok (.ireturn, 1) := by decide +kernel
theorem dX5_trial_54 : decode cX5_trial 54 = .ok (.iload_n 3, 1) := by decide +kernel
theorem dX5_trial_55 : decode cX5_trial 55 = .ok (.iload_n 2, 1) := by decide +kernel
theorem dX5_trial_56 : decode cX5_trial 56 = .ok (.if_icmp .ge 7, 3) := by decide +kernel
theorem dX5_trial_59 : decode cX5_trial 59 = .ok (.iconst 1, 1) := by decide +kernel
theorem dX5_trial_60 : decode cX5_trial 60 = .ok (.goto 4, 3) := by decide +kernel
theorem dX5_trial_63 : decode cX5_trial 63 = .ok (.iconst 0, 1) := by decide +kernel
theorem dX5_trial_64 : decode cX5_trial 64 = .ok (.ireturn, 1) := by decide +kernel
set_option maxRecDepth 20000 in
theorem ggX5_called_X5_rowsToPresent : GoodIn wsX5_called wsX5_rowsToPresent := goodIn_r _ [6, 7, 1, 8, 9, 10, 11, 12, 13, 14, 15, 16, 17, 18, 19, 20, 21, 22, 23, 24, 25, 26, 27, 28, 29, 30, 31, 32, 33, 34, 35, 36, 37, 38, 39, 2, 3, 4, 5, 40, 41, 42, 43, 44, 45, 46, 47, 48, 49, 50, 51, 57, 58, 59, 60, 61, 62, 52, 53, 54, 55, 56] (by decide +kernel) (by decide +kernel)
set_option maxRecDepth 20000 in
theorem gX5_called_X5_rowsToPresent : GoodIn wsX5_called (wsV RX5 195 RX5 yX5_rowsToPresent wsX5_rowsToPresent) := goodIn_app (goodIn_of _ (by decide +kernel)) ggX5_called_X5_rowsToPresent
theorem dX5_called_0 : decode cX5_called 0 = .ok (.iload_n 1, 1) := by decide +kernel
theorem dX5_called_1 : decode cX5_called 1 = .ok (.ifCond .lt 9, 3) := by decide +kernel
theorem dX5_called_4 : decode cX5_called 4 = .ok (.iload_n 1, 1) := by decide +kernel
theorem dX5_called_5 : decode cX5_called 5 = .ok (.bipush 9, 2) := by decide +kernel
theorem dX5_called_7 : decode cX5_called 7 = .ok (.if_icmp .le 5, 3) := by decide +kernel
theorem dX5_called_10 : decode cX5_called 10 = .ok (.iconst (-1), 1) := by decide +kernel
theorem dX5_called_11 : decode cX5_called 11 = .ok (.ireturn, 1) := by decide +kernel
theorem dX5_called_12 : decode cX5_called 12 = .ok (.aload_n 0, 1) := by decide +kernel
theorem dX5_called_13 : decode cX5_called 13 = .ok (.getfield 19, 3) := by decide +kernel
theorem dX5_called_16 : decode cX5_called 16 = .ok (.getfield 78, 3) := by decide +kernel
theorem dX5_called_19 : decode cX5_called 19 = .ok (.ifCond .ne 6, 3) := by decide +kernel
theorem dX5_called_22 : decode cX5_called 22 = .ok (.bipush (-2), 2) := by decide +kernel
theorem dX5_called_24 : decode cX5_called 24 = .ok (.ireturn, 1) := by decide +kernel
theorem dX5_called_25 : decode cX5_called 25 = .ok (.aload_n 0, 1) := by decide +kernel
theorem dX5_called_26 : decode cX5_called 26 = .ok (.iload_n 1, 1) := by decide +kernel
theorem dX5_called_27 : decode cX5_called 27 = .ok (.iconst 0, 1) := by decide +kernel
theorem dX5_called_28 : decode cX5_called 28 = .ok (.invokevirtual 195, 3) := by decide +kernel
theorem dX5_called_31 : decode cX5_called 31 = .ok (.ireturn, 1) := by decide +kernel
set_option maxRecDepth 20000 in
theorem ggX5_mark_X0_has : GoodIn wsX5_mark wsX0_has := goodIn_r _ [7, 8, 45, 46, 47, 48, 49] (by decide +kernel) (by decide +kernel)
set_option maxRecDepth 20000 in
theorem gX5_mark_X0_has : GoodIn wsX5_mark (wsV RX5 81 RX0 yX0_has wsX0_has) := goodIn_app (goodIn_of _ (by decide +kernel)) ggX5_mark_X0_has
set_option maxRecDepth 20000 in
theorem ggX5_mark_X5_markBody : GoodIn wsX5_mark wsX5_markBody := goodIn_r _ [13, 14, 15, 1, 16, 9, 10, 11, 12, 17, 18, 19, 6, 20, 21, 22, 4, 5, 7, 8, 23, 24, 25, 26, 27, 28, 29, 30, 31, 32, 33, 34, 35, 36, 37, 38, 39, 40, 41, 42, 43, 44, 50, 51, 52, 53, 54, 55, 45, 46, 47, 48, 49] (by decide +kernel) (by decide +kernel)
set_option maxRecDepth 20000 in
theorem gX5_mark_X5_markBody : GoodIn wsX5_mark (wsV RX5 199 RX5 yX5_markBody wsX5_markBody) := goodIn_app (goodIn_of _ (by decide +kernel)) ggX5_mark_X5_markBody
theorem dX5_mark_0 : decode cX5_mark 0 = .ok (.iload_n 1, 1) := by decide +kernel
theorem dX5_mark_1 : decode cX5_mark 1 = .ok (.ifCond .lt 19, 3) := by decide +kernel
theorem dX5_mark_4 : decode cX5_mark 4 = .ok (.iload_n 1, 1) := by decide +kernel
theorem dX5_mark_5 : decode cX5_mark 5 = .ok (.iconst 5, 1) := by decide +kernel
theorem dX5_mark_6 : decode cX5_mark 6 = .ok (.if_icmp .gt 14, 3) := by decide +kernel
theorem dX5_mark_9 : decode cX5_mark 9 = .ok (.aload_n 0, 1) := by decide +kernel
theorem dX5_mark_10 : decode cX5_mark 10 = .ok (.getfield 19, 3) := by decide +kernel
theorem dX5_mark_13 : decode cX5_mark 13 = .ok (.iload_n 2, 1) := by decide +kernel
theorem dX5_mark_14 : decode cX5_mark 14 = .ok (.invokevirtual 81, 3) := by decide +kernel
theorem dX5_mark_17 : decode cX5_mark 17 = .ok (.ifCond .ne 6, 3) := by decide +kernel
theorem dX5_mark_20 : decode cX5_mark 20 = .ok (.ldc 198, 2) := by decide +kernel
theorem dX5_mark_22 : decode cX5_mark 22 = .ok (.ireturn, 1) := by decide +kernel
theorem dX5_mark_23 : decode cX5_mark 23 = .ok (.aload_n 0, 1) := by decide +kernel
theorem dX5_mark_24 : decode cX5_mark 24 = .ok (.iload_n 1, 1) := by decide +kernel
theorem dX5_mark_25 : decode cX5_mark 25 = .ok (.iload_n 2, 1) := by decide +kernel
theorem dX5_mark_26 : decode cX5_mark 26 = .ok (.invokevirtual 199, 3) := by decide +kernel
theorem dX5_mark_29 : decode cX5_mark 29 = .ok (.ireturn, 1) := by decide +kernel
set_option maxRecDepth 20000 in
theorem ggX5_keep_X1_become : GoodIn wsX5_keep wsX1_become := goodIn_r _ [10, 11, 12, 13, 14, 15, 16, 17, 18, 19, 20, 33, 34, 35, 36, 37, 38] (by decide +kernel) (by decide +kernel)
set_option maxRecDepth 20000 in
theorem gX5_keep_X1_become : GoodIn wsX5_keep (wsV RX5 202 RX1 yX1_become wsX1_become) := goodIn_app (goodIn_of _ (by decide +kernel)) ggX5_keep_X1_become
theorem dX5_keep_0 : decode cX5_keep 0 = .ok (.iload_n 1, 1) := by decide +kernel
theorem dX5_keep_1 : decode cX5_keep 1 = .ok (.ifCond .eq 10, 3) := by decide +kernel
theorem dX5_keep_4 : decode cX5_keep 4 = .ok (.iload_n 1, 1) := by decide +kernel
theorem dX5_keep_5 : decode cX5_keep 5 = .ok (.iconst 1, 1) := by decide +kernel
theorem dX5_keep_6 : decode cX5_keep 6 = .ok (.if_icmp .eq 5, 3) := by decide +kernel
theorem dX5_keep_9 : decode cX5_keep 9 = .ok (.iconst (-1), 1) := by decide +kernel
theorem dX5_keep_10 : decode cX5_keep 10 = .ok (.ireturn, 1) := by decide +kernel
theorem dX5_keep_11 : decode cX5_keep 11 = .ok (.iload_n 1, 1) := by decide +kernel
theorem dX5_keep_12 : decode cX5_keep 12 = .ok (.ifCond .ne 22, 3) := by decide +kernel
theorem dX5_keep_15 : decode cX5_keep 15 = .ok (.aload_n 0, 1) := by decide +kernel
theorem dX5_keep_16 : decode cX5_keep 16 = .ok (.getfield 33, 3) := by decide +kernel
theorem dX5_keep_19 : decode cX5_keep 19 = .ok (.aload_n 0, 1) := by decide +kernel
theorem dX5_keep_20 : decode cX5_keep 20 = .ok (.getfield 29, 3) := by decide +kernel
theorem dX5_keep_23 : decode cX5_keep 23 = .ok (.invokevirtual 202, 3) := by decide +kernel
theorem dX5_keep_26 : decode cX5_keep 26 = .ok (.aload_n 0, 1) := by decide +kernel
theorem dX5_keep_27 : decode cX5_keep 27 = .ok (.iconst 1, 1) := by decide +kernel
theorem dX5_keep_28 : decode cX5_keep 28 = .ok (.putfield 71, 3) := by decide +kernel
theorem dX5_keep_31 : decode cX5_keep 31 = .ok (.goto 19, 3) := by decide +kernel
theorem dX5_keep_34 : decode cX5_keep 34 = .ok (.aload_n 0, 1) := by decide +kernel
theorem dX5_keep_35 : decode cX5_keep 35 = .ok (.getfield 36, 3) := by decide +kernel
theorem dX5_keep_38 : decode cX5_keep 38 = .ok (.aload_n 0, 1) := by decide +kernel
theorem dX5_keep_39 : decode cX5_keep 39 = .ok (.getfield 29, 3) := by decide +kernel
theorem dX5_keep_42 : decode cX5_keep 42 = .ok (.invokevirtual 202, 3) := by decide +kernel
theorem dX5_keep_45 : decode cX5_keep 45 = .ok (.aload_n 0, 1) := by decide +kernel
theorem dX5_keep_46 : decode cX5_keep 46 = .ok (.iconst 1, 1) := by decide +kernel
theorem dX5_keep_47 : decode cX5_keep 47 = .ok (.putfield 75, 3) := by decide +kernel
theorem dX5_keep_50 : decode cX5_keep 50 = .ok (.aload_n 0, 1) := by decide +kernel
theorem dX5_keep_51 : decode cX5_keep 51 = .ok (.getfield 29, 3) := by decide +kernel
theorem dX5_keep_54 : decode cX5_keep 54 = .ok (.getfield 113, 3) := by decide +kernel
theorem dX5_keep_57 : decode cX5_keep 57 = .ok (.ireturn, 1) := by decide +kernel
set_option maxRecDepth 20000 in
theorem ggX5_back_X1_become : GoodIn wsX5_back wsX1_become := goodIn_r _ [10, 11, 12, 13, 14, 15, 16, 17, 18, 19, 20, 33, 34, 35, 36, 37, 38] (by decide +kernel) (by decide +kernel)
set_option maxRecDepth 20000 in
theorem gX5_back_X1_become : GoodIn wsX5_back (wsV RX5 202 RX1 yX1_become wsX1_become) := goodIn_app (goodIn_of _ (by decide +kernel)) ggX5_back_X1_become
theorem dX5_back_0 : decode cX5_back 0 = .ok (.iload_n 1, 1) := by decide +kernel
theorem dX5_back_1 : decode cX5_back 1 = .ok (.ifCond .eq 10, 3) := by decide +kernel
theorem dX5_back_4 : decode cX5_back 4 = .ok (.iload_n 1, 1) := by decide +kernel
theorem dX5_back_5 : decode cX5_back 5 = .ok (.iconst 1, 1) := by decide +kernel
theorem dX5_back_6 : decode cX5_back 6 = .ok (.if_icmp .eq 5, 3) := by decide +kernel
theorem dX5_back_9 : decode cX5_back 9 = .ok (.iconst (-1), 1) := by decide +kernel
theorem dX5_back_10 : decode cX5_back 10 = .ok (.ireturn, 1) := by decide +kernel
theorem dX5_back_11 : decode cX5_back 11 = .ok (.iload_n 1, 1) := by decide +kernel
theorem dX5_back_12 : decode cX5_back 12 = .ok (.ifCond .ne 13, 3) := by decide +kernel
theorem dX5_back_15 : decode cX5_back 15 = .ok (.aload_n 0, 1) := by decide +kernel
theorem dX5_back_16 : decode cX5_back 16 = .ok (.getfield 71, 3) := by decide +kernel
theorem dX5_back_19 : decode cX5_back 19 = .ok (.ifCond .ne 16, 3) := by decide +kernel
theorem dX5_back_22 : decode cX5_back 22 = .ok (.goto 10, 3) := by decide +kernel
theorem dX5_back_25 : decode cX5_back 25 = .ok (.aload_n 0, 1) := by decide +kernel
theorem dX5_back_26 : decode cX5_back 26 = .ok (.getfield 75, 3) := by decide +kernel
theorem dX5_back_29 : decode cX5_back 29 = .ok (.ifCond .ne 6, 3) := by decide +kernel
theorem dX5_back_32 : decode cX5_back 32 = .ok (.bipush (-2), 2) := by decide +kernel
theorem dX5_back_34 : decode cX5_back 34 = .ok (.ireturn, 1) := by decide +kernel
theorem dX5_back_35 : decode cX5_back 35 = .ok (.aload_n 0, 1) := by decide +kernel
theorem dX5_back_36 : decode cX5_back 36 = .ok (.getfield 29, 3) := by decide +kernel
theorem dX5_back_39 : decode cX5_back 39 = .ok (.iload_n 1, 1) := by decide +kernel
theorem dX5_back_40 : decode cX5_back 40 = .ok (.ifCond .ne 10, 3) := by decide +kernel
theorem dX5_back_43 : decode cX5_back 43 = .ok (.aload_n 0, 1) := by decide +kernel
theorem dX5_back_44 : decode cX5_back 44 = .ok (.getfield 33, 3) := by decide +kernel
theorem dX5_back_47 : decode cX5_back 47 = .ok (.goto 7, 3) := by decide +kernel
theorem dX5_back_50 : decode cX5_back 50 = .ok (.aload_n 0, 1) := by decide +kernel
theorem dX5_back_51 : decode cX5_back 51 = .ok (.getfield 36, 3) := by decide +kernel
theorem dX5_back_54 : decode cX5_back 54 = .ok (.invokevirtual 202, 3) := by decide +kernel
theorem dX5_back_57 : decode cX5_back 57 = .ok (.aload_n 0, 1) := by decide +kernel
theorem dX5_back_58 : decode cX5_back 58 = .ok (.getfield 29, 3) := by decide +kernel
theorem dX5_back_61 : decode cX5_back 61 = .ok (.getfield 113, 3) := by decide +kernel
theorem dX5_back_64 : decode cX5_back 64 = .ok (.ireturn, 1) := by decide +kernel
set_option maxRecDepth 20000 in
theorem ggX5_count_X0_landings : GoodIn wsX5_count wsX0_landings := goodIn_r _ [9, 10, 11, 12, 13, 8, 14, 15, 16, 17, 18, 19, 32, 33, 34, 35, 36] (by decide +kernel) (by decide +kernel)
set_option maxRecDepth 20000 in
theorem gX5_count_X0_landings : GoodIn wsX5_count (wsV RX5 206 RX0 yX0_landings wsX0_landings) := goodIn_app (goodIn_of _ (by decide +kernel)) ggX5_count_X0_landings
theorem dX5_count_0 : decode cX5_count 0 = .ok (.iload_n 1, 1) := by decide +kernel
theorem dX5_count_1 : decode cX5_count 1 = .ok (.tableswitch 75 0 4 #[35, 43, 51, 59, 67], 35) := by decide +kernel
theorem dX5_count_36 : decode cX5_count 36 = .ok (.aload_n 0, 1) := by decide +kernel
theorem dX5_count_37 : decode cX5_count 37 = .ok (.getfield 19, 3) := by decide +kernel
theorem dX5_count_40 : decode cX5_count 40 = .ok (.getfield 78, 3) := by decide +kernel
theorem dX5_count_43 : decode cX5_count 43 = .ok (.ireturn, 1) := by decide +kernel
theorem dX5_count_44 : decode cX5_count 44 = .ok (.aload_n 0, 1) := by decide +kernel
theorem dX5_count_45 : decode cX5_count 45 = .ok (.getfield 19, 3) := by decide +kernel
theorem dX5_count_48 : decode cX5_count 48 = .ok (.invokevirtual 206, 3) := by decide +kernel
theorem dX5_count_51 : decode cX5_count 51 = .ok (.ireturn, 1) := by decide +kernel
theorem dX5_count_52 : decode cX5_count 52 = .ok (.aload_n 0, 1) := by decide +kernel
theorem dX5_count_53 : decode cX5_count 53 = .ok (.getfield 42, 3) := by decide +kernel
theorem dX5_count_56 : decode cX5_count 56 = .ok (.getfield 68, 3) := by decide +kernel
theorem dX5_count_59 : decode cX5_count 59 = .ok (.ireturn, 1) := by decide +kernel
theorem dX5_count_60 : decode cX5_count 60 = .ok (.aload_n 0, 1) := by decide +kernel
theorem dX5_count_61 : decode cX5_count 61 = .ok (.getfield 29, 3) := by decide +kernel
theorem dX5_count_64 : decode cX5_count 64 = .ok (.getfield 129, 3) := by decide +kernel
theorem dX5_count_67 : decode cX5_count 67 = .ok (.ireturn, 1) := by decide +kernel
theorem dX5_count_68 : decode cX5_count 68 = .ok (.aload_n 0, 1) := by decide +kernel
theorem dX5_count_69 : decode cX5_count 69 = .ok (.getfield 10, 3) := by decide +kernel
theorem dX5_count_72 : decode cX5_count 72 = .ok (.getfield 53, 3) := by decide +kernel
theorem dX5_count_75 : decode cX5_count 75 = .ok (.ireturn, 1) := by decide +kernel
theorem dX5_count_76 : decode cX5_count 76 = .ok (.iconst (-1), 1) := by decide +kernel
theorem dX5_count_77 : decode cX5_count 77 = .ok (.ireturn, 1) := by decide +kernel
theorem dX5_trace_0 : decode cX5_trace 0 = .ok (.aload_n 0, 1) := by decide +kernel
theorem dX5_trace_1 : decode cX5_trace 1 = .ok (.getfield 209, 3) := by decide +kernel
theorem dX5_trace_4 : decode cX5_trace 4 = .ok (.lreturn, 1) := by decide +kernel
theorem dX5_isSize_0 : decode cX5_isSize 0 = .ok (.iload_n 0, 1) := by decide +kernel
theorem dX5_isSize_1 : decode cX5_isSize 1 = .ok (.ifCond .eq 8, 3) := by decide +kernel
theorem dX5_isSize_4 : decode cX5_isSize 4 = .ok (.iload_n 0, 1) := by decide +kernel
theorem dX5_isSize_5 : decode cX5_isSize 5 = .ok (.iconst 1, 1) := by decide +kernel
theorem dX5_isSize_6 : decode cX5_isSize 6 = .ok (.if_icmp .ne 7, 3) := by decide +kernel
theorem dX5_isSize_9 : decode cX5_isSize 9 = .ok (.iconst 1, 1) := by decide +kernel
theorem dX5_isSize_10 : decode cX5_isSize 10 = .ok (.goto 4, 3) := by decide +kernel
theorem dX5_isSize_13 : decode cX5_isSize 13 = .ok (.iconst 0, 1) := by decide +kernel
theorem dX5_isSize_14 : decode cX5_isSize 14 = .ok (.ireturn, 1) := by decide +kernel
theorem dX5_isRow_0 : decode cX5_isRow 0 = .ok (.iload_n 0, 1) := by decide +kernel
theorem dX5_isRow_1 : decode cX5_isRow 1 = .ok (.ifCond .lt 9, 3) := by decide +kernel
theorem dX5_isRow_4 : decode cX5_isRow 4 = .ok (.iload_n 0, 1) := by decide +kernel
theorem dX5_isRow_5 : decode cX5_isRow 5 = .ok (.ldc 213, 2) := by decide +kernel
theorem dX5_isRow_7 : decode cX5_isRow 7 = .ok (.if_icmp .le 5, 3) := by decide +kernel
theorem dX5_isRow_10 : decode cX5_isRow 10 = .ok (.iconst 0, 1) := by decide +kernel
theorem dX5_isRow_11 : decode cX5_isRow 11 = .ok (.ireturn, 1) := by decide +kernel
theorem dX5_isRow_12 : decode cX5_isRow 12 = .ok (.iload_n 0, 1) := by decide +kernel
theorem dX5_isRow_13 : decode cX5_isRow 13 = .ok (.istore_n 1, 1) := by decide +kernel
theorem dX5_isRow_14 : decode cX5_isRow 14 = .ok (.iconst 0, 1) := by decide +kernel
theorem dX5_isRow_15 : decode cX5_isRow 15 = .ok (.istore_n 2, 1) := by decide +kernel
theorem dX5_isRow_16 : decode cX5_isRow 16 = .ok (.iload_n 2, 1) := by decide +kernel
theorem dX5_isRow_17 : decode cX5_isRow 17 = .ok (.bipush 9, 2) := by decide +kernel
theorem dX5_isRow_19 : decode cX5_isRow 19 = .ok (.if_icmp .ge 35, 3) := by decide +kernel
theorem dX5_isRow_22 : decode cX5_isRow 22 = .ok (.iload_n 1, 1) := by decide +kernel
theorem dX5_isRow_23 : decode cX5_isRow 23 = .ok (.ifCond .le 31, 3) := by decide +kernel
theorem dX5_isRow_26 : decode cX5_isRow 26 = .ok (.iload_n 1, 1) := by decide +kernel
theorem dX5_isRow_27 : decode cX5_isRow 27 = .ok (.bipush 10, 2) := by decide +kernel
theorem dX5_isRow_29 : decode cX5_isRow 29 = .ok (.irem, 1) := by decide +kernel
theorem dX5_isRow_30 : decode cX5_isRow 30 = .ok (.istore_n 3, 1) := by decide +kernel
theorem dX5_isRow_31 : decode cX5_isRow 31 = .ok (.iload_n 3, 1) := by decide +kernel
theorem dX5_isRow_32 : decode cX5_isRow 32 = .ok (.iconst 1, 1) := by decide +kernel
theorem dX5_isRow_33 : decode cX5_isRow 33 = .ok (.if_icmp .eq 10, 3) := by decide +kernel
theorem dX5_isRow_36 : decode cX5_isRow 36 = .ok (.iload_n 3, 1) := by decide +kernel
theorem dX5_isRow_37 : decode cX5_isRow 37 = .ok (.iconst 2, 1) := by decide +kernel
theorem dX5_isRow_38 : decode cX5_isRow 38 = .ok (.if_icmp .eq 5, 3) := by decide +kernel
theorem dX5_isRow_41 : decode cX5_isRow 41 = .ok (.iconst 0, 1) := by decide +kernel
theorem dX5_isRow_42 : decode cX5_isRow 42 = .ok (.ireturn, 1) := by decide +kernel
theorem dX5_isRow_43 : decode cX5_isRow 43 = .ok (.iload_n 1, 1) := by decide +kernel
theorem dX5_isRow_44 : decode cX5_isRow 44 = .ok (.bipush 10, 2) := by decide +kernel
theorem dX5_isRow_46 : decode cX5_isRow 46 = .ok (.idiv, 1) := by decide +kernel
theorem dX5_isRow_47 : decode cX5_isRow 47 = .ok (.istore_n 1, 1) := by decide +kernel
theorem dX5_isRow_48 : decode cX5_isRow 48 = .ok (.iinc 2 1, 3) := by decide +kernel
theorem dX5_isRow_51 : decode cX5_isRow 51 = .ok (.goto (-35), 3) := by decide +kernel
theorem dX5_isRow_54 : decode cX5_isRow 54 = .ok (.iconst 1, 1) := by decide +kernel
theorem dX5_isRow_55 : decode cX5_isRow 55 = .ok (.ireturn, 1) := by decide +kernel
set_option maxRecDepth 20000 in
theorem ggX5_areLandings_X0_isLanding : GoodIn wsX5_areLandings wsX0_isLanding := goodIn_r _ [6, 7, 8, 9, 10, 5, 11, 12, 25, 26, 27, 28, 29] (by decide +kernel) (by decide +kernel)
set_option maxRecDepth 20000 in
theorem gX5_areLandings_X0_isLanding : GoodIn wsX5_areLandings (wsV RX5 171 RX0 yX0_isLanding wsX0_isLanding) := goodIn_app (goodIn_of _ (by decide +kernel)) ggX5_areLandings_X0_isLanding
theorem dX5_areLandings_0 : decode cX5_areLandings 0 = .ok (.iload_n 1, 1) := by decide +kernel
theorem dX5_areLandings_1 : decode cX5_areLandings 1 = .ok (.ifCond .lt 10, 3) := by decide +kernel
theorem dX5_areLandings_4 : decode cX5_areLandings 4 = .ok (.iload_n 1, 1) := by decide +kernel
theorem dX5_areLandings_5 : decode cX5_areLandings 5 = .ok (.sipush 9999, 3) := by decide +kernel
theorem dX5_areLandings_8 : decode cX5_areLandings 8 = .ok (.if_icmp .le 5, 3) := by decide +kernel
theorem dX5_areLandings_11 : decode cX5_areLandings 11 = .ok (.iconst 0, 1) := by decide +kernel
theorem dX5_areLandings_12 : decode cX5_areLandings 12 = .ok (.ireturn, 1) := by decide +kernel
theorem dX5_areLandings_13 : decode cX5_areLandings 13 = .ok (.iload_n 1, 1) := by decide +kernel
theorem dX5_areLandings_14 : decode cX5_areLandings 14 = .ok (.istore_n 2, 1) := by decide +kernel
theorem dX5_areLandings_15 : decode cX5_areLandings 15 = .ok (.iconst 0, 1) := by decide +kernel
theorem dX5_areLandings_16 : decode cX5_areLandings 16 = .ok (.istore_n 3, 1) := by decide +kernel
theorem dX5_areLandings_17 : decode cX5_areLandings 17 = .ok (.iload_n 3, 1) := by decide +kernel
theorem dX5_areLandings_18 : decode cX5_areLandings 18 = .ok (.bipush 10, 2) := by decide +kernel
theorem dX5_areLandings_20 : decode cX5_areLandings 20 = .ok (.if_icmp .ge 36, 3) := by decide +kernel
theorem dX5_areLandings_23 : decode cX5_areLandings 23 = .ok (.iload_n 2, 1) := by decide +kernel
theorem dX5_areLandings_24 : decode cX5_areLandings 24 = .ok (.ifCond .le 32, 3) := by decide +kernel
theorem dX5_areLandings_27 : decode cX5_areLandings 27 = .ok (.aload_n 0, 1) := by decide +kernel
theorem dX5_areLandings_28 : decode cX5_areLandings 28 = .ok (.getfield 19, 3) := by decide +kernel
theorem dX5_areLandings_31 : decode cX5_areLandings 31 = .ok (.iload_n 2, 1) := by decide +kernel
theorem dX5_areLandings_32 : decode cX5_areLandings 32 = .ok (.bipush 10, 2) := by decide +kernel
theorem dX5_areLandings_34 : decode cX5_areLandings 34 = .ok (.irem, 1) := by decide +kernel
theorem dX5_areLandings_35 : decode cX5_areLandings 35 = .ok (.iconst 1, 1) := by decide +kernel
theorem dX5_areLandings_36 : decode cX5_areLandings 36 = .ok (.isub, 1) := by decide +kernel
theorem dX5_areLandings_37 : decode cX5_areLandings 37 = .ok (.invokevirtual 171, 3) := by decide +kernel
theorem dX5_areLandings_40 : decode cX5_areLandings 40 = .ok (.ifCond .ne 5, 3) := by decide +kernel
theorem dX5_areLandings_43 : decode cX5_areLandings 43 = .ok (.iconst 0, 1) := by decide +kernel
theorem dX5_areLandings_44 : decode cX5_areLandings 44 = .ok (.ireturn, 1) := by decide +kernel
theorem dX5_areLandings_45 : decode cX5_areLandings 45 = .ok (.iload_n 2, 1) := by decide +kernel
theorem dX5_areLandings_46 : decode cX5_areLandings 46 = .ok (.bipush 10, 2) := by decide +kernel
theorem dX5_areLandings_48 : decode cX5_areLandings 48 = .ok (.idiv, 1) := by decide +kernel
theorem dX5_areLandings_49 : decode cX5_areLandings 49 = .ok (.istore_n 2, 1) := by decide +kernel
theorem dX5_areLandings_50 : decode cX5_areLandings 50 = .ok (.iinc 3 1, 3) := by decide +kernel
theorem dX5_areLandings_53 : decode cX5_areLandings 53 = .ok (.goto (-36), 3) := by decide +kernel
theorem dX5_areLandings_56 : decode cX5_areLandings 56 = .ok (.iconst 1, 1) := by decide +kernel
theorem dX5_areLandings_57 : decode cX5_areLandings 57 = .ok (.ireturn, 1) := by decide +kernel
theorem dX5_figures_0 : decode cX5_figures 0 = .ok (.iload_n 0, 1) := by decide +kernel
theorem dX5_figures_1 : decode cX5_figures 1 = .ok (.istore_n 1, 1) := by decide +kernel
theorem dX5_figures_2 : decode cX5_figures 2 = .ok (.iconst 0, 1) := by decide +kernel
theorem dX5_figures_3 : decode cX5_figures 3 = .ok (.istore_n 2, 1) := by decide +kernel
theorem dX5_figures_4 : decode cX5_figures 4 = .ok (.iconst 0, 1) := by decide +kernel
theorem dX5_figures_5 : decode cX5_figures 5 = .ok (.istore_n 3, 1) := by decide +kernel
theorem dX5_figures_6 : decode cX5_figures 6 = .ok (.iload_n 3, 1) := by decide +kernel
theorem dX5_figures_7 : decode cX5_figures 7 = .ok (.bipush 10, 2) := by decide +kernel
theorem dX5_figures_9 : decode cX5_figures 9 = .ok (.if_icmp .ge 21, 3) := by decide +kernel
theorem dX5_figures_12 : decode cX5_figures 12 = .ok (.iload_n 1, 1) := by decide +kernel
theorem dX5_figures_13 : decode cX5_figures 13 = .ok (.ifCond .le 17, 3) := by decide +kernel
theorem dX5_figures_16 : decode cX5_figures 16 = .ok (.iload_n 1, 1) := by decide +kernel
theorem dX5_figures_17 : decode cX5_figures 17 = .ok (.bipush 10, 2) := by decide +kernel
theorem dX5_figures_19 : decode cX5_figures 19 = .ok (.idiv, 1) := by decide +kernel
theorem dX5_figures_20 : decode cX5_figures 20 = .ok (.istore_n 1, 1) := by decide +kernel
theorem dX5_figures_21 : decode cX5_figures 21 = .ok (.iinc 2 1, 3) := by decide +kernel
theorem dX5_figures_24 : decode cX5_figures 24 = .ok (.iinc 3 1, 3) := by decide +kernel
theorem dX5_figures_27 : decode cX5_figures 27 = .ok (.goto (-21), 3) := by decide +kernel
theorem dX5_figures_30 : decode cX5_figures 30 = .ok (.iload_n 2, 1) := by decide +kernel
theorem dX5_figures_31 : decode cX5_figures 31 = .ok (.ireturn, 1) := by decide +kernel
theorem dX5_turned_0 : decode cX5_turned 0 = .ok (.iload_n 0, 1) := by decide +kernel
theorem dX5_turned_1 : decode cX5_turned 1 = .ok (.istore_n 1, 1) := by decide +kernel
theorem dX5_turned_2 : decode cX5_turned 2 = .ok (.iconst 0, 1) := by decide +kernel
theorem dX5_turned_3 : decode cX5_turned 3 = .ok (.istore_n 2, 1) := by decide +kernel
theorem dX5_turned_4 : decode cX5_turned 4 = .ok (.iconst 0, 1) := by decide +kernel
theorem dX5_turned_5 : decode cX5_turned 5 = .ok (.istore_n 3, 1) := by decide +kernel
theorem dX5_turned_6 : decode cX5_turned 6 = .ok (.iload_n 3, 1) := by decide +kernel
theorem dX5_turned_7 : decode cX5_turned 7 = .ok (.bipush 10, 2) := by decide +kernel
theorem dX5_turned_9 : decode cX5_turned 9 = .ok (.if_icmp .ge 28, 3) := by decide +kernel
theorem dX5_turned_12 : decode cX5_turned 12 = .ok (.iload_n 1, 1) := by decide +kernel
theorem dX5_turned_13 : decode cX5_turned 13 = .ok (.ifCond .le 24, 3) := by decide +kernel
theorem dX5_turned_16 : decode cX5_turned 16 = .ok (.iload_n 2, 1) := by decide +kernel
theorem dX5_turned_17 : decode cX5_turned 17 = .ok (.bipush 10, 2) := by decide +kernel
theorem dX5_turned_19 : decode cX5_turned 19 = .ok (.imul, 1) := by decide +kernel
theorem dX5_turned_20 : decode cX5_turned 20 = .ok (.iload_n 1, 1) := by decide +kernel
theorem dX5_turned_21 : decode cX5_turned 21 = .ok (.bipush 10, 2) := by decide +kernel
theorem dX5_turned_23 : decode cX5_turned 23 = .ok (.irem, 1) := by decide +kernel
theorem dX5_turned_24 : decode cX5_turned 24 = .ok (.iadd, 1) := by decide +kernel
theorem dX5_turned_25 : decode cX5_turned 25 = .ok (.istore_n 2, 1) := by decide +kernel
theorem dX5_turned_26 : decode cX5_turned 26 = .ok (.iload_n 1, 1) := by decide +kernel
theorem dX5_turned_27 : decode cX5_turned 27 = .ok (.bipush 10, 2) := by decide +kernel
theorem dX5_turned_29 : decode cX5_turned 29 = .ok (.idiv, 1) := by decide +kernel
theorem dX5_turned_30 : decode cX5_turned 30 = .ok (.istore_n 1, 1) := by decide +kernel
theorem dX5_turned_31 : decode cX5_turned 31 = .ok (.iinc 3 1, 3) := by decide +kernel
theorem dX5_turned_34 : decode cX5_turned 34 = .ok (.goto (-28), 3) := by decide +kernel
theorem dX5_turned_37 : decode cX5_turned 37 = .ok (.iload_n 2, 1) := by decide +kernel
theorem dX5_turned_38 : decode cX5_turned 38 = .ok (.ireturn, 1) := by decide +kernel
set_option maxRecDepth 20000 in
theorem ggX5_rowOf_X5_figures : GoodIn wsX5_rowOf wsX5_figures := goodIn_r _ [6] (by decide +kernel) (by decide +kernel)
set_option maxRecDepth 20000 in
theorem gX5_rowOf_X5_figures : GoodIn wsX5_rowOf (va_wsS RX5 145 yX5_figures wsX5_figures) := goodIn_app (goodIn_of _ (by decide +kernel)) ggX5_rowOf_X5_figures
set_option maxRecDepth 20000 in
theorem ggX5_rowOf_X0_fall : GoodIn wsX5_rowOf wsX0_fall := goodIn_r _ [11, 12, 13, 14, 15, 16, 17, 18, 19, 10, 20, 21, 22, 23, 24, 25, 26, 27, 28, 29, 30, 59, 60, 61, 62, 63] (by decide +kernel) (by decide +kernel)
set_option maxRecDepth 20000 in
theorem gX5_rowOf_X0_fall : GoodIn wsX5_rowOf (wsV RX5 119 RX0 yX0_fall wsX0_fall) := goodIn_app (goodIn_of _ (by decide +kernel)) ggX5_rowOf_X0_fall
set_option maxRecDepth 20000 in
theorem ggX5_rowOf_X2_comesOf : GoodIn wsX5_rowOf wsX2_comesOf := goodIn_r _ [33] (by decide +kernel) (by decide +kernel)
set_option maxRecDepth 20000 in
theorem gX5_rowOf_X2_comesOf : GoodIn wsX5_rowOf (va_wsS RX5 126 yX2_comesOf wsX2_comesOf) := goodIn_app (goodIn_of _ (by decide +kernel)) ggX5_rowOf_X2_comesOf
set_option maxRecDepth 20000 in
theorem ggX5_rowOf_X2_standingOf : GoodIn wsX5_rowOf wsX2_standingOf := goodIn_r _ [36, 37] (by decide +kernel) (by decide +kernel)
set_option maxRecDepth 20000 in
theorem gX5_rowOf_X2_standingOf : GoodIn wsX5_rowOf (va_wsS RX5 154 yX2_standingOf wsX2_standingOf) := goodIn_app (goodIn_of _ (by decide +kernel)) ggX5_rowOf_X2_standingOf
set_option maxRecDepth 20000 in
theorem ggX5_rowOf_X5_rowOf : GoodIn wsX5_rowOf wsX5_rowOf := goodIn_r _ [0, 1, 2, 3, 4, 5, 6, 7, 8, 9, 10, 11, 12, 13, 14, 15, 16, 17, 18, 19, 20, 21, 22, 23, 24, 25, 26, 27, 28, 29, 30, 31, 32, 33, 34, 35, 36, 37, 38, 39, 40, 41, 42, 43, 44, 45, 46, 47, 48, 49, 50, 51, 52, 53, 54, 55, 56, 57, 58, 59, 60, 61, 62, 63] (by decide +kernel) (by decide +kernel)
set_option maxRecDepth 20000 in
theorem gX5_rowOf_X5_rowOf : GoodIn wsX5_rowOf (wsV RX5 160 RX5 yX5_rowOf wsX5_rowOf) := goodIn_app (goodIn_of _ (by decide +kernel)) ggX5_rowOf_X5_rowOf
theorem dX5_rowOf_0 : decode cX5_rowOf 0 = .ok (.iload_n 1, 1) := by decide +kernel
theorem dX5_rowOf_1 : decode cX5_rowOf 1 = .ok (.ifCond .le 9, 3) := by decide +kernel
theorem dX5_rowOf_4 : decode cX5_rowOf 4 = .ok (.iload_n 1, 1) := by decide +kernel
theorem dX5_rowOf_5 : decode cX5_rowOf 5 = .ok (.bipush 9, 2) := by decide +kernel
theorem dX5_rowOf_7 : decode cX5_rowOf 7 = .ok (.if_icmp .le 15, 3) := by decide +kernel
theorem dX5_rowOf_10 : decode cX5_rowOf 10 = .ok (.iload_n 3, 1) := by decide +kernel
theorem dX5_rowOf_11 : decode cX5_rowOf 11 = .ok (.ifCond .ne 8, 3) := by decide +kernel
theorem dX5_rowOf_14 : decode cX5_rowOf 14 = .ok (.iload 4, 2) := by decide +kernel
theorem dX5_rowOf_16 : decode cX5_rowOf 16 = .ok (.goto 5, 3) := by decide +kernel
theorem dX5_rowOf_19 : decode cX5_rowOf 19 = .ok (.bipush (-9), 2) := by decide +kernel
theorem dX5_rowOf_21 : decode cX5_rowOf 21 = .ok (.ireturn, 1) := by decide +kernel
theorem dX5_rowOf_22 : decode cX5_rowOf 22 = .ok (.iload_n 3, 1) := by decide +kernel
theorem dX5_rowOf_23 : decode cX5_rowOf 23 = .ok (.ifCond .eq 11, 3) := by decide +kernel
theorem dX5_rowOf_26 : decode cX5_rowOf 26 = .ok (.iload_n 3, 1) := by decide +kernel
theorem dX5_rowOf_27 : decode cX5_rowOf 27 = .ok (.invokestatic 145, 3) := by decide +kernel
theorem dX5_rowOf_30 : decode cX5_rowOf 30 = .ok (.iload_n 1, 1) := by decide +kernel
theorem dX5_rowOf_31 : decode cX5_rowOf 31 = .ok (.if_icmp .le 6, 3) := by decide +kernel
theorem dX5_rowOf_34 : decode cX5_rowOf 34 = .ok (.bipush (-9), 2) := by decide +kernel
theorem dX5_rowOf_36 : decode cX5_rowOf 36 = .ok (.ireturn, 1) := by decide +kernel
theorem dX5_rowOf_37 : decode cX5_rowOf 37 = .ok (.iconst 0, 1) := by decide +kernel
theorem dX5_rowOf_38 : decode cX5_rowOf 38 = .ok (.istore 5, 2) := by decide +kernel
theorem dX5_rowOf_40 : decode cX5_rowOf 40 = .ok (.iload 5, 2) := by decide +kernel
theorem dX5_rowOf_42 : decode cX5_rowOf 42 = .ok (.iconst 1, 1) := by decide +kernel
theorem dX5_rowOf_43 : decode cX5_rowOf 43 = .ok (.if_icmp .gt 106, 3) := by decide +kernel
theorem dX5_rowOf_46 : decode cX5_rowOf 46 = .ok (.aload_n 0, 1) := by decide +kernel
theorem dX5_rowOf_47 : decode cX5_rowOf 47 = .ok (.getfield 19, 3) := by decide +kernel
theorem dX5_rowOf_50 : decode cX5_rowOf 50 = .ok (.iload_n 2, 1) := by decide +kernel
theorem dX5_rowOf_51 : decode cX5_rowOf 51 = .ok (.iload 5, 2) := by decide +kernel
theorem dX5_rowOf_53 : decode cX5_rowOf 53 = .ok (.aload_n 0, 1) := by decide +kernel
theorem dX5_rowOf_54 : decode cX5_rowOf 54 = .ok (.getfield 29, 3) := by decide +kernel
theorem dX5_rowOf_57 : decode cX5_rowOf 57 = .ok (.getfield 116, 3) := by decide +kernel
theorem dX5_rowOf_60 : decode cX5_rowOf 60 = .ok (.invokevirtual 119, 3) := by decide +kernel
theorem dX5_rowOf_63 : decode cX5_rowOf 63 = .ok (.istore 6, 2) := by decide +kernel
theorem dX5_rowOf_65 : decode cX5_rowOf 65 = .ok (.iload 6, 2) := by decide +kernel
theorem dX5_rowOf_67 : decode cX5_rowOf 67 = .ok (.invokestatic 126, 3) := by decide +kernel
theorem dX5_rowOf_70 : decode cX5_rowOf 70 = .ok (.istore 7, 2) := by decide +kernel
theorem dX5_rowOf_72 : decode cX5_rowOf 72 = .ok (.iload 7, 2) := by decide +kernel
theorem dX5_rowOf_74 : decode cX5_rowOf 74 = .ok (.bipush (-9), 2) := by decide +kernel
