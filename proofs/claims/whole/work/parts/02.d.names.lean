set_option maxRecDepth 20000 in
theorem ggX1_takeBack_X2_standingOf : GoodIn wsX1_takeBack wsX2_standingOf := goodIn_r _ [17, 18] (by decide +kernel) (by decide +kernel)
set_option maxRecDepth 20000 in
theorem gX1_takeBack_X2_standingOf : GoodIn wsX1_takeBack (va_wsS RX1 57 yX2_standingOf wsX2_standingOf) := goodIn_app (goodIn_of _ (by decide +kernel)) ggX1_takeBack_X2_standingOf
theorem dX1_takeBack_0 : decode cX1_takeBack 0 = .ok (.aload_n 0, 1) := by decide +kernel
theorem dX1_takeBack_1 : decode cX1_takeBack 1 = .ok (.getfield 28, 3) := by decide +kernel
theorem dX1_takeBack_4 : decode cX1_takeBack 4 = .ok (.iconst 1, 1) := by decide +kernel
theorem dX1_takeBack_5 : decode cX1_takeBack 5 = .ok (.if_icmp .lt 12, 3) := by decide +kernel
theorem dX1_takeBack_8 : decode cX1_takeBack 8 = .ok (.aload_n 0, 1) := by decide +kernel
theorem dX1_takeBack_9 : decode cX1_takeBack 9 = .ok (.getfield 28, 3) := by decide +kernel
theorem dX1_takeBack_12 : decode cX1_takeBack 12 = .ok (.bipush 20, 2) := by decide +kernel
theorem dX1_takeBack_14 : decode cX1_takeBack 14 = .ok (.if_icmp .le 4, 3) := by decide +kernel
theorem dX1_takeBack_17 : decode cX1_takeBack 17 = .ok (.return_, 1) := by decide +kernel
theorem dX1_takeBack_18 : decode cX1_takeBack 18 = .ok (.aload_n 0, 1) := by decide +kernel
theorem dX1_takeBack_19 : decode cX1_takeBack 19 = .ok (.dup, 1) := by decide +kernel
theorem dX1_takeBack_20 : decode cX1_takeBack 20 = .ok (.getfield 28, 3) := by decide +kernel
theorem dX1_takeBack_23 : decode cX1_takeBack 23 = .ok (.iconst 1, 1) := by decide +kernel
theorem dX1_takeBack_24 : decode cX1_takeBack 24 = .ok (.isub, 1) := by decide +kernel
theorem dX1_takeBack_25 : decode cX1_takeBack 25 = .ok (.putfield 28, 3) := by decide +kernel
theorem dX1_takeBack_28 : decode cX1_takeBack 28 = .ok (.aload_n 0, 1) := by decide +kernel
theorem dX1_takeBack_29 : decode cX1_takeBack 29 = .ok (.getfield 19, 3) := by decide +kernel
theorem dX1_takeBack_32 : decode cX1_takeBack 32 = .ok (.aload_n 0, 1) := by decide +kernel
theorem dX1_takeBack_33 : decode cX1_takeBack 33 = .ok (.getfield 28, 3) := by decide +kernel
theorem dX1_takeBack_36 : decode cX1_takeBack 36 = .ok (.iaload, 1) := by decide +kernel
theorem dX1_takeBack_37 : decode cX1_takeBack 37 = .ok (.istore_n 1, 1) := by decide +kernel
theorem dX1_takeBack_38 : decode cX1_takeBack 38 = .ok (.aload_n 0, 1) := by decide +kernel
theorem dX1_takeBack_39 : decode cX1_takeBack 39 = .ok (.iload_n 1, 1) := by decide +kernel
theorem dX1_takeBack_40 : decode cX1_takeBack 40 = .ok (.invokestatic 43, 3) := by decide +kernel
theorem dX1_takeBack_43 : decode cX1_takeBack 43 = .ok (.iconst (-1), 1) := by decide +kernel
theorem dX1_takeBack_44 : decode cX1_takeBack 44 = .ok (.invokevirtual 53, 3) := by decide +kernel
theorem dX1_takeBack_47 : decode cX1_takeBack 47 = .ok (.aload_n 0, 1) := by decide +kernel
theorem dX1_takeBack_48 : decode cX1_takeBack 48 = .ok (.iload_n 1, 1) := by decide +kernel
theorem dX1_takeBack_49 : decode cX1_takeBack 49 = .ok (.invokestatic 57, 3) := by decide +kernel
theorem dX1_takeBack_52 : decode cX1_takeBack 52 = .ok (.putfield 22, 3) := by decide +kernel
theorem dX1_takeBack_55 : decode cX1_takeBack 55 = .ok (.aload_n 0, 1) := by decide +kernel
theorem dX1_takeBack_56 : decode cX1_takeBack 56 = .ok (.dup, 1) := by decide +kernel
theorem dX1_takeBack_57 : decode cX1_takeBack 57 = .ok (.getfield 25, 3) := by decide +kernel
theorem dX1_takeBack_60 : decode cX1_takeBack 60 = .ok (.iconst 1, 1) := by decide +kernel
theorem dX1_takeBack_61 : decode cX1_takeBack 61 = .ok (.isub, 1) := by decide +kernel
theorem dX1_takeBack_62 : decode cX1_takeBack 62 = .ok (.putfield 25, 3) := by decide +kernel
theorem dX1_takeBack_65 : decode cX1_takeBack 65 = .ok (.return_, 1) := by decide +kernel
theorem dX1_changeAt_0 : decode cX1_changeAt 0 = .ok (.iload_n 1, 1) := by decide +kernel
theorem dX1_changeAt_1 : decode cX1_changeAt 1 = .ok (.ifCond .lt 19, 3) := by decide +kernel
theorem dX1_changeAt_4 : decode cX1_changeAt 4 = .ok (.iload_n 1, 1) := by decide +kernel
theorem dX1_changeAt_5 : decode cX1_changeAt 5 = .ok (.bipush 9, 2) := by decide +kernel
theorem dX1_changeAt_7 : decode cX1_changeAt 7 = .ok (.if_icmp .ge 13, 3) := by decide +kernel
theorem dX1_changeAt_10 : decode cX1_changeAt 10 = .ok (.aload_n 0, 1) := by decide +kernel
theorem dX1_changeAt_11 : decode cX1_changeAt 11 = .ok (.getfield 15, 3) := by decide +kernel
theorem dX1_changeAt_14 : decode cX1_changeAt 14 = .ok (.iload_n 1, 1) := by decide +kernel
theorem dX1_changeAt_15 : decode cX1_changeAt 15 = .ok (.dup2, 1) := by decide +kernel
theorem dX1_changeAt_16 : decode cX1_changeAt 16 = .ok (.iaload, 1) := by decide +kernel
theorem dX1_changeAt_17 : decode cX1_changeAt 17 = .ok (.iload_n 2, 1) := by decide +kernel
theorem dX1_changeAt_18 : decode cX1_changeAt 18 = .ok (.iadd, 1) := by decide +kernel
theorem dX1_changeAt_19 : decode cX1_changeAt 19 = .ok (.iastore, 1) := by decide +kernel
theorem dX1_changeAt_20 : decode cX1_changeAt 20 = .ok (.return_, 1) := by decide +kernel
theorem dX1_atPart_0 : decode cX1_atPart 0 = .ok (.iload_n 1, 1) := by decide +kernel
theorem dX1_atPart_1 : decode cX1_atPart 1 = .ok (.ifCond .lt 18, 3) := by decide +kernel
theorem dX1_atPart_4 : decode cX1_atPart 4 = .ok (.iload_n 1, 1) := by decide +kernel
theorem dX1_atPart_5 : decode cX1_atPart 5 = .ok (.bipush 9, 2) := by decide +kernel
theorem dX1_atPart_7 : decode cX1_atPart 7 = .ok (.if_icmp .ge 12, 3) := by decide +kernel
theorem dX1_atPart_10 : decode cX1_atPart 10 = .ok (.aload_n 0, 1) := by decide +kernel
theorem dX1_atPart_11 : decode cX1_atPart 11 = .ok (.getfield 15, 3) := by decide +kernel
theorem dX1_atPart_14 : decode cX1_atPart 14 = .ok (.iload_n 1, 1) := by decide +kernel
theorem dX1_atPart_15 : decode cX1_atPart 15 = .ok (.iaload, 1) := by decide +kernel
theorem dX1_atPart_16 : decode cX1_atPart 16 = .ok (.goto 4, 3) := by decide +kernel
theorem dX1_atPart_19 : decode cX1_atPart 19 = .ok (.iconst 0, 1) := by decide +kernel
theorem dX1_atPart_20 : decode cX1_atPart 20 = .ok (.ireturn, 1) := by decide +kernel
theorem dX1_atAll_0 : decode cX1_atAll 0 = .ok (.iconst 0, 1) := by decide +kernel
theorem dX1_atAll_1 : decode cX1_atAll 1 = .ok (.istore_n 1, 1) := by decide +kernel
theorem dX1_atAll_2 : decode cX1_atAll 2 = .ok (.iconst 0, 1) := by decide +kernel
theorem dX1_atAll_3 : decode cX1_atAll 3 = .ok (.istore_n 2, 1) := by decide +kernel
theorem dX1_atAll_4 : decode cX1_atAll 4 = .ok (.iload_n 2, 1) := by decide +kernel
theorem dX1_atAll_5 : decode cX1_atAll 5 = .ok (.bipush 9, 2) := by decide +kernel
theorem dX1_atAll_7 : decode cX1_atAll 7 = .ok (.if_icmp .ge 18, 3) := by decide +kernel
theorem dX1_atAll_10 : decode cX1_atAll 10 = .ok (.iload_n 1, 1) := by decide +kernel
theorem dX1_atAll_11 : decode cX1_atAll 11 = .ok (.aload_n 0, 1) := by decide +kernel
theorem dX1_atAll_12 : decode cX1_atAll 12 = .ok (.getfield 15, 3) := by decide +kernel
theorem dX1_atAll_15 : decode cX1_atAll 15 = .ok (.iload_n 2, 1) := by decide +kernel
theorem dX1_atAll_16 : decode cX1_atAll 16 = .ok (.iaload, 1) := by decide +kernel
theorem dX1_atAll_17 : decode cX1_atAll 17 = .ok (.iadd, 1) := by decide +kernel
theorem dX1_atAll_18 : decode cX1_atAll 18 = .ok (.istore_n 1, 1) := by decide +kernel
theorem dX1_atAll_19 : decode cX1_atAll 19 = .ok (.iinc 2 1, 3) := by decide +kernel
theorem dX1_atAll_22 : decode cX1_atAll 22 = .ok (.goto (-18), 3) := by decide +kernel
theorem dX1_atAll_25 : decode cX1_atAll 25 = .ok (.iload_n 1, 1) := by decide +kernel
theorem dX1_atAll_26 : decode cX1_atAll 26 = .ok (.ireturn, 1) := by decide +kernel
theorem dX2_standAt_0 : decode cX2_standAt 0 = .ok (.iload_n 0, 1) := by decide +kernel
theorem dX2_standAt_1 : decode cX2_standAt 1 = .ok (.iconst 3, 1) := by decide +kernel
theorem dX2_standAt_2 : decode cX2_standAt 2 = .ok (.iload_n 1, 1) := by decide +kernel
theorem dX2_standAt_3 : decode cX2_standAt 3 = .ok (.imul, 1) := by decide +kernel
theorem dX2_standAt_4 : decode cX2_standAt 4 = .ok (.iushr, 1) := by decide +kernel
theorem dX2_standAt_5 : decode cX2_standAt 5 = .ok (.bipush 7, 2) := by decide +kernel
theorem dX2_standAt_7 : decode cX2_standAt 7 = .ok (.iand, 1) := by decide +kernel
theorem dX2_standAt_8 : decode cX2_standAt 8 = .ok (.ireturn, 1) := by decide +kernel
theorem dX2_withStand_0 : decode cX2_withStand 0 = .ok (.iconst 3, 1) := by decide +kernel
theorem dX2_withStand_1 : decode cX2_withStand 1 = .ok (.iload_n 1, 1) := by decide +kernel
theorem dX2_withStand_2 : decode cX2_withStand 2 = .ok (.imul, 1) := by decide +kernel
theorem dX2_withStand_3 : decode cX2_withStand 3 = .ok (.istore_n 3, 1) := by decide +kernel
theorem dX2_withStand_4 : decode cX2_withStand 4 = .ok (.iload_n 0, 1) := by decide +kernel
theorem dX2_withStand_5 : decode cX2_withStand 5 = .ok (.bipush 7, 2) := by decide +kernel
theorem dX2_withStand_7 : decode cX2_withStand 7 = .ok (.iload_n 3, 1) := by decide +kernel
theorem dX2_withStand_8 : decode cX2_withStand 8 = .ok (.ishl, 1) := by decide +kernel
theorem dX2_withStand_9 : decode cX2_withStand 9 = .ok (.iconst (-1), 1) := by decide +kernel
theorem dX2_withStand_10 : decode cX2_withStand 10 = .ok (.ixor, 1) := by decide +kernel
theorem dX2_withStand_11 : decode cX2_withStand 11 = .ok (.iand, 1) := by decide +kernel
theorem dX2_withStand_12 : decode cX2_withStand 12 = .ok (.iload_n 2, 1) := by decide +kernel
theorem dX2_withStand_13 : decode cX2_withStand 13 = .ok (.iload_n 3, 1) := by decide +kernel
theorem dX2_withStand_14 : decode cX2_withStand 14 = .ok (.ishl, 1) := by decide +kernel
theorem dX2_withStand_15 : decode cX2_withStand 15 = .ok (.ior, 1) := by decide +kernel
theorem dX2_withStand_16 : decode cX2_withStand 16 = .ok (.ireturn, 1) := by decide +kernel
theorem dX2_outcome_0 : decode cX2_outcome 0 = .ok (.iload_n 1, 1) := by decide +kernel
theorem dX2_outcome_1 : decode cX2_outcome 1 = .ok (.ifCond .lt 9, 3) := by decide +kernel
theorem dX2_outcome_4 : decode cX2_outcome 4 = .ok (.iload_n 1, 1) := by decide +kernel
theorem dX2_outcome_5 : decode cX2_outcome 5 = .ok (.iconst 1, 1) := by decide +kernel
theorem dX2_outcome_6 : decode cX2_outcome 6 = .ok (.iadd, 1) := by decide +kernel
theorem dX2_outcome_7 : decode cX2_outcome 7 = .ok (.goto 4, 3) := by decide +kernel
theorem dX2_outcome_10 : decode cX2_outcome 10 = .ok (.iconst 0, 1) := by decide +kernel
theorem dX2_outcome_11 : decode cX2_outcome 11 = .ok (.istore_n 2, 1) := by decide +kernel
theorem dX2_outcome_12 : decode cX2_outcome 12 = .ok (.iload_n 0, 1) := by decide +kernel
theorem dX2_outcome_13 : decode cX2_outcome 13 = .ok (.iload_n 2, 1) := by decide +kernel
theorem dX2_outcome_14 : decode cX2_outcome 14 = .ok (.bipush 27, 2) := by decide +kernel
theorem dX2_outcome_16 : decode cX2_outcome 16 = .ok (.ishl, 1) := by decide +kernel
theorem dX2_outcome_17 : decode cX2_outcome 17 = .ok (.ior, 1) := by decide +kernel
theorem dX2_outcome_18 : decode cX2_outcome 18 = .ok (.ireturn, 1) := by decide +kernel
theorem dX2_standingOf_0 : decode cX2_standingOf 0 = .ok (.iload_n 0, 1) := by decide +kernel
theorem dX2_standingOf_1 : decode cX2_standingOf 1 = .ok (.ldc 11, 2) := by decide +kernel
theorem dX2_standingOf_3 : decode cX2_standingOf 3 = .ok (.iand, 1) := by decide +kernel
theorem dX2_standingOf_4 : decode cX2_standingOf 4 = .ok (.ireturn, 1) := by decide +kernel
theorem dX2_comesOf_0 : decode cX2_comesOf 0 = .ok (.iload_n 0, 1) := by decide +kernel
theorem dX2_comesOf_1 : decode cX2_comesOf 1 = .ok (.bipush 27, 2) := by decide +kernel
theorem dX2_comesOf_3 : decode cX2_comesOf 3 = .ok (.iushr, 1) := by decide +kernel
theorem dX2_comesOf_4 : decode cX2_comesOf 4 = .ok (.istore_n 1, 1) := by decide +kernel
theorem dX2_comesOf_5 : decode cX2_comesOf 5 = .ok (.iload_n 1, 1) := by decide +kernel
theorem dX2_comesOf_6 : decode cX2_comesOf 6 = .ok (.ifCond .ne 8, 3) := by decide +kernel
theorem dX2_comesOf_9 : decode cX2_comesOf 9 = .ok (.bipush (-9), 2) := by decide +kernel
theorem dX2_comesOf_11 : decode cX2_comesOf 11 = .ok (.goto 6, 3) := by decide +kernel
theorem dX2_comesOf_14 : decode cX2_comesOf 14 = .ok (.iload_n 1, 1) := by decide +kernel
theorem dX2_comesOf_15 : decode cX2_comesOf 15 = .ok (.iconst 1, 1) := by decide +kernel
theorem dX2_comesOf_16 : decode cX2_comesOf 16 = .ok (.isub, 1) := by decide +kernel
theorem dX2_comesOf_17 : decode cX2_comesOf 17 = .ok (.ireturn, 1) := by decide +kernel
theorem dX3_init_0 : decode cX3_init 0 = .ok (.aload_n 0, 1) := by decide +kernel
theorem dX3_init_1 : decode cX3_init 1 = .ok (.invokespecial 3, 3) := by decide +kernel
theorem dX3_init_4 : decode cX3_init 4 = .ok (.aload_n 0, 1) := by decide +kernel
theorem dX3_init_5 : decode cX3_init 5 = .ok (.sipush 200, 3) := by decide +kernel
theorem dX3_init_8 : decode cX3_init 8 = .ok (.newarray .int, 2) := by decide +kernel
theorem dX3_init_10 : decode cX3_init 10 = .ok (.putfield 9, 3) := by decide +kernel
theorem dX3_init_13 : decode cX3_init 13 = .ok (.return_, 1) := by decide +kernel
theorem dX3_append_0 : decode cX3_append 0 = .ok (.aload_n 0, 1) := by decide +kernel
theorem dX3_append_1 : decode cX3_append 1 = .ok (.getfield 15, 3) := by decide +kernel
theorem dX3_append_4 : decode cX3_append 4 = .ok (.ifCond .lt 33, 3) := by decide +kernel
theorem dX3_append_7 : decode cX3_append 7 = .ok (.aload_n 0, 1) := by decide +kernel
theorem dX3_append_8 : decode cX3_append 8 = .ok (.getfield 15, 3) := by decide +kernel
theorem dX3_append_11 : decode cX3_append 11 = .ok (.sipush 200, 3) := by decide +kernel
theorem dX3_append_14 : decode cX3_append 14 = .ok (.if_icmp .ge 23, 3) := by decide +kernel
theorem dX3_append_17 : decode cX3_append 17 = .ok (.aload_n 0, 1) := by decide +kernel
theorem dX3_append_18 : decode cX3_append 18 = .ok (.getfield 9, 3) := by decide +kernel
theorem dX3_append_21 : decode cX3_append 21 = .ok (.aload_n 0, 1) := by decide +kernel
theorem dX3_append_22 : decode cX3_append 22 = .ok (.getfield 15, 3) := by decide +kernel
theorem dX3_append_25 : decode cX3_append 25 = .ok (.iload_n 1, 1) := by decide +kernel
theorem dX3_append_26 : decode cX3_append 26 = .ok (.iastore, 1) := by decide +kernel
theorem dX3_append_27 : decode cX3_append 27 = .ok (.aload_n 0, 1) := by decide +kernel
theorem dX3_append_28 : decode cX3_append 28 = .ok (.dup, 1) := by decide +kernel
theorem dX3_append_29 : decode cX3_append 29 = .ok (.getfield 15, 3) := by decide +kernel
theorem dX3_append_32 : decode cX3_append 32 = .ok (.iconst 1, 1) := by decide +kernel
theorem dX3_append_33 : decode cX3_append 33 = .ok (.iadd, 1) := by decide +kernel
theorem dX3_append_34 : decode cX3_append 34 = .ok (.putfield 15, 3) := by decide +kernel
theorem dX3_append_37 : decode cX3_append 37 = .ok (.return_, 1) := by decide +kernel
set_option maxRecDepth 20000 in
theorem ggX3_readInto_X3_nextToken : GoodIn wsX3_readInto wsX3_nextToken := goodIn_r _ [8, 1, 9, 10, 11, 3, 12, 13, 14, 7, 15, 16, 17, 18, 19, 20, 21, 22, 23, 24, 25, 26, 27, 28, 29, 30, 31, 32, 33, 34, 35, 36, 37, 38, 39, 40, 41, 42, 43, 44, 45, 46, 47, 48, 49, 50, 51, 52, 53, 54, 55, 56, 57, 58, 59, 60, 61, 62, 63, 64, 65, 66, 67, 68, 69, 70, 71, 72, 73, 74, 75, 76, 77, 78, 79, 80, 81, 82, 83, 111, 112, 113, 114, 115, 116, 117] (by decide +kernel) (by decide +kernel)
set_option maxRecDepth 20000 in
theorem gX3_readInto_X3_nextToken : GoodIn wsX3_readInto (wsV RX3 30 RX3 yX3_nextToken wsX3_nextToken) := goodIn_app (goodIn_of _ (by decide +kernel)) ggX3_readInto_X3_nextToken
set_option maxRecDepth 20000 in
theorem ggX3_readInto_X3_readItem : GoodIn wsX3_readInto wsX3_readItem := goodIn_r _ [87, 3, 10, 2, 11, 88, 89, 90, 7, 91, 4, 5, 6, 8, 1, 9, 12, 13, 14, 15, 16, 17, 18, 19, 20, 21, 22, 23, 24, 25, 26, 27, 28, 29, 30, 31, 32, 33, 34, 35, 36, 37, 38, 39, 40, 41, 42, 43, 44, 45, 46, 47, 48, 49, 50, 51, 52, 53, 54, 55, 56, 57, 58, 59, 60, 61, 62, 63, 64, 65, 66, 67, 68, 69, 70, 71, 72, 73, 74, 75, 76, 77, 78, 79, 80, 81, 82, 83, 92, 93, 94, 95, 96, 97, 98, 99, 100, 101, 102, 103, 104, 105, 111, 112, 113, 114, 115, 116, 117, 106, 107, 108, 109, 110] (by decide +kernel) (by decide +kernel)
set_option maxRecDepth 20000 in
theorem gX3_readInto_X3_readItem : GoodIn wsX3_readInto (wsV RX3 36 RX3 yX3_readItem wsX3_readItem) := goodIn_app (goodIn_of _ (by decide +kernel)) ggX3_readInto_X3_readItem
theorem dX3_readInto_0 : decode cX3_readInto 0 = .ok (.aload_n 1, 1) := by decide +kernel
theorem dX3_readInto_1 : decode cX3_readInto 1 = .ok (.ifnonnull 5, 3) := by decide +kernel
theorem dX3_readInto_4 : decode cX3_readInto 4 = .ok (.iconst 0, 1) := by decide +kernel
theorem dX3_readInto_5 : decode cX3_readInto 5 = .ok (.ireturn, 1) := by decide +kernel
theorem dX3_readInto_6 : decode cX3_readInto 6 = .ok (.aload_n 1, 1) := by decide +kernel
theorem dX3_readInto_7 : decode cX3_readInto 7 = .ok (.iconst 0, 1) := by decide +kernel
theorem dX3_readInto_8 : decode cX3_readInto 8 = .ok (.putfield 19, 3) := by decide +kernel
theorem dX3_readInto_11 : decode cX3_readInto 11 = .ok (.aload_n 0, 1) := by decide +kernel
theorem dX3_readInto_12 : decode cX3_readInto 12 = .ok (.iconst 0, 1) := by decide +kernel
theorem dX3_readInto_13 : decode cX3_readInto 13 = .ok (.putfield 24, 3) := by decide +kernel
theorem dX3_readInto_16 : decode cX3_readInto 16 = .ok (.aload_n 0, 1) := by decide +kernel
theorem dX3_readInto_17 : decode cX3_readInto 17 = .ok (.iconst (-1), 1) := by decide +kernel
theorem dX3_readInto_18 : decode cX3_readInto 18 = .ok (.putfield 27, 3) := by decide +kernel
theorem dX3_readInto_21 : decode cX3_readInto 21 = .ok (.iconst 0, 1) := by decide +kernel
theorem dX3_readInto_22 : decode cX3_readInto 22 = .ok (.istore_n 2, 1) := by decide +kernel
theorem dX3_readInto_23 : decode cX3_readInto 23 = .ok (.iload_n 2, 1) := by decide +kernel
theorem dX3_readInto_24 : decode cX3_readInto 24 = .ok (.bipush 9, 2) := by decide +kernel
theorem dX3_readInto_26 : decode cX3_readInto 26 = .ok (.if_icmp .gt 35, 3) := by decide +kernel
theorem dX3_readInto_29 : decode cX3_readInto 29 = .ok (.aload_n 0, 1) := by decide +kernel
theorem dX3_readInto_30 : decode cX3_readInto 30 = .ok (.getfield 27, 3) := by decide +kernel
theorem dX3_readInto_33 : decode cX3_readInto 33 = .ok (.iconst (-1), 1) := by decide +kernel
theorem dX3_readInto_34 : decode cX3_readInto 34 = .ok (.if_icmp .ne 27, 3) := by decide +kernel
theorem dX3_readInto_37 : decode cX3_readInto 37 = .ok (.aload_n 0, 1) := by decide +kernel
theorem dX3_readInto_38 : decode cX3_readInto 38 = .ok (.invokevirtual 30, 3) := by decide +kernel
theorem dX3_readInto_41 : decode cX3_readInto 41 = .ok (.aload_n 0, 1) := by decide +kernel
theorem dX3_readInto_42 : decode cX3_readInto 42 = .ok (.getfield 33, 3) := by decide +kernel
theorem dX3_readInto_45 : decode cX3_readInto 45 = .ok (.ifCond .ne 5, 3) := by decide +kernel
theorem dX3_readInto_48 : decode cX3_readInto 48 = .ok (.iconst (-1), 1) := by decide +kernel
theorem dX3_readInto_49 : decode cX3_readInto 49 = .ok (.ireturn, 1) := by decide +kernel
theorem dX3_readInto_50 : decode cX3_readInto 50 = .ok (.aload_n 0, 1) := by decide +kernel
theorem dX3_readInto_51 : decode cX3_readInto 51 = .ok (.aload_n 1, 1) := by decide +kernel
theorem dX3_readInto_52 : decode cX3_readInto 52 = .ok (.invokevirtual 36, 3) := by decide +kernel
theorem dX3_readInto_55 : decode cX3_readInto 55 = .ok (.iinc 2 1, 3) := by decide +kernel
theorem dX3_readInto_58 : decode cX3_readInto 58 = .ok (.goto (-35), 3) := by decide +kernel
theorem dX3_readInto_61 : decode cX3_readInto 61 = .ok (.aload_n 0, 1) := by decide +kernel
theorem dX3_readInto_62 : decode cX3_readInto 62 = .ok (.getfield 27, 3) := by decide +kernel
theorem dX3_readInto_65 : decode cX3_readInto 65 = .ok (.ireturn, 1) := by decide +kernel
set_option maxRecDepth 20000 in
theorem ggX3_readItem_X3_takeNumber : GoodIn wsX3_readItem wsX3_takeNumber := goodIn_r _ [9, 3, 1, 4, 2, 10, 11, 12, 8, 13, 14, 15, 16, 17, 18, 19, 20, 21, 22, 23, 24, 25, 26, 27, 28, 29, 30, 31, 32, 33, 34, 35, 36, 37, 38, 39, 40, 41, 42, 43, 44, 45, 46, 47, 48, 49, 50, 51, 52, 53, 54, 55, 56, 57, 58, 59, 60, 61, 62, 63, 64, 65, 66, 67, 68, 69, 70, 71, 72, 73, 74, 75, 76, 77, 78, 79, 80, 81, 82, 83, 84, 85, 86, 87, 102, 103, 104, 105, 106, 107, 108] (by decide +kernel) (by decide +kernel)
set_option maxRecDepth 20000 in
theorem gX3_readItem_X3_takeNumber : GoodIn wsX3_readItem (wsV RX3 46 RX3 yX3_takeNumber wsX3_takeNumber) := goodIn_app (goodIn_of _ (by decide +kernel)) ggX3_readItem_X3_takeNumber
set_option maxRecDepth 20000 in
theorem ggX3_readItem_X3_takeItemEnd : GoodIn wsX3_readItem wsX3_takeItemEnd := goodIn_r _ [91, 3, 1, 2, 10, 11, 12, 8, 13, 14, 15, 4, 16, 17, 18, 19, 20, 21, 22, 23, 24, 25, 26, 27, 28, 29, 30, 31, 32, 33, 34, 35, 36, 37, 38, 39, 40, 41, 42, 43, 44, 45, 46, 47, 48, 49, 50, 51, 52, 53, 54, 55, 56, 57, 58, 59, 60, 61, 62, 63, 64, 65, 66, 67, 68, 69, 70, 71, 72, 73, 74, 75, 76, 77, 78, 79, 80, 81, 82, 83, 84, 85, 86, 87, 102, 103, 104, 105, 106, 107, 108] (by decide +kernel) (by decide +kernel)
set_option maxRecDepth 20000 in
theorem gX3_readItem_X3_takeItemEnd : GoodIn wsX3_readItem (wsV RX3 50 RX3 yX3_takeItemEnd wsX3_takeItemEnd) := goodIn_app (goodIn_of _ (by decide +kernel)) ggX3_readItem_X3_takeItemEnd
set_option maxRecDepth 20000 in
theorem ggX3_readItem_X0_append : GoodIn wsX3_readItem wsX0_append := goodIn_r _ [96, 97, 98, 99, 100, 101, 109, 110, 111, 112, 113] (by decide +kernel) (by decide +kernel)
set_option maxRecDepth 20000 in
theorem gX3_readItem_X0_append : GoodIn wsX3_readItem (wsV RX3 53 RX0 yX0_append wsX0_append) := goodIn_app (goodIn_of _ (by decide +kernel)) ggX3_readItem_X0_append
theorem dX3_readItem_0 : decode cX3_readItem 0 = .ok (.aload_n 0, 1) := by decide +kernel
theorem dX3_readItem_1 : decode cX3_readItem 1 = .ok (.getfield 33, 3) := by decide +kernel
theorem dX3_readItem_4 : decode cX3_readItem 4 = .ok (.iconst 1, 1) := by decide +kernel
theorem dX3_readItem_5 : decode cX3_readItem 5 = .ok (.if_icmp .ne 12, 3) := by decide +kernel
theorem dX3_readItem_8 : decode cX3_readItem 8 = .ok (.aload_n 1, 1) := by decide +kernel
theorem dX3_readItem_9 : decode cX3_readItem 9 = .ok (.getfield 19, 3) := by decide +kernel
theorem dX3_readItem_12 : decode cX3_readItem 12 = .ok (.bipush 9, 2) := by decide +kernel
theorem dX3_readItem_14 : decode cX3_readItem 14 = .ok (.if_icmp .lt 12, 3) := by decide +kernel
theorem dX3_readItem_17 : decode cX3_readItem 17 = .ok (.aload_n 0, 1) := by decide +kernel
theorem dX3_readItem_18 : decode cX3_readItem 18 = .ok (.aload_n 0, 1) := by decide +kernel
theorem dX3_readItem_19 : decode cX3_readItem 19 = .ok (.getfield 40, 3) := by decide +kernel
theorem dX3_readItem_22 : decode cX3_readItem 22 = .ok (.putfield 27, 3) := by decide +kernel
theorem dX3_readItem_25 : decode cX3_readItem 25 = .ok (.return_, 1) := by decide +kernel
theorem dX3_readItem_26 : decode cX3_readItem 26 = .ok (.aload_n 0, 1) := by decide +kernel
theorem dX3_readItem_27 : decode cX3_readItem 27 = .ok (.getfield 43, 3) := by decide +kernel
theorem dX3_readItem_30 : decode cX3_readItem 30 = .ok (.istore_n 2, 1) := by decide +kernel
theorem dX3_readItem_31 : decode cX3_readItem 31 = .ok (.bipush (-9), 2) := by decide +kernel
theorem dX3_readItem_33 : decode cX3_readItem 33 = .ok (.istore_n 3, 1) := by decide +kernel
theorem dX3_readItem_34 : decode cX3_readItem 34 = .ok (.bipush (-9), 2) := by decide +kernel
theorem dX3_readItem_36 : decode cX3_readItem 36 = .ok (.istore 4, 2) := by decide +kernel
theorem dX3_readItem_38 : decode cX3_readItem 38 = .ok (.iconst 0, 1) := by decide +kernel
theorem dX3_readItem_39 : decode cX3_readItem 39 = .ok (.istore 5, 2) := by decide +kernel
theorem dX3_readItem_41 : decode cX3_readItem 41 = .ok (.iload_n 2, 1) := by decide +kernel
theorem dX3_readItem_42 : decode cX3_readItem 42 = .ok (.ifCond .eq 15, 3) := by decide +kernel
theorem dX3_readItem_45 : decode cX3_readItem 45 = .ok (.aload_n 0, 1) := by decide +kernel
theorem dX3_readItem_46 : decode cX3_readItem 46 = .ok (.iconst 0, 1) := by decide +kernel
theorem dX3_readItem_47 : decode cX3_readItem 47 = .ok (.aload_n 1, 1) := by decide +kernel
theorem dX3_readItem_48 : decode cX3_readItem 48 = .ok (.getfield 19, 3) := by decide +kernel
theorem dX3_readItem_51 : decode cX3_readItem 51 = .ok (.iconst 1, 1) := by decide +kernel
theorem dX3_readItem_52 : decode cX3_readItem 52 = .ok (.isub, 1) := by decide +kernel
theorem dX3_readItem_53 : decode cX3_readItem 53 = .ok (.invokevirtual 46, 3) := by decide +kernel
theorem dX3_readItem_56 : decode cX3_readItem 56 = .ok (.istore_n 3, 1) := by decide +kernel
theorem dX3_readItem_57 : decode cX3_readItem 57 = .ok (.iload_n 2, 1) := by decide +kernel
theorem dX3_readItem_58 : decode cX3_readItem 58 = .ok (.iconst 1, 1) := by decide +kernel
theorem dX3_readItem_59 : decode cX3_readItem 59 = .ok (.if_icmp .eq 8, 3) := by decide +kernel
theorem dX3_readItem_62 : decode cX3_readItem 62 = .ok (.iload_n 2, 1) := by decide +kernel
theorem dX3_readItem_63 : decode cX3_readItem 63 = .ok (.iconst 2, 1) := by decide +kernel
theorem dX3_readItem_64 : decode cX3_readItem 64 = .ok (.if_icmp .ne 16, 3) := by decide +kernel
theorem dX3_readItem_67 : decode cX3_readItem 67 = .ok (.aload_n 0, 1) := by decide +kernel
theorem dX3_readItem_68 : decode cX3_readItem 68 = .ok (.iconst 0, 1) := by decide +kernel
theorem dX3_readItem_69 : decode cX3_readItem 69 = .ok (.aload_n 1, 1) := by decide +kernel
theorem dX3_readItem_70 : decode cX3_readItem 70 = .ok (.getfield 19, 3) := by decide +kernel
theorem dX3_readItem_73 : decode cX3_readItem 73 = .ok (.iconst 1, 1) := by decide +kernel
theorem dX3_readItem_74 : decode cX3_readItem 74 = .ok (.isub, 1) := by decide +kernel
theorem dX3_readItem_75 : decode cX3_readItem 75 = .ok (.invokevirtual 46, 3) := by decide +kernel
theorem dX3_readItem_78 : decode cX3_readItem 78 = .ok (.istore 4, 2) := by decide +kernel
theorem dX3_readItem_80 : decode cX3_readItem 80 = .ok (.iload_n 2, 1) := by decide +kernel
theorem dX3_readItem_81 : decode cX3_readItem 81 = .ok (.iconst 1, 1) := by decide +kernel
theorem dX3_readItem_82 : decode cX3_readItem 82 = .ok (.if_icmp .ne 14, 3) := by decide +kernel
theorem dX3_readItem_85 : decode cX3_readItem 85 = .ok (.aload_n 0, 1) := by decide +kernel
theorem dX3_readItem_86 : decode cX3_readItem 86 = .ok (.iconst 1, 1) := by decide +kernel
theorem dX3_readItem_87 : decode cX3_readItem 87 = .ok (.iconst 3, 1) := by decide +kernel
theorem dX3_readItem_88 : decode cX3_readItem 88 = .ok (.invokevirtual 46, 3) := by decide +kernel
theorem dX3_readItem_91 : decode cX3_readItem 91 = .ok (.istore 5, 2) := by decide +kernel
theorem dX3_readItem_93 : decode cX3_readItem 93 = .ok (.goto 16, 3) := by decide +kernel
theorem dX3_readItem_96 : decode cX3_readItem 96 = .ok (.iload_n 2, 1) := by decide +kernel
theorem dX3_readItem_97 : decode cX3_readItem 97 = .ok (.iconst 3, 1) := by decide +kernel
theorem dX3_readItem_98 : decode cX3_readItem 98 = .ok (.if_icmp .ne 11, 3) := by decide +kernel
theorem dX3_readItem_101 : decode cX3_readItem 101 = .ok (.aload_n 0, 1) := by decide +kernel
theorem dX3_readItem_102 : decode cX3_readItem 102 = .ok (.iconst 2, 1) := by decide +kernel
theorem dX3_readItem_103 : decode cX3_readItem 103 = .ok (.iconst 4, 1) := by decide +kernel
theorem dX3_readItem_104 : decode cX3_readItem 104 = .ok (.invokevirtual 46, 3) := by decide +kernel
theorem dX3_readItem_107 : decode cX3_readItem 107 = .ok (.istore 5, 2) := by decide +kernel
theorem dX3_readItem_109 : decode cX3_readItem 109 = .ok (.aload_n 0, 1) := by decide +kernel
theorem dX3_readItem_110 : decode cX3_readItem 110 = .ok (.invokevirtual 50, 3) := by decide +kernel
theorem dX3_readItem_113 : decode cX3_readItem 113 = .ok (.aload_n 0, 1) := by decide +kernel
theorem dX3_readItem_114 : decode cX3_readItem 114 = .ok (.getfield 27, 3) := by decide +kernel
theorem dX3_readItem_117 : decode cX3_readItem 117 = .ok (.iconst (-1), 1) := by decide +kernel
theorem dX3_readItem_118 : decode cX3_readItem 118 = .ok (.if_icmp .ne 13, 3) := by decide +kernel
theorem dX3_readItem_121 : decode cX3_readItem 121 = .ok (.aload_n 1, 1) := by decide +kernel
theorem dX3_readItem_122 : decode cX3_readItem 122 = .ok (.iload_n 2, 1) := by decide +kernel
theorem dX3_readItem_123 : decode cX3_readItem 123 = .ok (.iload_n 3, 1) := by decide +kernel
theorem dX3_readItem_124 : decode cX3_readItem 124 = .ok (.iload 4, 2) := by decide +kernel
theorem dX3_readItem_126 : decode cX3_readItem 126 = .ok (.iload 5, 2) := by decide +kernel
theorem dX3_readItem_128 : decode cX3_readItem 128 = .ok (.invokevirtual 53, 3) := by decide +kernel
theorem dX3_readItem_131 : decode cX3_readItem 131 = .ok (.return_, 1) := by decide +kernel
set_option maxRecDepth 20000 in
theorem ggX3_takeNumber_X3_nextToken : GoodIn wsX3_takeNumber wsX3_nextToken := goodIn_r _ [9, 10, 11, 4, 3, 2, 12, 13, 14, 8, 15, 16, 17, 18, 19, 20, 21, 22, 23, 24, 25, 26, 27, 28, 29, 30, 31, 32, 33, 34, 35, 36, 37, 38, 39, 40, 41, 42, 43, 44, 45, 46, 47, 48, 49, 50, 51, 52, 53, 54, 55, 56, 57, 58, 59, 60, 61, 62, 63, 64, 65, 66, 67, 68, 69, 70, 71, 72, 73, 74, 75, 76, 77, 78, 79, 80, 81, 82, 83, 84, 85, 86, 87, 88, 89, 90] (by decide +kernel) (by decide +kernel)
set_option maxRecDepth 20000 in
theorem gX3_takeNumber_X3_nextToken : GoodIn wsX3_takeNumber (wsV RX3 30 RX3 yX3_nextToken wsX3_nextToken) := goodIn_app (goodIn_of _ (by decide +kernel)) ggX3_takeNumber_X3_nextToken
theorem dX3_takeNumber_0 : decode cX3_takeNumber 0 = .ok (.aload_n 0, 1) := by decide +kernel
theorem dX3_takeNumber_1 : decode cX3_takeNumber 1 = .ok (.getfield 27, 3) := by decide +kernel
theorem dX3_takeNumber_4 : decode cX3_takeNumber 4 = .ok (.iconst (-1), 1) := by decide +kernel
theorem dX3_takeNumber_5 : decode cX3_takeNumber 5 = .ok (.if_icmp .eq 5, 3) := by decide +kernel
theorem dX3_takeNumber_8 : decode cX3_takeNumber 8 = .ok (.iconst 0, 1) := by decide +kernel
theorem dX3_takeNumber_9 : decode cX3_takeNumber 9 = .ok (.ireturn, 1) := by decide +kernel
theorem dX3_takeNumber_10 : decode cX3_takeNumber 10 = .ok (.aload_n 0, 1) := by decide +kernel
theorem dX3_takeNumber_11 : decode cX3_takeNumber 11 = .ok (.invokevirtual 30, 3) := by decide +kernel
theorem dX3_takeNumber_14 : decode cX3_takeNumber 14 = .ok (.aload_n 0, 1) := by decide +kernel
theorem dX3_takeNumber_15 : decode cX3_takeNumber 15 = .ok (.getfield 33, 3) := by decide +kernel
theorem dX3_takeNumber_18 : decode cX3_takeNumber 18 = .ok (.iconst 2, 1) := by decide +kernel
theorem dX3_takeNumber_19 : decode cX3_takeNumber 19 = .ok (.if_icmp .ne 19, 3) := by decide +kernel
theorem dX3_takeNumber_22 : decode cX3_takeNumber 22 = .ok (.aload_n 0, 1) := by decide +kernel
theorem dX3_takeNumber_23 : decode cX3_takeNumber 23 = .ok (.getfield 43, 3) := by decide +kernel
theorem dX3_takeNumber_26 : decode cX3_takeNumber 26 = .ok (.iload_n 1, 1) := by decide +kernel
theorem dX3_takeNumber_27 : decode cX3_takeNumber 27 = .ok (.if_icmp .lt 11, 3) := by decide +kernel
theorem dX3_takeNumber_30 : decode cX3_takeNumber 30 = .ok (.aload_n 0, 1) := by decide +kernel
theorem dX3_takeNumber_31 : decode cX3_takeNumber 31 = .ok (.getfield 43, 3) := by decide +kernel
theorem dX3_takeNumber_34 : decode cX3_takeNumber 34 = .ok (.iload_n 2, 1) := by decide +kernel
theorem dX3_takeNumber_35 : decode cX3_takeNumber 35 = .ok (.if_icmp .le 11, 3) := by decide +kernel
theorem dX3_takeNumber_38 : decode cX3_takeNumber 38 = .ok (.aload_n 0, 1) := by decide +kernel
theorem dX3_takeNumber_39 : decode cX3_takeNumber 39 = .ok (.aload_n 0, 1) := by decide +kernel
theorem dX3_takeNumber_40 : decode cX3_takeNumber 40 = .ok (.getfield 40, 3) := by decide +kernel
theorem dX3_takeNumber_43 : decode cX3_takeNumber 43 = .ok (.putfield 27, 3) := by decide +kernel
theorem dX3_takeNumber_46 : decode cX3_takeNumber 46 = .ok (.aload_n 0, 1) := by decide +kernel
theorem dX3_takeNumber_47 : decode cX3_takeNumber 47 = .ok (.getfield 43, 3) := by decide +kernel
theorem dX3_takeNumber_50 : decode cX3_takeNumber 50 = .ok (.ireturn, 1) := by decide +kernel
set_option maxRecDepth 20000 in
theorem ggX3_takeItemEnd_X3_nextToken : GoodIn wsX3_takeItemEnd wsX3_nextToken := goodIn_r _ [8, 9, 10, 3, 11, 2, 12, 13, 14, 7, 15, 16, 17, 18, 19, 20, 21, 22, 23, 24, 25, 26, 27, 28, 29, 30, 31, 32, 33, 34, 35, 36, 37, 38, 39, 40, 41, 42, 43, 44, 45, 46, 47, 48, 49, 50, 51, 52, 53, 54, 55, 56, 57, 58, 59, 60, 61, 62, 63, 64, 65, 66, 67, 68, 69, 70, 71, 72, 73, 74, 75, 76, 77, 78, 79, 80, 81, 82, 83, 84, 85, 86, 87, 88, 89, 90] (by decide +kernel) (by decide +kernel)
set_option maxRecDepth 20000 in
theorem gX3_takeItemEnd_X3_nextToken : GoodIn wsX3_takeItemEnd (wsV RX3 30 RX3 yX3_nextToken wsX3_nextToken) := goodIn_app (goodIn_of _ (by decide +kernel)) ggX3_takeItemEnd_X3_nextToken
theorem dX3_takeItemEnd_0 : decode cX3_takeItemEnd 0 = .ok (.aload_n 0, 1) := by decide +kernel
theorem dX3_takeItemEnd_1 : decode cX3_takeItemEnd 1 = .ok (.getfield 27, 3) := by decide +kernel
theorem dX3_takeItemEnd_4 : decode cX3_takeItemEnd 4 = .ok (.iconst (-1), 1) := by decide +kernel
theorem dX3_takeItemEnd_5 : decode cX3_takeItemEnd 5 = .ok (.if_icmp .eq 4, 3) := by decide +kernel
theorem dX3_takeItemEnd_8 : decode cX3_takeItemEnd 8 = .ok (.return_, 1) := by decide +kernel
theorem dX3_takeItemEnd_9 : decode cX3_takeItemEnd 9 = .ok (.aload_n 0, 1) := by decide +kernel
theorem dX3_takeItemEnd_10 : decode cX3_takeItemEnd 10 = .ok (.invokevirtual 30, 3) := by decide +kernel
theorem dX3_takeItemEnd_13 : decode cX3_takeItemEnd 13 = .ok (.aload_n 0, 1) := by decide +kernel
theorem dX3_takeItemEnd_14 : decode cX3_takeItemEnd 14 = .ok (.getfield 33, 3) := by decide +kernel
theorem dX3_takeItemEnd_17 : decode cX3_takeItemEnd 17 = .ok (.iconst 3, 1) := by decide +kernel
theorem dX3_takeItemEnd_18 : decode cX3_takeItemEnd 18 = .ok (.if_icmp .eq 11, 3) := by decide +kernel
theorem dX3_takeItemEnd_21 : decode cX3_takeItemEnd 21 = .ok (.aload_n 0, 1) := by decide +kernel
theorem dX3_takeItemEnd_22 : decode cX3_takeItemEnd 22 = .ok (.aload_n 0, 1) := by decide +kernel
theorem dX3_takeItemEnd_23 : decode cX3_takeItemEnd 23 = .ok (.getfield 40, 3) := by decide +kernel
theorem dX3_takeItemEnd_26 : decode cX3_takeItemEnd 26 = .ok (.putfield 27, 3) := by decide +kernel
theorem dX3_takeItemEnd_29 : decode cX3_takeItemEnd 29 = .ok (.return_, 1) := by decide +kernel
set_option maxRecDepth 20000 in
theorem ggX3_nextToken_X3_signAt : GoodIn wsX3_nextToken wsX3_signAt := goodIn_r _ [10, 2, 11, 79, 80, 81, 82, 83, 84, 85] (by decide +kernel) (by decide +kernel)
set_option maxRecDepth 20000 in
theorem gX3_nextToken_X3_signAt : GoodIn wsX3_nextToken (wsV RX3 57 RX3 yX3_signAt wsX3_signAt) := goodIn_app (goodIn_of _ (by decide +kernel)) ggX3_nextToken_X3_signAt
set_option maxRecDepth 20000 in
theorem ggX3_nextToken_X3_isLetter : GoodIn wsX3_nextToken wsX3_isLetter := goodIn_r _ [14] (by decide +kernel) (by decide +kernel)
set_option maxRecDepth 20000 in
theorem gX3_nextToken_X3_isLetter : GoodIn wsX3_nextToken (va_wsS RX3 61 yX3_isLetter wsX3_isLetter) := goodIn_app (goodIn_of _ (by decide +kernel)) ggX3_nextToken_X3_isLetter
set_option maxRecDepth 20000 in
theorem ggX3_nextToken_X3_readWord : GoodIn wsX3_nextToken wsX3_readWord := goodIn_r _ [18, 1, 2, 5, 4, 6, 7, 8, 9, 10, 11, 12, 13, 14, 19, 20, 21, 22, 3, 23, 24, 25, 26, 27, 28, 29, 30, 31, 32, 33, 34, 35, 36, 37, 38, 39, 40, 41, 42, 43, 44, 45, 46, 47, 48, 49, 50, 51, 52, 53, 54, 55, 56, 57, 58, 59, 60, 61, 62, 63, 64, 65, 66, 67, 68, 69, 70, 71, 79, 80, 81, 82, 83, 84, 85] (by decide +kernel) (by decide +kernel)
set_option maxRecDepth 20000 in
theorem gX3_nextToken_X3_readWord : GoodIn wsX3_nextToken (wsV RX3 65 RX3 yX3_readWord wsX3_readWord) := goodIn_app (goodIn_of _ (by decide +kernel)) ggX3_nextToken_X3_readWord
set_option maxRecDepth 20000 in
theorem ggX3_nextToken_X3_isDigit : GoodIn wsX3_nextToken wsX3_isDigit := goodIn_r _ [74] (by decide +kernel) (by decide +kernel)
set_option maxRecDepth 20000 in
theorem gX3_nextToken_X3_isDigit : GoodIn wsX3_nextToken (va_wsS RX3 68 yX3_isDigit wsX3_isDigit) := goodIn_app (goodIn_of _ (by decide +kernel)) ggX3_nextToken_X3_isDigit
set_option maxRecDepth 20000 in
theorem ggX3_nextToken_X3_readNumber : GoodIn wsX3_nextToken wsX3_readNumber := goodIn_r _ [78, 1, 2, 3, 4, 5, 6, 7, 8, 9, 10, 11, 72, 73, 74, 79, 80, 81, 82, 83, 84, 85] (by decide +kernel) (by decide +kernel)
set_option maxRecDepth 20000 in
theorem gX3_nextToken_X3_readNumber : GoodIn wsX3_nextToken (wsV RX3 71 RX3 yX3_readNumber wsX3_readNumber) := goodIn_app (goodIn_of _ (by decide +kernel)) ggX3_nextToken_X3_readNumber
theorem dX3_nextToken_0 : decode cX3_nextToken 0 = .ok (.aload_n 0, 1) := by decide +kernel
theorem dX3_nextToken_1 : decode cX3_nextToken 1 = .ok (.getfield 24, 3) := by decide +kernel
theorem dX3_nextToken_4 : decode cX3_nextToken 4 = .ok (.aload_n 0, 1) := by decide +kernel
theorem dX3_nextToken_5 : decode cX3_nextToken 5 = .ok (.getfield 15, 3) := by decide +kernel
theorem dX3_nextToken_8 : decode cX3_nextToken 8 = .ok (.if_icmp .ge 29, 3) := by decide +kernel
theorem dX3_nextToken_11 : decode cX3_nextToken 11 = .ok (.aload_n 0, 1) := by decide +kernel
theorem dX3_nextToken_12 : decode cX3_nextToken 12 = .ok (.aload_n 0, 1) := by decide +kernel
theorem dX3_nextToken_13 : decode cX3_nextToken 13 = .ok (.getfield 24, 3) := by decide +kernel
theorem dX3_nextToken_16 : decode cX3_nextToken 16 = .ok (.invokevirtual 57, 3) := by decide +kernel
theorem dX3_nextToken_19 : decode cX3_nextToken 19 = .ok (.bipush 32, 2) := by decide +kernel
theorem dX3_nextToken_21 : decode cX3_nextToken 21 = .ok (.if_icmp .ne 16, 3) := by decide +kernel
theorem dX3_nextToken_24 : decode cX3_nextToken 24 = .ok (.aload_n 0, 1) := by decide +kernel
theorem dX3_nextToken_25 : decode cX3_nextToken 25 = .ok (.dup, 1) := by decide +kernel
theorem dX3_nextToken_26 : decode cX3_nextToken 26 = .ok (.getfield 24, 3) := by decide +kernel
theorem dX3_nextToken_29 : decode cX3_nextToken 29 = .ok (.iconst 1, 1) := by decide +kernel
theorem dX3_nextToken_30 : decode cX3_nextToken 30 = .ok (.iadd, 1) := by decide +kernel
theorem dX3_nextToken_31 : decode cX3_nextToken 31 = .ok (.putfield 24, 3) := by decide +kernel
theorem dX3_nextToken_34 : decode cX3_nextToken 34 = .ok (.goto (-34), 3) := by decide +kernel
theorem dX3_nextToken_37 : decode cX3_nextToken 37 = .ok (.aload_n 0, 1) := by decide +kernel
theorem dX3_nextToken_38 : decode cX3_nextToken 38 = .ok (.aload_n 0, 1) := by decide +kernel
theorem dX3_nextToken_39 : decode cX3_nextToken 39 = .ok (.getfield 24, 3) := by decide +kernel
theorem dX3_nextToken_42 : decode cX3_nextToken 42 = .ok (.putfield 40, 3) := by decide +kernel
theorem dX3_nextToken_45 : decode cX3_nextToken 45 = .ok (.aload_n 0, 1) := by decide +kernel
theorem dX3_nextToken_46 : decode cX3_nextToken 46 = .ok (.iconst 0, 1) := by decide +kernel
theorem dX3_nextToken_47 : decode cX3_nextToken 47 = .ok (.putfield 43, 3) := by decide +kernel
theorem dX3_nextToken_50 : decode cX3_nextToken 50 = .ok (.aload_n 0, 1) := by decide +kernel
theorem dX3_nextToken_51 : decode cX3_nextToken 51 = .ok (.aload_n 0, 1) := by decide +kernel
theorem dX3_nextToken_52 : decode cX3_nextToken 52 = .ok (.getfield 24, 3) := by decide +kernel
theorem dX3_nextToken_55 : decode cX3_nextToken 55 = .ok (.invokevirtual 57, 3) := by decide +kernel
theorem dX3_nextToken_58 : decode cX3_nextToken 58 = .ok (.istore_n 1, 1) := by decide +kernel
theorem dX3_nextToken_59 : decode cX3_nextToken 59 = .ok (.aload_n 0, 1) := by decide +kernel
theorem dX3_nextToken_60 : decode cX3_nextToken 60 = .ok (.getfield 24, 3) := by decide +kernel
theorem dX3_nextToken_63 : decode cX3_nextToken 63 = .ok (.aload_n 0, 1) := by decide +kernel
theorem dX3_nextToken_64 : decode cX3_nextToken 64 = .ok (.getfield 15, 3) := by decide +kernel
theorem dX3_nextToken_67 : decode cX3_nextToken 67 = .ok (.if_icmp .lt 11, 3) := by decide +kernel
theorem dX3_nextToken_70 : decode cX3_nextToken 70 = .ok (.aload_n 0, 1) := by decide +kernel
theorem dX3_nextToken_71 : decode cX3_nextToken 71 = .ok (.iconst 0, 1) := by decide +kernel
theorem dX3_nextToken_72 : decode cX3_nextToken 72 = .ok (.putfield 33, 3) := by decide +kernel
theorem dX3_nextToken_75 : decode cX3_nextToken 75 = .ok (.goto 60, 3) := by decide +kernel
theorem dX3_nextToken_78 : decode cX3_nextToken 78 = .ok (.iload_n 1, 1) := by decide +kernel
theorem dX3_nextToken_79 : decode cX3_nextToken 79 = .ok (.bipush 59, 2) := by decide +kernel
theorem dX3_nextToken_81 : decode cX3_nextToken 81 = .ok (.if_icmp .ne 21, 3) := by decide +kernel
theorem dX3_nextToken_84 : decode cX3_nextToken 84 = .ok (.aload_n 0, 1) := by decide +kernel
theorem dX3_nextToken_85 : decode cX3_nextToken 85 = .ok (.iconst 3, 1) := by decide +kernel
theorem dX3_nextToken_86 : decode cX3_nextToken 86 = .ok (.putfield 33, 3) := by decide +kernel
theorem dX3_nextToken_89 : decode cX3_nextToken 89 = .ok (.aload_n 0, 1) := by decide +kernel
theorem dX3_nextToken_90 : decode cX3_nextToken 90 = .ok (.dup, 1) := by decide +kernel
theorem dX3_nextToken_91 : decode cX3_nextToken 91 = .ok (.getfield 24, 3) := by decide +kernel
theorem dX3_nextToken_94 : decode cX3_nextToken 94 = .ok (.iconst 1, 1) := by decide +kernel
theorem dX3_nextToken_95 : decode cX3_nextToken 95 = .ok (.iadd, 1) := by decide +kernel
theorem dX3_nextToken_96 : decode cX3_nextToken 96 = .ok (.putfield 24, 3) := by decide +kernel
theorem dX3_nextToken_99 : decode cX3_nextToken 99 = .ok (.goto 36, 3) := by decide +kernel
theorem dX3_nextToken_102 : decode cX3_nextToken 102 = .ok (.iload_n 1, 1) := by decide +kernel
theorem dX3_nextToken_103 : decode cX3_nextToken 103 = .ok (.invokestatic 61, 3) := by decide +kernel
theorem dX3_nextToken_106 : decode cX3_nextToken 106 = .ok (.ifCond .eq 10, 3) := by decide +kernel
theorem dX3_nextToken_109 : decode cX3_nextToken 109 = .ok (.aload_n 0, 1) := by decide +kernel
theorem dX3_nextToken_110 : decode cX3_nextToken 110 = .ok (.invokevirtual 65, 3) := by decide +kernel
theorem dX3_nextToken_113 : decode cX3_nextToken 113 = .ok (.goto 22, 3) := by decide +kernel
theorem dX3_nextToken_116 : decode cX3_nextToken 116 = .ok (.iload_n 1, 1) := by decide +kernel
theorem dX3_nextToken_117 : decode cX3_nextToken 117 = .ok (.invokestatic 68, 3) := by decide +kernel
theorem dX3_nextToken_120 : decode cX3_nextToken 120 = .ok (.ifCond .eq 10, 3) := by decide +kernel
theorem dX3_nextToken_123 : decode cX3_nextToken 123 = .ok (.aload_n 0, 1) := by decide +kernel
theorem dX3_nextToken_124 : decode cX3_nextToken 124 = .ok (.invokevirtual 71, 3) := by decide +kernel
theorem dX3_nextToken_127 : decode cX3_nextToken 127 = .ok (.goto 8, 3) := by decide +kernel
theorem dX3_nextToken_130 : decode cX3_nextToken 130 = .ok (.aload_n 0, 1) := by decide +kernel
theorem dX3_nextToken_131 : decode cX3_nextToken 131 = .ok (.iconst 4, 1) := by decide +kernel
theorem dX3_nextToken_132 : decode cX3_nextToken 132 = .ok (.putfield 33, 3) := by decide +kernel
theorem dX3_nextToken_135 : decode cX3_nextToken 135 = .ok (.return_, 1) := by decide +kernel
set_option maxRecDepth 20000 in
theorem ggX3_readWord_X3_signAt : GoodIn wsX3_readWord wsX3_signAt := goodIn_r _ [9, 2, 10, 68, 69, 70, 71, 72, 73, 74] (by decide +kernel) (by decide +kernel)
set_option maxRecDepth 20000 in
theorem gX3_readWord_X3_signAt : GoodIn wsX3_readWord (wsV RX3 57 RX3 yX3_signAt wsX3_signAt) := goodIn_app (goodIn_of _ (by decide +kernel)) ggX3_readWord_X3_signAt
set_option maxRecDepth 20000 in
theorem ggX3_readWord_X3_isLetter : GoodIn wsX3_readWord wsX3_isLetter := goodIn_r _ [13] (by decide +kernel) (by decide +kernel)
set_option maxRecDepth 20000 in
theorem gX3_readWord_X3_isLetter : GoodIn wsX3_readWord (va_wsS RX3 61 yX3_isLetter wsX3_isLetter) := goodIn_app (goodIn_of _ (by decide +kernel)) ggX3_readWord_X3_isLetter
set_option maxRecDepth 20000 in
theorem ggX3_readWord_X3_tokenIs : GoodIn wsX3_readWord wsX3_tokenIs := goodIn_r _ [17, 1, 18, 19, 20, 21, 22, 23, 24, 25, 26, 27, 28, 29, 30, 5, 6, 7, 8, 9, 2, 10, 31, 32, 33, 34, 35, 36, 37, 38, 39, 40, 41, 42, 43, 44, 45, 46, 47, 48, 49, 50, 51, 52, 53, 54, 55, 56, 57, 58, 59, 60, 61, 62, 63, 64, 65, 66, 67, 68, 69, 70, 71, 72, 73, 74] (by decide +kernel) (by decide +kernel)
set_option maxRecDepth 20000 in
theorem gX3_readWord_X3_tokenIs : GoodIn wsX3_readWord (wsV RX3 76 RX3 yX3_tokenIs wsX3_tokenIs) := goodIn_app (goodIn_of _ (by decide +kernel)) ggX3_readWord_X3_tokenIs
theorem dX3_readWord_0 : decode cX3_readWord 0 = .ok (.aload_n 0, 1) := by decide +kernel
theorem dX3_readWord_1 : decode cX3_readWord 1 = .ok (.getfield 24, 3) := by decide +kernel
theorem dX3_readWord_4 : decode cX3_readWord 4 = .ok (.aload_n 0, 1) := by decide +kernel
theorem dX3_readWord_5 : decode cX3_readWord 5 = .ok (.getfield 15, 3) := by decide +kernel
theorem dX3_readWord_8 : decode cX3_readWord 8 = .ok (.if_icmp .ge 30, 3) := by decide +kernel
theorem dX3_readWord_11 : decode cX3_readWord 11 = .ok (.aload_n 0, 1) := by decide +kernel
theorem dX3_readWord_12 : decode cX3_readWord 12 = .ok (.aload_n 0, 1) := by decide +kernel
theorem dX3_readWord_13 : decode cX3_readWord 13 = .ok (.getfield 24, 3) := by decide +kernel
theorem dX3_readWord_16 : decode cX3_readWord 16 = .ok (.invokevirtual 57, 3) := by decide +kernel
theorem dX3_readWord_19 : decode cX3_readWord 19 = .ok (.invokestatic 61, 3) := by decide +kernel
theorem dX3_readWord_22 : decode cX3_readWord 22 = .ok (.ifCond .eq 16, 3) := by decide +kernel
theorem dX3_readWord_25 : decode cX3_readWord 25 = .ok (.aload_n 0, 1) := by decide +kernel
theorem dX3_readWord_26 : decode cX3_readWord 26 = .ok (.dup, 1) := by decide +kernel
theorem dX3_readWord_27 : decode cX3_readWord 27 = .ok (.getfield 24, 3) := by decide +kernel
theorem dX3_readWord_30 : decode cX3_readWord 30 = .ok (.iconst 1, 1) := by decide +kernel
theorem dX3_readWord_31 : decode cX3_readWord 31 = .ok (.iadd, 1) := by decide +kernel
theorem dX3_readWord_32 : decode cX3_readWord 32 = .ok (.putfield 24, 3) := by decide +kernel
theorem dX3_readWord_35 : decode cX3_readWord 35 = .ok (.goto (-35), 3) := by decide +kernel
theorem dX3_readWord_38 : decode cX3_readWord 38 = .ok (.aload_n 0, 1) := by decide +kernel
theorem dX3_readWord_39 : decode cX3_readWord 39 = .ok (.iconst 1, 1) := by decide +kernel
theorem dX3_readWord_40 : decode cX3_readWord 40 = .ok (.putfield 33, 3) := by decide +kernel
theorem dX3_readWord_43 : decode cX3_readWord 43 = .ok (.aload_n 0, 1) := by decide +kernel
theorem dX3_readWord_44 : decode cX3_readWord 44 = .ok (.ldc 74, 2) := by decide +kernel
theorem dX3_readWord_46 : decode cX3_readWord 46 = .ok (.invokevirtual 76, 3) := by decide +kernel
theorem dX3_readWord_49 : decode cX3_readWord 49 = .ok (.ifCond .eq 11, 3) := by decide +kernel
theorem dX3_readWord_52 : decode cX3_readWord 52 = .ok (.aload_n 0, 1) := by decide +kernel
theorem dX3_readWord_53 : decode cX3_readWord 53 = .ok (.iconst 0, 1) := by decide +kernel
theorem dX3_readWord_54 : decode cX3_readWord 54 = .ok (.putfield 43, 3) := by decide +kernel
theorem dX3_readWord_57 : decode cX3_readWord 57 = .ok (.goto 59, 3) := by decide +kernel
theorem dX3_readWord_60 : decode cX3_readWord 60 = .ok (.aload_n 0, 1) := by decide +kernel
theorem dX3_readWord_61 : decode cX3_readWord 61 = .ok (.ldc 80, 2) := by decide +kernel
theorem dX3_readWord_63 : decode cX3_readWord 63 = .ok (.invokevirtual 76, 3) := by decide +kernel
