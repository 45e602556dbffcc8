theorem dX0_init_0 : decode cX0_init 0 = .ok (.aload_n 0, 1) := by decide +kernel
theorem dX0_init_1 : decode cX0_init 1 = .ok (.invokespecial 3, 3) := by decide +kernel
theorem dX0_init_4 : decode cX0_init 4 = .ok (.aload_n 0, 1) := by decide +kernel
theorem dX0_init_5 : decode cX0_init 5 = .ok (.bipush 9, 2) := by decide +kernel
theorem dX0_init_7 : decode cX0_init 7 = .ok (.newarray .int, 2) := by decide +kernel
theorem dX0_init_9 : decode cX0_init 9 = .ok (.putfield 9, 3) := by decide +kernel
theorem dX0_init_12 : decode cX0_init 12 = .ok (.aload_n 0, 1) := by decide +kernel
theorem dX0_init_13 : decode cX0_init 13 = .ok (.bipush 9, 2) := by decide +kernel
theorem dX0_init_15 : decode cX0_init 15 = .ok (.newarray .int, 2) := by decide +kernel
theorem dX0_init_17 : decode cX0_init 17 = .ok (.putfield 15, 3) := by decide +kernel
theorem dX0_init_20 : decode cX0_init 20 = .ok (.aload_n 0, 1) := by decide +kernel
theorem dX0_init_21 : decode cX0_init 21 = .ok (.bipush 9, 2) := by decide +kernel
theorem dX0_init_23 : decode cX0_init 23 = .ok (.newarray .int, 2) := by decide +kernel
theorem dX0_init_25 : decode cX0_init 25 = .ok (.putfield 18, 3) := by decide +kernel
theorem dX0_init_28 : decode cX0_init 28 = .ok (.aload_n 0, 1) := by decide +kernel
theorem dX0_init_29 : decode cX0_init 29 = .ok (.bipush 9, 2) := by decide +kernel
theorem dX0_init_31 : decode cX0_init 31 = .ok (.newarray .int, 2) := by decide +kernel
theorem dX0_init_33 : decode cX0_init 33 = .ok (.putfield 21, 3) := by decide +kernel
theorem dX0_init_36 : decode cX0_init 36 = .ok (.return_, 1) := by decide +kernel
theorem dX0_has_0 : decode cX0_has 0 = .ok (.iload_n 1, 1) := by decide +kernel
theorem dX0_has_1 : decode cX0_has 1 = .ok (.ifCond .lt 21, 3) := by decide +kernel
theorem dX0_has_4 : decode cX0_has 4 = .ok (.iload_n 1, 1) := by decide +kernel
theorem dX0_has_5 : decode cX0_has 5 = .ok (.aload_n 0, 1) := by decide +kernel
theorem dX0_has_6 : decode cX0_has 6 = .ok (.getfield 24, 3) := by decide +kernel
theorem dX0_has_9 : decode cX0_has 9 = .ok (.if_icmp .ge 13, 3) := by decide +kernel
theorem dX0_has_12 : decode cX0_has 12 = .ok (.iload_n 1, 1) := by decide +kernel
theorem dX0_has_13 : decode cX0_has 13 = .ok (.bipush 9, 2) := by decide +kernel
theorem dX0_has_15 : decode cX0_has 15 = .ok (.if_icmp .ge 7, 3) := by decide +kernel
theorem dX0_has_18 : decode cX0_has 18 = .ok (.iconst 1, 1) := by decide +kernel
theorem dX0_has_19 : decode cX0_has 19 = .ok (.goto 4, 3) := by decide +kernel
theorem dX0_has_22 : decode cX0_has 22 = .ok (.iconst 0, 1) := by decide +kernel
theorem dX0_has_23 : decode cX0_has 23 = .ok (.ireturn, 1) := by decide +kernel
set_option maxRecDepth 20000 in
theorem ggX0_sortOf_X0_has : GoodIn wsX0_sortOf wsX0_has := goodIn_r _ [6, 7, 8, 9, 10, 11, 12] (by decide +kernel) (by decide +kernel)
set_option maxRecDepth 20000 in
theorem gX0_sortOf_X0_has : GoodIn wsX0_sortOf (wsV RX0 28 RX0 yX0_has wsX0_has) := goodIn_app (goodIn_of _ (by decide +kernel)) ggX0_sortOf_X0_has
theorem dX0_sortOf_0 : decode cX0_sortOf 0 = .ok (.aload_n 0, 1) := by decide +kernel
theorem dX0_sortOf_1 : decode cX0_sortOf 1 = .ok (.iload_n 1, 1) := by decide +kernel
theorem dX0_sortOf_2 : decode cX0_sortOf 2 = .ok (.invokevirtual 28, 3) := by decide +kernel
theorem dX0_sortOf_5 : decode cX0_sortOf 5 = .ok (.ifCond .eq 12, 3) := by decide +kernel
theorem dX0_sortOf_8 : decode cX0_sortOf 8 = .ok (.aload_n 0, 1) := by decide +kernel
theorem dX0_sortOf_9 : decode cX0_sortOf 9 = .ok (.getfield 9, 3) := by decide +kernel
theorem dX0_sortOf_12 : decode cX0_sortOf 12 = .ok (.iload_n 1, 1) := by decide +kernel
theorem dX0_sortOf_13 : decode cX0_sortOf 13 = .ok (.iaload, 1) := by decide +kernel
theorem dX0_sortOf_14 : decode cX0_sortOf 14 = .ok (.goto 5, 3) := by decide +kernel
theorem dX0_sortOf_17 : decode cX0_sortOf 17 = .ok (.bipush (-9), 2) := by decide +kernel
theorem dX0_sortOf_19 : decode cX0_sortOf 19 = .ok (.ireturn, 1) := by decide +kernel
set_option maxRecDepth 20000 in
theorem ggX0_leftOf_X0_has : GoodIn wsX0_leftOf wsX0_has := goodIn_r _ [6, 7, 8, 9, 10, 11, 12] (by decide +kernel) (by decide +kernel)
set_option maxRecDepth 20000 in
theorem gX0_leftOf_X0_has : GoodIn wsX0_leftOf (wsV RX0 28 RX0 yX0_has wsX0_has) := goodIn_app (goodIn_of _ (by decide +kernel)) ggX0_leftOf_X0_has
theorem dX0_leftOf_0 : decode cX0_leftOf 0 = .ok (.aload_n 0, 1) := by decide +kernel
theorem dX0_leftOf_1 : decode cX0_leftOf 1 = .ok (.iload_n 1, 1) := by decide +kernel
theorem dX0_leftOf_2 : decode cX0_leftOf 2 = .ok (.invokevirtual 28, 3) := by decide +kernel
theorem dX0_leftOf_5 : decode cX0_leftOf 5 = .ok (.ifCond .eq 12, 3) := by decide +kernel
theorem dX0_leftOf_8 : decode cX0_leftOf 8 = .ok (.aload_n 0, 1) := by decide +kernel
theorem dX0_leftOf_9 : decode cX0_leftOf 9 = .ok (.getfield 15, 3) := by decide +kernel
theorem dX0_leftOf_12 : decode cX0_leftOf 12 = .ok (.iload_n 1, 1) := by decide +kernel
theorem dX0_leftOf_13 : decode cX0_leftOf 13 = .ok (.iaload, 1) := by decide +kernel
theorem dX0_leftOf_14 : decode cX0_leftOf 14 = .ok (.goto 5, 3) := by decide +kernel
theorem dX0_leftOf_17 : decode cX0_leftOf 17 = .ok (.bipush (-9), 2) := by decide +kernel
theorem dX0_leftOf_19 : decode cX0_leftOf 19 = .ok (.ireturn, 1) := by decide +kernel
set_option maxRecDepth 20000 in
theorem ggX0_rightOf_X0_has : GoodIn wsX0_rightOf wsX0_has := goodIn_r _ [6, 7, 8, 9, 10, 11, 12] (by decide +kernel) (by decide +kernel)
set_option maxRecDepth 20000 in
theorem gX0_rightOf_X0_has : GoodIn wsX0_rightOf (wsV RX0 28 RX0 yX0_has wsX0_has) := goodIn_app (goodIn_of _ (by decide +kernel)) ggX0_rightOf_X0_has
theorem dX0_rightOf_0 : decode cX0_rightOf 0 = .ok (.aload_n 0, 1) := by decide +kernel
theorem dX0_rightOf_1 : decode cX0_rightOf 1 = .ok (.iload_n 1, 1) := by decide +kernel
theorem dX0_rightOf_2 : decode cX0_rightOf 2 = .ok (.invokevirtual 28, 3) := by decide +kernel
theorem dX0_rightOf_5 : decode cX0_rightOf 5 = .ok (.ifCond .eq 12, 3) := by decide +kernel
theorem dX0_rightOf_8 : decode cX0_rightOf 8 = .ok (.aload_n 0, 1) := by decide +kernel
theorem dX0_rightOf_9 : decode cX0_rightOf 9 = .ok (.getfield 18, 3) := by decide +kernel
theorem dX0_rightOf_12 : decode cX0_rightOf 12 = .ok (.iload_n 1, 1) := by decide +kernel
theorem dX0_rightOf_13 : decode cX0_rightOf 13 = .ok (.iaload, 1) := by decide +kernel
theorem dX0_rightOf_14 : decode cX0_rightOf 14 = .ok (.goto 5, 3) := by decide +kernel
theorem dX0_rightOf_17 : decode cX0_rightOf 17 = .ok (.bipush (-9), 2) := by decide +kernel
theorem dX0_rightOf_19 : decode cX0_rightOf 19 = .ok (.ireturn, 1) := by decide +kernel
set_option maxRecDepth 20000 in
theorem ggX0_turnOf_X0_has : GoodIn wsX0_turnOf wsX0_has := goodIn_r _ [6, 7, 8, 9, 10, 11, 12] (by decide +kernel) (by decide +kernel)
set_option maxRecDepth 20000 in
theorem gX0_turnOf_X0_has : GoodIn wsX0_turnOf (wsV RX0 28 RX0 yX0_has wsX0_has) := goodIn_app (goodIn_of _ (by decide +kernel)) ggX0_turnOf_X0_has
theorem dX0_turnOf_0 : decode cX0_turnOf 0 = .ok (.aload_n 0, 1) := by decide +kernel
theorem dX0_turnOf_1 : decode cX0_turnOf 1 = .ok (.iload_n 1, 1) := by decide +kernel
theorem dX0_turnOf_2 : decode cX0_turnOf 2 = .ok (.invokevirtual 28, 3) := by decide +kernel
theorem dX0_turnOf_5 : decode cX0_turnOf 5 = .ok (.ifCond .eq 12, 3) := by decide +kernel
theorem dX0_turnOf_8 : decode cX0_turnOf 8 = .ok (.aload_n 0, 1) := by decide +kernel
theorem dX0_turnOf_9 : decode cX0_turnOf 9 = .ok (.getfield 21, 3) := by decide +kernel
theorem dX0_turnOf_12 : decode cX0_turnOf 12 = .ok (.iload_n 1, 1) := by decide +kernel
theorem dX0_turnOf_13 : decode cX0_turnOf 13 = .ok (.iaload, 1) := by decide +kernel
theorem dX0_turnOf_14 : decode cX0_turnOf 14 = .ok (.goto 4, 3) := by decide +kernel
theorem dX0_turnOf_17 : decode cX0_turnOf 17 = .ok (.iconst 0, 1) := by decide +kernel
theorem dX0_turnOf_18 : decode cX0_turnOf 18 = .ok (.ireturn, 1) := by decide +kernel
set_option maxRecDepth 20000 in
theorem ggX0_isLanding_X0_has : GoodIn wsX0_isLanding wsX0_has := goodIn_r _ [6, 7, 8, 9, 10, 11, 12] (by decide +kernel) (by decide +kernel)
set_option maxRecDepth 20000 in
theorem gX0_isLanding_X0_has : GoodIn wsX0_isLanding (wsV RX0 28 RX0 yX0_has wsX0_has) := goodIn_app (goodIn_of _ (by decide +kernel)) ggX0_isLanding_X0_has
theorem dX0_isLanding_0 : decode cX0_isLanding 0 = .ok (.aload_n 0, 1) := by decide +kernel
theorem dX0_isLanding_1 : decode cX0_isLanding 1 = .ok (.iload_n 1, 1) := by decide +kernel
theorem dX0_isLanding_2 : decode cX0_isLanding 2 = .ok (.invokevirtual 28, 3) := by decide +kernel
theorem dX0_isLanding_5 : decode cX0_isLanding 5 = .ok (.ifCond .eq 16, 3) := by decide +kernel
theorem dX0_isLanding_8 : decode cX0_isLanding 8 = .ok (.aload_n 0, 1) := by decide +kernel
theorem dX0_isLanding_9 : decode cX0_isLanding 9 = .ok (.getfield 9, 3) := by decide +kernel
theorem dX0_isLanding_12 : decode cX0_isLanding 12 = .ok (.iload_n 1, 1) := by decide +kernel
theorem dX0_isLanding_13 : decode cX0_isLanding 13 = .ok (.iaload, 1) := by decide +kernel
theorem dX0_isLanding_14 : decode cX0_isLanding 14 = .ok (.ifCond .ne 7, 3) := by decide +kernel
theorem dX0_isLanding_17 : decode cX0_isLanding 17 = .ok (.iconst 1, 1) := by decide +kernel
theorem dX0_isLanding_18 : decode cX0_isLanding 18 = .ok (.goto 4, 3) := by decide +kernel
theorem dX0_isLanding_21 : decode cX0_isLanding 21 = .ok (.iconst 0, 1) := by decide +kernel
theorem dX0_isLanding_22 : decode cX0_isLanding 22 = .ok (.ireturn, 1) := by decide +kernel
theorem dX0_append_0 : decode cX0_append 0 = .ok (.aload_n 0, 1) := by decide +kernel
theorem dX0_append_1 : decode cX0_append 1 = .ok (.getfield 24, 3) := by decide +kernel
theorem dX0_append_4 : decode cX0_append 4 = .ok (.ifCond .lt 12, 3) := by decide +kernel
theorem dX0_append_7 : decode cX0_append 7 = .ok (.aload_n 0, 1) := by decide +kernel
theorem dX0_append_8 : decode cX0_append 8 = .ok (.getfield 24, 3) := by decide +kernel
theorem dX0_append_11 : decode cX0_append 11 = .ok (.bipush 9, 2) := by decide +kernel
theorem dX0_append_13 : decode cX0_append 13 = .ok (.if_icmp .lt 4, 3) := by decide +kernel
theorem dX0_append_16 : decode cX0_append 16 = .ok (.return_, 1) := by decide +kernel
theorem dX0_append_17 : decode cX0_append 17 = .ok (.aload_n 0, 1) := by decide +kernel
theorem dX0_append_18 : decode cX0_append 18 = .ok (.getfield 9, 3) := by decide +kernel
theorem dX0_append_21 : decode cX0_append 21 = .ok (.aload_n 0, 1) := by decide +kernel
theorem dX0_append_22 : decode cX0_append 22 = .ok (.getfield 24, 3) := by decide +kernel
theorem dX0_append_25 : decode cX0_append 25 = .ok (.iload_n 1, 1) := by decide +kernel
theorem dX0_append_26 : decode cX0_append 26 = .ok (.iastore, 1) := by decide +kernel
theorem dX0_append_27 : decode cX0_append 27 = .ok (.aload_n 0, 1) := by decide +kernel
theorem dX0_append_28 : decode cX0_append 28 = .ok (.getfield 15, 3) := by decide +kernel
theorem dX0_append_31 : decode cX0_append 31 = .ok (.aload_n 0, 1) := by decide +kernel
theorem dX0_append_32 : decode cX0_append 32 = .ok (.getfield 24, 3) := by decide +kernel
theorem dX0_append_35 : decode cX0_append 35 = .ok (.iload_n 2, 1) := by decide +kernel
theorem dX0_append_36 : decode cX0_append 36 = .ok (.iastore, 1) := by decide +kernel
theorem dX0_append_37 : decode cX0_append 37 = .ok (.aload_n 0, 1) := by decide +kernel
theorem dX0_append_38 : decode cX0_append 38 = .ok (.getfield 18, 3) := by decide +kernel
theorem dX0_append_41 : decode cX0_append 41 = .ok (.aload_n 0, 1) := by decide +kernel
theorem dX0_append_42 : decode cX0_append 42 = .ok (.getfield 24, 3) := by decide +kernel
theorem dX0_append_45 : decode cX0_append 45 = .ok (.iload_n 3, 1) := by decide +kernel
theorem dX0_append_46 : decode cX0_append 46 = .ok (.iastore, 1) := by decide +kernel
theorem dX0_append_47 : decode cX0_append 47 = .ok (.aload_n 0, 1) := by decide +kernel
theorem dX0_append_48 : decode cX0_append 48 = .ok (.getfield 21, 3) := by decide +kernel
theorem dX0_append_51 : decode cX0_append 51 = .ok (.aload_n 0, 1) := by decide +kernel
theorem dX0_append_52 : decode cX0_append 52 = .ok (.getfield 24, 3) := by decide +kernel
theorem dX0_append_55 : decode cX0_append 55 = .ok (.iload 4, 2) := by decide +kernel
theorem dX0_append_57 : decode cX0_append 57 = .ok (.iastore, 1) := by decide +kernel
theorem dX0_append_58 : decode cX0_append 58 = .ok (.aload_n 0, 1) := by decide +kernel
theorem dX0_append_59 : decode cX0_append 59 = .ok (.dup, 1) := by decide +kernel
theorem dX0_append_60 : decode cX0_append 60 = .ok (.getfield 24, 3) := by decide +kernel
theorem dX0_append_63 : decode cX0_append 63 = .ok (.iconst 1, 1) := by decide +kernel
theorem dX0_append_64 : decode cX0_append 64 = .ok (.iadd, 1) := by decide +kernel
theorem dX0_append_65 : decode cX0_append 65 = .ok (.putfield 24, 3) := by decide +kernel
theorem dX0_append_68 : decode cX0_append 68 = .ok (.return_, 1) := by decide +kernel
set_option maxRecDepth 20000 in
theorem ggX0_landings_X0_isLanding : GoodIn wsX0_landings wsX0_isLanding := goodIn_r _ [6, 7, 8, 9, 10, 5, 11, 1, 12, 13, 14, 15, 16] (by decide +kernel) (by decide +kernel)
set_option maxRecDepth 20000 in
theorem gX0_landings_X0_isLanding : GoodIn wsX0_landings (wsV RX0 32 RX0 yX0_isLanding wsX0_isLanding) := goodIn_app (goodIn_of _ (by decide +kernel)) ggX0_landings_X0_isLanding
theorem dX0_landings_0 : decode cX0_landings 0 = .ok (.iconst 0, 1) := by decide +kernel
theorem dX0_landings_1 : decode cX0_landings 1 = .ok (.istore_n 1, 1) := by decide +kernel
theorem dX0_landings_2 : decode cX0_landings 2 = .ok (.iconst 0, 1) := by decide +kernel
theorem dX0_landings_3 : decode cX0_landings 3 = .ok (.istore_n 2, 1) := by decide +kernel
theorem dX0_landings_4 : decode cX0_landings 4 = .ok (.iload_n 2, 1) := by decide +kernel
theorem dX0_landings_5 : decode cX0_landings 5 = .ok (.aload_n 0, 1) := by decide +kernel
theorem dX0_landings_6 : decode cX0_landings 6 = .ok (.getfield 24, 3) := by decide +kernel
theorem dX0_landings_9 : decode cX0_landings 9 = .ok (.if_icmp .ge 20, 3) := by decide +kernel
theorem dX0_landings_12 : decode cX0_landings 12 = .ok (.aload_n 0, 1) := by decide +kernel
theorem dX0_landings_13 : decode cX0_landings 13 = .ok (.iload_n 2, 1) := by decide +kernel
theorem dX0_landings_14 : decode cX0_landings 14 = .ok (.invokevirtual 32, 3) := by decide +kernel
theorem dX0_landings_17 : decode cX0_landings 17 = .ok (.ifCond .eq 6, 3) := by decide +kernel
theorem dX0_landings_20 : decode cX0_landings 20 = .ok (.iinc 1 1, 3) := by decide +kernel
theorem dX0_landings_23 : decode cX0_landings 23 = .ok (.iinc 2 1, 3) := by decide +kernel
theorem dX0_landings_26 : decode cX0_landings 26 = .ok (.goto (-22), 3) := by decide +kernel
theorem dX0_landings_29 : decode cX0_landings 29 = .ok (.iload_n 1, 1) := by decide +kernel
theorem dX0_landings_30 : decode cX0_landings 30 = .ok (.ireturn, 1) := by decide +kernel
set_option maxRecDepth 20000 in
theorem ggX0_cupsHolding_X0_sortOf : GoodIn wsX0_cupsHolding wsX0_sortOf := goodIn_r _ [6, 7, 8, 9, 10, 5, 11, 1, 16, 17, 18, 19, 20] (by decide +kernel) (by decide +kernel)
set_option maxRecDepth 20000 in
theorem gX0_cupsHolding_X0_sortOf : GoodIn wsX0_cupsHolding (wsV RX0 35 RX0 yX0_sortOf wsX0_sortOf) := goodIn_app (goodIn_of _ (by decide +kernel)) ggX0_cupsHolding_X0_sortOf
set_option maxRecDepth 20000 in
theorem ggX0_cupsHolding_X2_standAt : GoodIn wsX0_cupsHolding wsX2_standAt := goodIn_r _ [15] (by decide +kernel) (by decide +kernel)
set_option maxRecDepth 20000 in
theorem gX0_cupsHolding_X2_standAt : GoodIn wsX0_cupsHolding (va_wsS RX0 39 yX2_standAt wsX2_standAt) := goodIn_app (goodIn_of _ (by decide +kernel)) ggX0_cupsHolding_X2_standAt
theorem dX0_cupsHolding_0 : decode cX0_cupsHolding 0 = .ok (.iconst 0, 1) := by decide +kernel
theorem dX0_cupsHolding_1 : decode cX0_cupsHolding 1 = .ok (.istore_n 2, 1) := by decide +kernel
theorem dX0_cupsHolding_2 : decode cX0_cupsHolding 2 = .ok (.iconst 0, 1) := by decide +kernel
theorem dX0_cupsHolding_3 : decode cX0_cupsHolding 3 = .ok (.istore_n 3, 1) := by decide +kernel
theorem dX0_cupsHolding_4 : decode cX0_cupsHolding 4 = .ok (.iload_n 3, 1) := by decide +kernel
theorem dX0_cupsHolding_5 : decode cX0_cupsHolding 5 = .ok (.aload_n 0, 1) := by decide +kernel
theorem dX0_cupsHolding_6 : decode cX0_cupsHolding 6 = .ok (.getfield 24, 3) := by decide +kernel
theorem dX0_cupsHolding_9 : decode cX0_cupsHolding 9 = .ok (.if_icmp .ge 29, 3) := by decide +kernel
theorem dX0_cupsHolding_12 : decode cX0_cupsHolding 12 = .ok (.aload_n 0, 1) := by decide +kernel
theorem dX0_cupsHolding_13 : decode cX0_cupsHolding 13 = .ok (.iload_n 3, 1) := by decide +kernel
theorem dX0_cupsHolding_14 : decode cX0_cupsHolding 14 = .ok (.invokevirtual 35, 3) := by decide +kernel
theorem dX0_cupsHolding_17 : decode cX0_cupsHolding 17 = .ok (.iconst 3, 1) := by decide +kernel
theorem dX0_cupsHolding_18 : decode cX0_cupsHolding 18 = .ok (.if_icmp .ne 14, 3) := by decide +kernel
theorem dX0_cupsHolding_21 : decode cX0_cupsHolding 21 = .ok (.iload_n 1, 1) := by decide +kernel
theorem dX0_cupsHolding_22 : decode cX0_cupsHolding 22 = .ok (.iload_n 3, 1) := by decide +kernel
theorem dX0_cupsHolding_23 : decode cX0_cupsHolding 23 = .ok (.invokestatic 39, 3) := by decide +kernel
theorem dX0_cupsHolding_26 : decode cX0_cupsHolding 26 = .ok (.ifCond .le 6, 3) := by decide +kernel
theorem dX0_cupsHolding_29 : decode cX0_cupsHolding 29 = .ok (.iinc 2 1, 3) := by decide +kernel
theorem dX0_cupsHolding_32 : decode cX0_cupsHolding 32 = .ok (.iinc 3 1, 3) := by decide +kernel
theorem dX0_cupsHolding_35 : decode cX0_cupsHolding 35 = .ok (.goto (-31), 3) := by decide +kernel
theorem dX0_cupsHolding_38 : decode cX0_cupsHolding 38 = .ok (.iload_n 2, 1) := by decide +kernel
theorem dX0_cupsHolding_39 : decode cX0_cupsHolding 39 = .ok (.ireturn, 1) := by decide +kernel
set_option maxRecDepth 20000 in
theorem ggX0_standingAfter_X0_fall : GoodIn wsX0_standingAfter wsX0_fall := goodIn_r _ [5, 6, 7, 8, 9, 10, 11, 12, 13, 4, 14, 15, 16, 17, 18, 19, 20, 21, 22, 23, 24, 29, 30, 31, 32, 33] (by decide +kernel) (by decide +kernel)
set_option maxRecDepth 20000 in
theorem gX0_standingAfter_X0_fall : GoodIn wsX0_standingAfter (wsV RX0 45 RX0 yX0_fall wsX0_fall) := goodIn_app (goodIn_of _ (by decide +kernel)) ggX0_standingAfter_X0_fall
set_option maxRecDepth 20000 in
theorem ggX0_standingAfter_X2_standingOf : GoodIn wsX0_standingAfter wsX2_standingOf := goodIn_r _ [27, 28] (by decide +kernel) (by decide +kernel)
set_option maxRecDepth 20000 in
theorem gX0_standingAfter_X2_standingOf : GoodIn wsX0_standingAfter (va_wsS RX0 49 yX2_standingOf wsX2_standingOf) := goodIn_app (goodIn_of _ (by decide +kernel)) ggX0_standingAfter_X2_standingOf
theorem dX0_standingAfter_0 : decode cX0_standingAfter 0 = .ok (.aload_n 0, 1) := by decide +kernel
theorem dX0_standingAfter_1 : decode cX0_standingAfter 1 = .ok (.iload_n 1, 1) := by decide +kernel
theorem dX0_standingAfter_2 : decode cX0_standingAfter 2 = .ok (.iload_n 2, 1) := by decide +kernel
theorem dX0_standingAfter_3 : decode cX0_standingAfter 3 = .ok (.iload_n 3, 1) := by decide +kernel
theorem dX0_standingAfter_4 : decode cX0_standingAfter 4 = .ok (.invokevirtual 45, 3) := by decide +kernel
theorem dX0_standingAfter_7 : decode cX0_standingAfter 7 = .ok (.invokestatic 49, 3) := by decide +kernel
theorem dX0_standingAfter_10 : decode cX0_standingAfter 10 = .ok (.ireturn, 1) := by decide +kernel
set_option maxRecDepth 20000 in
theorem ggX0_fall_X0_has : GoodIn wsX0_fall wsX0_has := goodIn_r _ [10, 1, 21, 22, 23, 24, 25] (by decide +kernel) (by decide +kernel)
set_option maxRecDepth 20000 in
theorem gX0_fall_X0_has : GoodIn wsX0_fall (wsV RX0 28 RX0 yX0_has wsX0_has) := goodIn_app (goodIn_of _ (by decide +kernel)) ggX0_fall_X0_has
set_option maxRecDepth 20000 in
theorem ggX0_fall_X2_standAt : GoodIn wsX0_fall wsX2_standAt := goodIn_r _ [14] (by decide +kernel) (by decide +kernel)
set_option maxRecDepth 20000 in
theorem gX0_fall_X2_standAt : GoodIn wsX0_fall (va_wsS RX0 39 yX2_standAt wsX2_standAt) := goodIn_app (goodIn_of _ (by decide +kernel)) ggX0_fall_X2_standAt
set_option maxRecDepth 20000 in
theorem ggX0_fall_X2_withStand : GoodIn wsX0_fall wsX2_withStand := goodIn_r _ [17] (by decide +kernel) (by decide +kernel)
set_option maxRecDepth 20000 in
theorem gX0_fall_X2_withStand : GoodIn wsX0_fall (va_wsS RX0 52 yX2_withStand wsX2_withStand) := goodIn_app (goodIn_of _ (by decide +kernel)) ggX0_fall_X2_withStand
set_option maxRecDepth 20000 in
theorem ggX0_fall_X2_outcome : GoodIn wsX0_fall wsX2_outcome := goodIn_r _ [20] (by decide +kernel) (by decide +kernel)
set_option maxRecDepth 20000 in
theorem gX0_fall_X2_outcome : GoodIn wsX0_fall (va_wsS RX0 55 yX2_outcome wsX2_outcome) := goodIn_app (goodIn_of _ (by decide +kernel)) ggX0_fall_X2_outcome
theorem dX0_fall_0 : decode cX0_fall 0 = .ok (.iload_n 1, 1) := by decide +kernel
theorem dX0_fall_1 : decode cX0_fall 1 = .ok (.istore 4, 2) := by decide +kernel
theorem dX0_fall_3 : decode cX0_fall 3 = .ok (.aload_n 0, 1) := by decide +kernel
theorem dX0_fall_4 : decode cX0_fall 4 = .ok (.getfield 24, 3) := by decide +kernel
theorem dX0_fall_7 : decode cX0_fall 7 = .ok (.iconst 1, 1) := by decide +kernel
theorem dX0_fall_8 : decode cX0_fall 8 = .ok (.isub, 1) := by decide +kernel
theorem dX0_fall_9 : decode cX0_fall 9 = .ok (.istore 5, 2) := by decide +kernel
theorem dX0_fall_11 : decode cX0_fall 11 = .ok (.iconst 0, 1) := by decide +kernel
theorem dX0_fall_12 : decode cX0_fall 12 = .ok (.istore 6, 2) := by decide +kernel
theorem dX0_fall_14 : decode cX0_fall 14 = .ok (.iload 6, 2) := by decide +kernel
theorem dX0_fall_16 : decode cX0_fall 16 = .ok (.bipush 9, 2) := by decide +kernel
theorem dX0_fall_18 : decode cX0_fall 18 = .ok (.if_icmp .ge 227, 3) := by decide +kernel
theorem dX0_fall_21 : decode cX0_fall 21 = .ok (.aload_n 0, 1) := by decide +kernel
theorem dX0_fall_22 : decode cX0_fall 22 = .ok (.iload 5, 2) := by decide +kernel
theorem dX0_fall_24 : decode cX0_fall 24 = .ok (.invokevirtual 28, 3) := by decide +kernel
theorem dX0_fall_27 : decode cX0_fall 27 = .ok (.ifCond .eq 218, 3) := by decide +kernel
theorem dX0_fall_30 : decode cX0_fall 30 = .ok (.iload 5, 2) := by decide +kernel
theorem dX0_fall_32 : decode cX0_fall 32 = .ok (.iload_n 3, 1) := by decide +kernel
theorem dX0_fall_33 : decode cX0_fall 33 = .ok (.if_icmp .eq 212, 3) := by decide +kernel
theorem dX0_fall_36 : decode cX0_fall 36 = .ok (.aload_n 0, 1) := by decide +kernel
theorem dX0_fall_37 : decode cX0_fall 37 = .ok (.getfield 21, 3) := by decide +kernel
theorem dX0_fall_40 : decode cX0_fall 40 = .ok (.iload 5, 2) := by decide +kernel
theorem dX0_fall_42 : decode cX0_fall 42 = .ok (.iaload, 1) := by decide +kernel
theorem dX0_fall_43 : decode cX0_fall 43 = .ok (.istore 7, 2) := by decide +kernel
theorem dX0_fall_45 : decode cX0_fall 45 = .ok (.iload 4, 2) := by decide +kernel
theorem dX0_fall_47 : decode cX0_fall 47 = .ok (.iload 5, 2) := by decide +kernel
theorem dX0_fall_49 : decode cX0_fall 49 = .ok (.invokestatic 39, 3) := by decide +kernel
theorem dX0_fall_52 : decode cX0_fall 52 = .ok (.istore 8, 2) := by decide +kernel
theorem dX0_fall_54 : decode cX0_fall 54 = .ok (.aload_n 0, 1) := by decide +kernel
theorem dX0_fall_55 : decode cX0_fall 55 = .ok (.getfield 9, 3) := by decide +kernel
theorem dX0_fall_58 : decode cX0_fall 58 = .ok (.iload 5, 2) := by decide +kernel
theorem dX0_fall_60 : decode cX0_fall 60 = .ok (.iaload, 1) := by decide +kernel
theorem dX0_fall_61 : decode cX0_fall 61 = .ok (.tableswitch 170 1 3 #[27, 84, 110], 27) := by decide +kernel
theorem dX0_fall_88 : decode cX0_fall 88 = .ok (.iload 4, 2) := by decide +kernel
theorem dX0_fall_90 : decode cX0_fall 90 = .ok (.iload 5, 2) := by decide +kernel
theorem dX0_fall_92 : decode cX0_fall 92 = .ok (.iload 8, 2) := by decide +kernel
theorem dX0_fall_94 : decode cX0_fall 94 = .ok (.iconst 1, 1) := by decide +kernel
theorem dX0_fall_95 : decode cX0_fall 95 = .ok (.iadd, 1) := by decide +kernel
theorem dX0_fall_96 : decode cX0_fall 96 = .ok (.iconst 2, 1) := by decide +kernel
theorem dX0_fall_97 : decode cX0_fall 97 = .ok (.iload 7, 2) := by decide +kernel
theorem dX0_fall_99 : decode cX0_fall 99 = .ok (.imul, 1) := by decide +kernel
theorem dX0_fall_100 : decode cX0_fall 100 = .ok (.if_icmp .ge 10, 3) := by decide +kernel
theorem dX0_fall_103 : decode cX0_fall 103 = .ok (.iload 8, 2) := by decide +kernel
theorem dX0_fall_105 : decode cX0_fall 105 = .ok (.iconst 1, 1) := by decide +kernel
theorem dX0_fall_106 : decode cX0_fall 106 = .ok (.iadd, 1) := by decide +kernel
theorem dX0_fall_107 : decode cX0_fall 107 = .ok (.goto 4, 3) := by decide +kernel
theorem dX0_fall_110 : decode cX0_fall 110 = .ok (.iconst 0, 1) := by decide +kernel
theorem dX0_fall_111 : decode cX0_fall 111 = .ok (.invokestatic 52, 3) := by decide +kernel
theorem dX0_fall_114 : decode cX0_fall 114 = .ok (.istore 4, 2) := by decide +kernel
theorem dX0_fall_116 : decode cX0_fall 116 = .ok (.iload 8, 2) := by decide +kernel
theorem dX0_fall_118 : decode cX0_fall 118 = .ok (.iload 7, 2) := by decide +kernel
theorem dX0_fall_120 : decode cX0_fall 120 = .ok (.if_icmp .ge 13, 3) := by decide +kernel
theorem dX0_fall_123 : decode cX0_fall 123 = .ok (.aload_n 0, 1) := by decide +kernel
theorem dX0_fall_124 : decode cX0_fall 124 = .ok (.getfield 15, 3) := by decide +kernel
theorem dX0_fall_127 : decode cX0_fall 127 = .ok (.iload 5, 2) := by decide +kernel
theorem dX0_fall_129 : decode cX0_fall 129 = .ok (.iaload, 1) := by decide +kernel
theorem dX0_fall_130 : decode cX0_fall 130 = .ok (.goto 10, 3) := by decide +kernel
theorem dX0_fall_133 : decode cX0_fall 133 = .ok (.aload_n 0, 1) := by decide +kernel
theorem dX0_fall_134 : decode cX0_fall 134 = .ok (.getfield 18, 3) := by decide +kernel
theorem dX0_fall_137 : decode cX0_fall 137 = .ok (.iload 5, 2) := by decide +kernel
theorem dX0_fall_139 : decode cX0_fall 139 = .ok (.iaload, 1) := by decide +kernel
theorem dX0_fall_140 : decode cX0_fall 140 = .ok (.istore 5, 2) := by decide +kernel
theorem dX0_fall_142 : decode cX0_fall 142 = .ok (.goto 97, 3) := by decide +kernel
theorem dX0_fall_145 : decode cX0_fall 145 = .ok (.iload_n 2, 1) := by decide +kernel
theorem dX0_fall_146 : decode cX0_fall 146 = .ok (.ifCond .ne 13, 3) := by decide +kernel
theorem dX0_fall_149 : decode cX0_fall 149 = .ok (.aload_n 0, 1) := by decide +kernel
theorem dX0_fall_150 : decode cX0_fall 150 = .ok (.getfield 15, 3) := by decide +kernel
theorem dX0_fall_153 : decode cX0_fall 153 = .ok (.iload 5, 2) := by decide +kernel
theorem dX0_fall_155 : decode cX0_fall 155 = .ok (.iaload, 1) := by decide +kernel
theorem dX0_fall_156 : decode cX0_fall 156 = .ok (.goto 10, 3) := by decide +kernel
theorem dX0_fall_159 : decode cX0_fall 159 = .ok (.aload_n 0, 1) := by decide +kernel
theorem dX0_fall_160 : decode cX0_fall 160 = .ok (.getfield 18, 3) := by decide +kernel
theorem dX0_fall_163 : decode cX0_fall 163 = .ok (.iload 5, 2) := by decide +kernel
theorem dX0_fall_165 : decode cX0_fall 165 = .ok (.iaload, 1) := by decide +kernel
theorem dX0_fall_166 : decode cX0_fall 166 = .ok (.istore 5, 2) := by decide +kernel
theorem dX0_fall_168 : decode cX0_fall 168 = .ok (.goto 71, 3) := by decide +kernel
theorem dX0_fall_171 : decode cX0_fall 171 = .ok (.iload 8, 2) := by decide +kernel
theorem dX0_fall_173 : decode cX0_fall 173 = .ok (.iconst 1, 1) := by decide +kernel
theorem dX0_fall_174 : decode cX0_fall 174 = .ok (.iadd, 1) := by decide +kernel
theorem dX0_fall_175 : decode cX0_fall 175 = .ok (.iload 7, 2) := by decide +kernel
theorem dX0_fall_177 : decode cX0_fall 177 = .ok (.if_icmp .lt 7, 3) := by decide +kernel
theorem dX0_fall_180 : decode cX0_fall 180 = .ok (.iconst 1, 1) := by decide +kernel
theorem dX0_fall_181 : decode cX0_fall 181 = .ok (.goto 4, 3) := by decide +kernel
theorem dX0_fall_184 : decode cX0_fall 184 = .ok (.iconst 0, 1) := by decide +kernel
theorem dX0_fall_185 : decode cX0_fall 185 = .ok (.istore 9, 2) := by decide +kernel
theorem dX0_fall_187 : decode cX0_fall 187 = .ok (.iload 4, 2) := by decide +kernel
theorem dX0_fall_189 : decode cX0_fall 189 = .ok (.iload 5, 2) := by decide +kernel
theorem dX0_fall_191 : decode cX0_fall 191 = .ok (.iload 9, 2) := by decide +kernel
theorem dX0_fall_193 : decode cX0_fall 193 = .ok (.ifCond .eq 7, 3) := by decide +kernel
theorem dX0_fall_196 : decode cX0_fall 196 = .ok (.iconst 0, 1) := by decide +kernel
theorem dX0_fall_197 : decode cX0_fall 197 = .ok (.goto 7, 3) := by decide +kernel
theorem dX0_fall_200 : decode cX0_fall 200 = .ok (.iload 8, 2) := by decide +kernel
theorem dX0_fall_202 : decode cX0_fall 202 = .ok (.iconst 1, 1) := by decide +kernel
theorem dX0_fall_203 : decode cX0_fall 203 = .ok (.iadd, 1) := by decide +kernel
theorem dX0_fall_204 : decode cX0_fall 204 = .ok (.invokestatic 52, 3) := by decide +kernel
theorem dX0_fall_207 : decode cX0_fall 207 = .ok (.istore 4, 2) := by decide +kernel
theorem dX0_fall_209 : decode cX0_fall 209 = .ok (.iload 9, 2) := by decide +kernel
theorem dX0_fall_211 : decode cX0_fall 211 = .ok (.ifCond .eq 13, 3) := by decide +kernel
theorem dX0_fall_214 : decode cX0_fall 214 = .ok (.aload_n 0, 1) := by decide +kernel
theorem dX0_fall_215 : decode cX0_fall 215 = .ok (.getfield 15, 3) := by decide +kernel
theorem dX0_fall_218 : decode cX0_fall 218 = .ok (.iload 5, 2) := by decide +kernel
theorem dX0_fall_220 : decode cX0_fall 220 = .ok (.iaload, 1) := by decide +kernel
theorem dX0_fall_221 : decode cX0_fall 221 = .ok (.goto 5, 3) := by decide +kernel
theorem dX0_fall_224 : decode cX0_fall 224 = .ok (.bipush (-9), 2) := by decide +kernel
theorem dX0_fall_226 : decode cX0_fall 226 = .ok (.istore 5, 2) := by decide +kernel
theorem dX0_fall_228 : decode cX0_fall 228 = .ok (.goto 11, 3) := by decide +kernel
theorem dX0_fall_231 : decode cX0_fall 231 = .ok (.iload 4, 2) := by decide +kernel
theorem dX0_fall_233 : decode cX0_fall 233 = .ok (.iload 5, 2) := by decide +kernel
theorem dX0_fall_235 : decode cX0_fall 235 = .ok (.invokestatic 55, 3) := by decide +kernel
theorem dX0_fall_238 : decode cX0_fall 238 = .ok (.ireturn, 1) := by decide +kernel
theorem dX0_fall_239 : decode cX0_fall 239 = .ok (.iinc 6 1, 3) := by decide +kernel
theorem dX0_fall_242 : decode cX0_fall 242 = .ok (.goto (-228), 3) := by decide +kernel
theorem dX0_fall_245 : decode cX0_fall 245 = .ok (.iload 4, 2) := by decide +kernel
theorem dX0_fall_247 : decode cX0_fall 247 = .ok (.bipush (-9), 2) := by decide +kernel
theorem dX0_fall_249 : decode cX0_fall 249 = .ok (.invokestatic 55, 3) := by decide +kernel
theorem dX0_fall_252 : decode cX0_fall 252 = .ok (.ireturn, 1) := by decide +kernel
theorem dX1_init_0 : decode cX1_init 0 = .ok (.aload_n 0, 1) := by decide +kernel
theorem dX1_init_1 : decode cX1_init 1 = .ok (.invokespecial 3, 3) := by decide +kernel
theorem dX1_init_4 : decode cX1_init 4 = .ok (.aload_n 0, 1) := by decide +kernel
theorem dX1_init_5 : decode cX1_init 5 = .ok (.bipush (-9), 2) := by decide +kernel
theorem dX1_init_7 : decode cX1_init 7 = .ok (.putfield 9, 3) := by decide +kernel
theorem dX1_init_10 : decode cX1_init 10 = .ok (.aload_n 0, 1) := by decide +kernel
theorem dX1_init_11 : decode cX1_init 11 = .ok (.bipush 9, 2) := by decide +kernel
theorem dX1_init_13 : decode cX1_init 13 = .ok (.newarray .int, 2) := by decide +kernel
theorem dX1_init_15 : decode cX1_init 15 = .ok (.putfield 15, 3) := by decide +kernel
theorem dX1_init_18 : decode cX1_init 18 = .ok (.aload_n 0, 1) := by decide +kernel
theorem dX1_init_19 : decode cX1_init 19 = .ok (.bipush 20, 2) := by decide +kernel
theorem dX1_init_21 : decode cX1_init 21 = .ok (.newarray .int, 2) := by decide +kernel
theorem dX1_init_23 : decode cX1_init 23 = .ok (.putfield 19, 3) := by decide +kernel
theorem dX1_init_26 : decode cX1_init 26 = .ok (.return_, 1) := by decide +kernel
set_option maxRecDepth 20000 in
theorem ggX1_begin_J7_fill_53178 : GoodIn wsX1_begin wsJ7_fill_53178 := goodIn_r _ [9] (by decide +kernel) (by decide +kernel)
set_option maxRecDepth 20000 in
theorem gX1_begin_J7_fill_53178 : GoodIn wsX1_begin (va_wsS RX1 31 yJ7_fill_53178 wsJ7_fill_53178) := goodIn_app (goodIn_of _ (by decide +kernel)) ggX1_begin_J7_fill_53178
theorem dX1_begin_0 : decode cX1_begin 0 = .ok (.aload_n 0, 1) := by decide +kernel
theorem dX1_begin_1 : decode cX1_begin 1 = .ok (.iconst 0, 1) := by decide +kernel
theorem dX1_begin_2 : decode cX1_begin 2 = .ok (.putfield 22, 3) := by decide +kernel
theorem dX1_begin_5 : decode cX1_begin 5 = .ok (.aload_n 0, 1) := by decide +kernel
theorem dX1_begin_6 : decode cX1_begin 6 = .ok (.bipush (-9), 2) := by decide +kernel
theorem dX1_begin_8 : decode cX1_begin 8 = .ok (.putfield 9, 3) := by decide +kernel
theorem dX1_begin_11 : decode cX1_begin 11 = .ok (.aload_n 0, 1) := by decide +kernel
theorem dX1_begin_12 : decode cX1_begin 12 = .ok (.iconst 0, 1) := by decide +kernel
theorem dX1_begin_13 : decode cX1_begin 13 = .ok (.putfield 25, 3) := by decide +kernel
theorem dX1_begin_16 : decode cX1_begin 16 = .ok (.aload_n 0, 1) := by decide +kernel
theorem dX1_begin_17 : decode cX1_begin 17 = .ok (.iconst 0, 1) := by decide +kernel
theorem dX1_begin_18 : decode cX1_begin 18 = .ok (.putfield 28, 3) := by decide +kernel
theorem dX1_begin_21 : decode cX1_begin 21 = .ok (.aload_n 0, 1) := by decide +kernel
theorem dX1_begin_22 : decode cX1_begin 22 = .ok (.getfield 15, 3) := by decide +kernel
theorem dX1_begin_25 : decode cX1_begin 25 = .ok (.iconst 0, 1) := by decide +kernel
theorem dX1_begin_26 : decode cX1_begin 26 = .ok (.invokestatic 31, 3) := by decide +kernel
theorem dX1_begin_29 : decode cX1_begin 29 = .ok (.return_, 1) := by decide +kernel
theorem dX1_become_0 : decode cX1_become 0 = .ok (.aload_n 1, 1) := by decide +kernel
theorem dX1_become_1 : decode cX1_become 1 = .ok (.ifnonnull 4, 3) := by decide +kernel
theorem dX1_become_4 : decode cX1_become 4 = .ok (.return_, 1) := by decide +kernel
theorem dX1_become_5 : decode cX1_become 5 = .ok (.aload_n 0, 1) := by decide +kernel
theorem dX1_become_6 : decode cX1_become 6 = .ok (.aload_n 1, 1) := by decide +kernel
theorem dX1_become_7 : decode cX1_become 7 = .ok (.getfield 22, 3) := by decide +kernel
theorem dX1_become_10 : decode cX1_become 10 = .ok (.putfield 22, 3) := by decide +kernel
theorem dX1_become_13 : decode cX1_become 13 = .ok (.aload_n 0, 1) := by decide +kernel
theorem dX1_become_14 : decode cX1_become 14 = .ok (.aload_n 1, 1) := by decide +kernel
theorem dX1_become_15 : decode cX1_become 15 = .ok (.getfield 9, 3) := by decide +kernel
theorem dX1_become_18 : decode cX1_become 18 = .ok (.putfield 9, 3) := by decide +kernel
theorem dX1_become_21 : decode cX1_become 21 = .ok (.aload_n 0, 1) := by decide +kernel
theorem dX1_become_22 : decode cX1_become 22 = .ok (.aload_n 1, 1) := by decide +kernel
theorem dX1_become_23 : decode cX1_become 23 = .ok (.getfield 25, 3) := by decide +kernel
theorem dX1_become_26 : decode cX1_become 26 = .ok (.putfield 25, 3) := by decide +kernel
theorem dX1_become_29 : decode cX1_become 29 = .ok (.aload_n 0, 1) := by decide +kernel
theorem dX1_become_30 : decode cX1_become 30 = .ok (.aload_n 1, 1) := by decide +kernel
theorem dX1_become_31 : decode cX1_become 31 = .ok (.getfield 28, 3) := by decide +kernel
theorem dX1_become_34 : decode cX1_become 34 = .ok (.putfield 28, 3) := by decide +kernel
theorem dX1_become_37 : decode cX1_become 37 = .ok (.aload_n 1, 1) := by decide +kernel
theorem dX1_become_38 : decode cX1_become 38 = .ok (.getfield 15, 3) := by decide +kernel
theorem dX1_become_41 : decode cX1_become 41 = .ok (.iconst 0, 1) := by decide +kernel
theorem dX1_become_42 : decode cX1_become 42 = .ok (.aload_n 0, 1) := by decide +kernel
theorem dX1_become_43 : decode cX1_become 43 = .ok (.getfield 15, 3) := by decide +kernel
theorem dX1_become_46 : decode cX1_become 46 = .ok (.iconst 0, 1) := by decide +kernel
theorem dX1_become_47 : decode cX1_become 47 = .ok (.bipush 9, 2) := by decide +kernel
theorem dX1_become_49 : decode cX1_become 49 = .ok (.invokestatic 37, 3) := by decide +kernel
theorem dX1_become_52 : decode cX1_become 52 = .ok (.aload_n 1, 1) := by decide +kernel
theorem dX1_become_53 : decode cX1_become 53 = .ok (.getfield 19, 3) := by decide +kernel
theorem dX1_become_56 : decode cX1_become 56 = .ok (.iconst 0, 1) := by decide +kernel
theorem dX1_become_57 : decode cX1_become 57 = .ok (.aload_n 0, 1) := by decide +kernel
theorem dX1_become_58 : decode cX1_become 58 = .ok (.getfield 19, 3) := by decide +kernel
theorem dX1_become_61 : decode cX1_become 61 = .ok (.iconst 0, 1) := by decide +kernel
theorem dX1_become_62 : decode cX1_become 62 = .ok (.bipush 20, 2) := by decide +kernel
theorem dX1_become_64 : decode cX1_become 64 = .ok (.invokestatic 37, 3) := by decide +kernel
theorem dX1_become_67 : decode cX1_become 67 = .ok (.return_, 1) := by decide +kernel
set_option maxRecDepth 20000 in
theorem ggX1_take_X2_comesOf : GoodIn wsX1_take wsX2_comesOf := goodIn_r _ [12] (by decide +kernel) (by decide +kernel)
set_option maxRecDepth 20000 in
theorem gX1_take_X2_comesOf : GoodIn wsX1_take (va_wsS RX1 43 yX2_comesOf wsX2_comesOf) := goodIn_app (goodIn_of _ (by decide +kernel)) ggX1_take_X2_comesOf
set_option maxRecDepth 20000 in
theorem ggX1_take_X2_outcome : GoodIn wsX1_take wsX2_outcome := goodIn_r _ [15] (by decide +kernel) (by decide +kernel)
set_option maxRecDepth 20000 in
theorem gX1_take_X2_outcome : GoodIn wsX1_take (va_wsS RX1 49 yX2_outcome wsX2_outcome) := goodIn_app (goodIn_of _ (by decide +kernel)) ggX1_take_X2_outcome
set_option maxRecDepth 20000 in
theorem ggX1_take_X1_changeAt : GoodIn wsX1_take wsX1_changeAt := goodIn_r _ [20, 21, 26, 27, 28, 29, 30, 31] (by decide +kernel) (by decide +kernel)
set_option maxRecDepth 20000 in
theorem gX1_take_X1_changeAt : GoodIn wsX1_take (wsV RX1 53 RX1 yX1_changeAt wsX1_changeAt) := goodIn_app (goodIn_of _ (by decide +kernel)) ggX1_take_X1_changeAt
set_option maxRecDepth 20000 in
theorem ggX1_take_X2_standingOf : GoodIn wsX1_take wsX2_standingOf := goodIn_r _ [24, 25] (by decide +kernel) (by decide +kernel)
set_option maxRecDepth 20000 in
theorem gX1_take_X2_standingOf : GoodIn wsX1_take (va_wsS RX1 57 yX2_standingOf wsX2_standingOf) := goodIn_app (goodIn_of _ (by decide +kernel)) ggX1_take_X2_standingOf
theorem dX1_take_0 : decode cX1_take 0 = .ok (.iload_n 1, 1) := by decide +kernel
theorem dX1_take_1 : decode cX1_take 1 = .ok (.invokestatic 43, 3) := by decide +kernel
theorem dX1_take_4 : decode cX1_take 4 = .ok (.istore_n 2, 1) := by decide +kernel
theorem dX1_take_5 : decode cX1_take 5 = .ok (.aload_n 0, 1) := by decide +kernel
theorem dX1_take_6 : decode cX1_take 6 = .ok (.getfield 28, 3) := by decide +kernel
theorem dX1_take_9 : decode cX1_take 9 = .ok (.bipush 20, 2) := by decide +kernel
theorem dX1_take_11 : decode cX1_take 11 = .ok (.if_icmp .lt 24, 3) := by decide +kernel
theorem dX1_take_14 : decode cX1_take 14 = .ok (.aload_n 0, 1) := by decide +kernel
theorem dX1_take_15 : decode cX1_take 15 = .ok (.getfield 19, 3) := by decide +kernel
theorem dX1_take_18 : decode cX1_take 18 = .ok (.iconst 1, 1) := by decide +kernel
theorem dX1_take_19 : decode cX1_take 19 = .ok (.aload_n 0, 1) := by decide +kernel
theorem dX1_take_20 : decode cX1_take 20 = .ok (.getfield 19, 3) := by decide +kernel
theorem dX1_take_23 : decode cX1_take 23 = .ok (.iconst 0, 1) := by decide +kernel
theorem dX1_take_24 : decode cX1_take 24 = .ok (.bipush 19, 2) := by decide +kernel
theorem dX1_take_26 : decode cX1_take 26 = .ok (.invokestatic 37, 3) := by decide +kernel
theorem dX1_take_29 : decode cX1_take 29 = .ok (.aload_n 0, 1) := by decide +kernel
theorem dX1_take_30 : decode cX1_take 30 = .ok (.bipush 19, 2) := by decide +kernel
theorem dX1_take_32 : decode cX1_take 32 = .ok (.putfield 28, 3) := by decide +kernel
theorem dX1_take_35 : decode cX1_take 35 = .ok (.aload_n 0, 1) := by decide +kernel
theorem dX1_take_36 : decode cX1_take 36 = .ok (.getfield 28, 3) := by decide +kernel
theorem dX1_take_39 : decode cX1_take 39 = .ok (.ifCond .lt 30, 3) := by decide +kernel
theorem dX1_take_42 : decode cX1_take 42 = .ok (.aload_n 0, 1) := by decide +kernel
theorem dX1_take_43 : decode cX1_take 43 = .ok (.getfield 19, 3) := by decide +kernel
theorem dX1_take_46 : decode cX1_take 46 = .ok (.aload_n 0, 1) := by decide +kernel
theorem dX1_take_47 : decode cX1_take 47 = .ok (.getfield 28, 3) := by decide +kernel
theorem dX1_take_50 : decode cX1_take 50 = .ok (.aload_n 0, 1) := by decide +kernel
theorem dX1_take_51 : decode cX1_take 51 = .ok (.getfield 22, 3) := by decide +kernel
theorem dX1_take_54 : decode cX1_take 54 = .ok (.iload_n 2, 1) := by decide +kernel
theorem dX1_take_55 : decode cX1_take 55 = .ok (.invokestatic 49, 3) := by decide +kernel
theorem dX1_take_58 : decode cX1_take 58 = .ok (.iastore, 1) := by decide +kernel
theorem dX1_take_59 : decode cX1_take 59 = .ok (.aload_n 0, 1) := by decide +kernel
theorem dX1_take_60 : decode cX1_take 60 = .ok (.dup, 1) := by decide +kernel
theorem dX1_take_61 : decode cX1_take 61 = .ok (.getfield 28, 3) := by decide +kernel
theorem dX1_take_64 : decode cX1_take 64 = .ok (.iconst 1, 1) := by decide +kernel
theorem dX1_take_65 : decode cX1_take 65 = .ok (.iadd, 1) := by decide +kernel
theorem dX1_take_66 : decode cX1_take 66 = .ok (.putfield 28, 3) := by decide +kernel
theorem dX1_take_69 : decode cX1_take 69 = .ok (.aload_n 0, 1) := by decide +kernel
theorem dX1_take_70 : decode cX1_take 70 = .ok (.iload_n 2, 1) := by decide +kernel
theorem dX1_take_71 : decode cX1_take 71 = .ok (.iconst 1, 1) := by decide +kernel
theorem dX1_take_72 : decode cX1_take 72 = .ok (.invokevirtual 53, 3) := by decide +kernel
theorem dX1_take_75 : decode cX1_take 75 = .ok (.aload_n 0, 1) := by decide +kernel
theorem dX1_take_76 : decode cX1_take 76 = .ok (.iload_n 1, 1) := by decide +kernel
theorem dX1_take_77 : decode cX1_take 77 = .ok (.invokestatic 57, 3) := by decide +kernel
theorem dX1_take_80 : decode cX1_take 80 = .ok (.putfield 22, 3) := by decide +kernel
theorem dX1_take_83 : decode cX1_take 83 = .ok (.aload_n 0, 1) := by decide +kernel
theorem dX1_take_84 : decode cX1_take 84 = .ok (.dup, 1) := by decide +kernel
theorem dX1_take_85 : decode cX1_take 85 = .ok (.getfield 25, 3) := by decide +kernel
theorem dX1_take_88 : decode cX1_take 88 = .ok (.iconst 1, 1) := by decide +kernel
theorem dX1_take_89 : decode cX1_take 89 = .ok (.iadd, 1) := by decide +kernel
theorem dX1_take_90 : decode cX1_take 90 = .ok (.putfield 25, 3) := by decide +kernel
theorem dX1_take_93 : decode cX1_take 93 = .ok (.return_, 1) := by decide +kernel
set_option maxRecDepth 20000 in
theorem ggX1_takeBack_X2_comesOf : GoodIn wsX1_takeBack wsX2_comesOf := goodIn_r _ [8] (by decide +kernel) (by decide +kernel)
set_option maxRecDepth 20000 in
theorem gX1_takeBack_X2_comesOf : GoodIn wsX1_takeBack (va_wsS RX1 43 yX2_comesOf wsX2_comesOf) := goodIn_app (goodIn_of _ (by decide +kernel)) ggX1_takeBack_X2_comesOf
set_option maxRecDepth 20000 in
theorem ggX1_takeBack_X1_changeAt : GoodIn wsX1_takeBack wsX1_changeAt := goodIn_r _ [13, 14, 19, 20, 21, 22, 23, 24] (by decide +kernel) (by decide +kernel)
set_option maxRecDepth 20000 in
theorem gX1_takeBack_X1_changeAt : GoodIn wsX1_takeBack (wsV RX1 53 RX1 yX1_changeAt wsX1_changeAt) := goodIn_app (goodIn_of _ (by decide +kernel)) ggX1_takeBack_X1_changeAt
