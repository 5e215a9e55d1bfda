theorem dX2_layOut_63 : decode cX2_layOut 63 = .ok (.ireturn, 1) := by decide +kernel
theorem dX2_nextSeed_0 : decode cX2_nextSeed 0 = .ok (.iload_n 0, 1) := by decide +kernel
theorem dX2_nextSeed_1 : decode cX2_nextSeed 1 = .ok (.ldc 163, 2) := by decide +kernel
theorem dX2_nextSeed_3 : decode cX2_nextSeed 3 = .ok (.imul, 1) := by decide +kernel
theorem dX2_nextSeed_4 : decode cX2_nextSeed 4 = .ok (.sipush 12345, 3) := by decide +kernel
theorem dX2_nextSeed_7 : decode cX2_nextSeed 7 = .ok (.iadd, 1) := by decide +kernel
theorem dX2_nextSeed_8 : decode cX2_nextSeed 8 = .ok (.ireturn, 1) := by decide +kernel
theorem dX2_drawn_0 : decode cX2_drawn 0 = .ok (.iload_n 1, 1) := by decide +kernel
theorem dX2_drawn_1 : decode cX2_drawn 1 = .ok (.iconst 1, 1) := by decide +kernel
theorem dX2_drawn_2 : decode cX2_drawn 2 = .ok (.if_icmp .ge 7, 3) := by decide +kernel
theorem dX2_drawn_5 : decode cX2_drawn 5 = .ok (.iconst 0, 1) := by decide +kernel
theorem dX2_drawn_6 : decode cX2_drawn 6 = .ok (.goto 12, 3) := by decide +kernel
theorem dX2_drawn_9 : decode cX2_drawn 9 = .ok (.iload_n 0, 1) := by decide +kernel
theorem dX2_drawn_10 : decode cX2_drawn 10 = .ok (.ldc 164, 2) := by decide +kernel
theorem dX2_drawn_12 : decode cX2_drawn 12 = .ok (.iand, 1) := by decide +kernel
theorem dX2_drawn_13 : decode cX2_drawn 13 = .ok (.bipush 16, 2) := by decide +kernel
theorem dX2_drawn_15 : decode cX2_drawn 15 = .ok (.ishr, 1) := by decide +kernel
theorem dX2_drawn_16 : decode cX2_drawn 16 = .ok (.iload_n 1, 1) := by decide +kernel
theorem dX2_drawn_17 : decode cX2_drawn 17 = .ok (.irem, 1) := by decide +kernel
theorem dX2_drawn_18 : decode cX2_drawn 18 = .ok (.ireturn, 1) := by decide +kernel
set_option maxRecDepth 20000 in
theorem ggX3_init_X0_init : GoodIn wsX3_init wsX0_init := goodIn_r _ [9, 10, 2, 3, 11, 12, 13, 14, 15, 16, 17, 18, 19, 23, 24, 25, 26, 27, 28, 29, 30, 31, 32, 33] (by decide +kernel) (by decide +kernel)
set_option maxRecDepth 20000 in
theorem gX3_init_X0_init_n15 : GoodIn wsX3_init (wsX0_init) := ggX3_init_X0_init
theorem dX3_init_0 : decode cX3_init 0 = .ok (.aload_n 0, 1) := by decide +kernel
theorem dX3_init_1 : decode cX3_init 1 = .ok (.invokespecial 1, 3) := by decide +kernel
theorem dX3_init_4 : decode cX3_init 4 = .ok (.aload_n 0, 1) := by decide +kernel
theorem dX3_init_5 : decode cX3_init 5 = .ok (.bipush 8, 2) := by decide +kernel
theorem dX3_init_7 : decode cX3_init 7 = .ok (.anewarray 9, 3) := by decide +kernel
theorem dX3_init_10 : decode cX3_init 10 = .ok (.putfield 11, 3) := by decide +kernel
theorem dX3_init_13 : decode cX3_init 13 = .ok (.iconst 0, 1) := by decide +kernel
theorem dX3_init_14 : decode cX3_init 14 = .ok (.istore_n 1, 1) := by decide +kernel
theorem dX3_init_15 : decode cX3_init 15 = .ok (.iload_n 1, 1) := by decide +kernel
theorem dX3_init_16 : decode cX3_init 16 = .ok (.bipush 8, 2) := by decide +kernel
theorem dX3_init_18 : decode cX3_init 18 = .ok (.if_icmp .ge 22, 3) := by decide +kernel
theorem dX3_init_21 : decode cX3_init 21 = .ok (.aload_n 0, 1) := by decide +kernel
theorem dX3_init_22 : decode cX3_init 22 = .ok (.getfield 11, 3) := by decide +kernel
theorem dX3_init_25 : decode cX3_init 25 = .ok (.iload_n 1, 1) := by decide +kernel
theorem dX3_init_26 : decode cX3_init 26 = .ok (.new 9, 3) := by decide +kernel
theorem dX3_init_29 : decode cX3_init 29 = .ok (.dup, 1) := by decide +kernel
theorem dX3_init_30 : decode cX3_init 30 = .ok (.invokespecial 15, 3) := by decide +kernel
theorem dX3_init_33 : decode cX3_init 33 = .ok (.aastore, 1) := by decide +kernel
theorem dX3_init_34 : decode cX3_init 34 = .ok (.iinc 1 1, 3) := by decide +kernel
theorem dX3_init_37 : decode cX3_init 37 = .ok (.goto (-22), 3) := by decide +kernel
theorem dX3_init_40 : decode cX3_init 40 = .ok (.return_, 1) := by decide +kernel
set_option maxRecDepth 20000 in
theorem ggX3_keep_X0_become : GoodIn wsX3_keep wsX0_become := goodIn_r _ [11, 12, 13, 14, 15, 16, 17, 18, 19, 20, 21, 22, 23, 24, 25, 26, 30, 31, 32, 33, 34, 35, 36, 37, 38, 39, 40] (by decide +kernel) (by decide +kernel)
set_option maxRecDepth 20000 in
theorem gX3_keep_X0_become_n20 : GoodIn wsX3_keep (wsX0_become) := ggX3_keep_X0_become
theorem dX3_keep_0 : decode cX3_keep 0 = .ok (.aload_n 0, 1) := by decide +kernel
theorem dX3_keep_1 : decode cX3_keep 1 = .ok (.aload_n 0, 1) := by decide +kernel
theorem dX3_keep_2 : decode cX3_keep 2 = .ok (.getfield 16, 3) := by decide +kernel
theorem dX3_keep_5 : decode cX3_keep 5 = .ok (.iconst 1, 1) := by decide +kernel
theorem dX3_keep_6 : decode cX3_keep 6 = .ok (.iadd, 1) := by decide +kernel
theorem dX3_keep_7 : decode cX3_keep 7 = .ok (.bipush 8, 2) := by decide +kernel
theorem dX3_keep_9 : decode cX3_keep 9 = .ok (.irem, 1) := by decide +kernel
theorem dX3_keep_10 : decode cX3_keep 10 = .ok (.putfield 16, 3) := by decide +kernel
theorem dX3_keep_13 : decode cX3_keep 13 = .ok (.aload_n 0, 1) := by decide +kernel
theorem dX3_keep_14 : decode cX3_keep 14 = .ok (.getfield 11, 3) := by decide +kernel
theorem dX3_keep_17 : decode cX3_keep 17 = .ok (.aload_n 0, 1) := by decide +kernel
theorem dX3_keep_18 : decode cX3_keep 18 = .ok (.getfield 16, 3) := by decide +kernel
theorem dX3_keep_21 : decode cX3_keep 21 = .ok (.aaload, 1) := by decide +kernel
theorem dX3_keep_22 : decode cX3_keep 22 = .ok (.aload_n 1, 1) := by decide +kernel
theorem dX3_keep_23 : decode cX3_keep 23 = .ok (.invokevirtual 20, 3) := by decide +kernel
theorem dX3_keep_26 : decode cX3_keep 26 = .ok (.aload_n 0, 1) := by decide +kernel
theorem dX3_keep_27 : decode cX3_keep 27 = .ok (.bipush 8, 2) := by decide +kernel
theorem dX3_keep_29 : decode cX3_keep 29 = .ok (.aload_n 0, 1) := by decide +kernel
theorem dX3_keep_30 : decode cX3_keep 30 = .ok (.getfield 24, 3) := by decide +kernel
theorem dX3_keep_33 : decode cX3_keep 33 = .ok (.iconst 1, 1) := by decide +kernel
theorem dX3_keep_34 : decode cX3_keep 34 = .ok (.iadd, 1) := by decide +kernel
theorem dX3_keep_35 : decode cX3_keep 35 = .ok (.invokestatic 27, 3) := by decide +kernel
theorem dX3_keep_38 : decode cX3_keep 38 = .ok (.putfield 24, 3) := by decide +kernel
theorem dX3_keep_41 : decode cX3_keep 41 = .ok (.return_, 1) := by decide +kernel
set_option maxRecDepth 20000 in
theorem ggX3_takeBack_X0_become : GoodIn wsX3_takeBack wsX0_become := goodIn_r _ [7, 8, 9, 10, 11, 12, 13, 14, 15, 16, 17, 18, 19, 20, 21, 22, 26, 27, 28, 29, 30, 31, 32, 33, 34, 35, 36] (by decide +kernel) (by decide +kernel)
set_option maxRecDepth 20000 in
theorem gX3_takeBack_X0_become_n20 : GoodIn wsX3_takeBack (wsX0_become) := ggX3_takeBack_X0_become
theorem dX3_takeBack_0 : decode cX3_takeBack 0 = .ok (.aload_n 1, 1) := by decide +kernel
theorem dX3_takeBack_1 : decode cX3_takeBack 1 = .ok (.aload_n 0, 1) := by decide +kernel
theorem dX3_takeBack_2 : decode cX3_takeBack 2 = .ok (.getfield 11, 3) := by decide +kernel
theorem dX3_takeBack_5 : decode cX3_takeBack 5 = .ok (.aload_n 0, 1) := by decide +kernel
theorem dX3_takeBack_6 : decode cX3_takeBack 6 = .ok (.getfield 16, 3) := by decide +kernel
theorem dX3_takeBack_9 : decode cX3_takeBack 9 = .ok (.aaload, 1) := by decide +kernel
theorem dX3_takeBack_10 : decode cX3_takeBack 10 = .ok (.invokevirtual 20, 3) := by decide +kernel
theorem dX3_takeBack_13 : decode cX3_takeBack 13 = .ok (.aload_n 0, 1) := by decide +kernel
theorem dX3_takeBack_14 : decode cX3_takeBack 14 = .ok (.aload_n 0, 1) := by decide +kernel
theorem dX3_takeBack_15 : decode cX3_takeBack 15 = .ok (.getfield 16, 3) := by decide +kernel
theorem dX3_takeBack_18 : decode cX3_takeBack 18 = .ok (.bipush 8, 2) := by decide +kernel
theorem dX3_takeBack_20 : decode cX3_takeBack 20 = .ok (.iadd, 1) := by decide +kernel
theorem dX3_takeBack_21 : decode cX3_takeBack 21 = .ok (.iconst 1, 1) := by decide +kernel
theorem dX3_takeBack_22 : decode cX3_takeBack 22 = .ok (.isub, 1) := by decide +kernel
theorem dX3_takeBack_23 : decode cX3_takeBack 23 = .ok (.bipush 8, 2) := by decide +kernel
theorem dX3_takeBack_25 : decode cX3_takeBack 25 = .ok (.irem, 1) := by decide +kernel
theorem dX3_takeBack_26 : decode cX3_takeBack 26 = .ok (.putfield 16, 3) := by decide +kernel
theorem dX3_takeBack_29 : decode cX3_takeBack 29 = .ok (.aload_n 0, 1) := by decide +kernel
theorem dX3_takeBack_30 : decode cX3_takeBack 30 = .ok (.dup, 1) := by decide +kernel
theorem dX3_takeBack_31 : decode cX3_takeBack 31 = .ok (.getfield 24, 3) := by decide +kernel
theorem dX3_takeBack_34 : decode cX3_takeBack 34 = .ok (.iconst 1, 1) := by decide +kernel
theorem dX3_takeBack_35 : decode cX3_takeBack 35 = .ok (.isub, 1) := by decide +kernel
theorem dX3_takeBack_36 : decode cX3_takeBack 36 = .ok (.putfield 24, 3) := by decide +kernel
theorem dX3_takeBack_39 : decode cX3_takeBack 39 = .ok (.return_, 1) := by decide +kernel
set_option maxRecDepth 20000 in
theorem ggX4_init_X2_init : GoodIn wsX4_init wsX2_init := goodIn_r _ [25, 26, 2, 3, 27, 10, 11, 28, 29, 21, 30, 31, 32, 33, 34, 35, 36, 37, 38, 39, 40, 41, 42, 65, 66, 67, 68, 69, 70, 71, 72, 73, 74, 75, 52, 53, 54, 55] (by decide +kernel) (by decide +kernel)
set_option maxRecDepth 20000 in
theorem gX4_init_X2_init_n9 : GoodIn wsX4_init (wsX2_init) := ggX4_init_X2_init
set_option maxRecDepth 20000 in
theorem ggX4_init_X0_init : GoodIn wsX4_init wsX0_init := goodIn_r _ [33, 34, 2, 3, 21, 35, 36, 37, 38, 39, 40, 41, 42, 65, 66, 67, 68, 69, 70, 71, 72, 73, 74, 75] (by decide +kernel) (by decide +kernel)
set_option maxRecDepth 20000 in
theorem gX4_init_X0_init_n23 : GoodIn wsX4_init (wsX0_init) := ggX4_init_X0_init
set_option maxRecDepth 20000 in
theorem ggX4_init_X3_init : GoodIn wsX4_init wsX3_init := goodIn_r _ [44, 45, 2, 3, 46, 47, 10, 11, 32, 33, 34, 21, 35, 36, 37, 38, 39, 40, 41, 42, 76, 77, 78, 65, 66, 67, 68, 69, 70, 71, 72, 73, 74, 75] (by decide +kernel) (by decide +kernel)
set_option maxRecDepth 20000 in
theorem gX4_init_X3_init_n29 : GoodIn wsX4_init (wsX3_init) := ggX4_init_X3_init
set_option maxRecDepth 20000 in
theorem ggX4_init_X1_init : GoodIn wsX4_init wsX1_init := goodIn_r _ [49, 50, 2, 3, 21, 51, 79, 80] (by decide +kernel) (by decide +kernel)
set_option maxRecDepth 20000 in
theorem gX4_init_X1_init_n36 : GoodIn wsX4_init (wsX1_init) := ggX4_init_X1_init
theorem dX4_init_0 : decode cX4_init 0 = .ok (.aload_n 0, 1) := by decide +kernel
theorem dX4_init_1 : decode cX4_init 1 = .ok (.invokespecial 1, 3) := by decide +kernel
theorem dX4_init_4 : decode cX4_init 4 = .ok (.aload_n 0, 1) := by decide +kernel
theorem dX4_init_5 : decode cX4_init 5 = .ok (.new 7, 3) := by decide +kernel
theorem dX4_init_8 : decode cX4_init 8 = .ok (.dup, 1) := by decide +kernel
theorem dX4_init_9 : decode cX4_init 9 = .ok (.invokespecial 9, 3) := by decide +kernel
theorem dX4_init_12 : decode cX4_init 12 = .ok (.putfield 10, 3) := by decide +kernel
theorem dX4_init_15 : decode cX4_init 15 = .ok (.aload_n 0, 1) := by decide +kernel
theorem dX4_init_16 : decode cX4_init 16 = .ok (.aload_n 0, 1) := by decide +kernel
theorem dX4_init_17 : decode cX4_init 17 = .ok (.getfield 10, 3) := by decide +kernel
theorem dX4_init_20 : decode cX4_init 20 = .ok (.getfield 16, 3) := by decide +kernel
theorem dX4_init_23 : decode cX4_init 23 = .ok (.putfield 20, 3) := by decide +kernel
theorem dX4_init_26 : decode cX4_init 26 = .ok (.aload_n 0, 1) := by decide +kernel
theorem dX4_init_27 : decode cX4_init 27 = .ok (.new 21, 3) := by decide +kernel
theorem dX4_init_30 : decode cX4_init 30 = .ok (.dup, 1) := by decide +kernel
theorem dX4_init_31 : decode cX4_init 31 = .ok (.invokespecial 23, 3) := by decide +kernel
theorem dX4_init_34 : decode cX4_init 34 = .ok (.putfield 24, 3) := by decide +kernel
theorem dX4_init_37 : decode cX4_init 37 = .ok (.aload_n 0, 1) := by decide +kernel
theorem dX4_init_38 : decode cX4_init 38 = .ok (.new 27, 3) := by decide +kernel
theorem dX4_init_41 : decode cX4_init 41 = .ok (.dup, 1) := by decide +kernel
theorem dX4_init_42 : decode cX4_init 42 = .ok (.invokespecial 29, 3) := by decide +kernel
theorem dX4_init_45 : decode cX4_init 45 = .ok (.putfield 30, 3) := by decide +kernel
theorem dX4_init_48 : decode cX4_init 48 = .ok (.aload_n 0, 1) := by decide +kernel
theorem dX4_init_49 : decode cX4_init 49 = .ok (.new 34, 3) := by decide +kernel
theorem dX4_init_52 : decode cX4_init 52 = .ok (.dup, 1) := by decide +kernel
theorem dX4_init_53 : decode cX4_init 53 = .ok (.invokespecial 36, 3) := by decide +kernel
theorem dX4_init_56 : decode cX4_init 56 = .ok (.putfield 37, 3) := by decide +kernel
theorem dX4_init_59 : decode cX4_init 59 = .ok (.aload_n 0, 1) := by decide +kernel
theorem dX4_init_60 : decode cX4_init 60 = .ok (.bipush 12, 2) := by decide +kernel
theorem dX4_init_62 : decode cX4_init 62 = .ok (.newarray .int, 2) := by decide +kernel
theorem dX4_init_64 : decode cX4_init 64 = .ok (.putfield 41, 3) := by decide +kernel
theorem dX4_init_67 : decode cX4_init 67 = .ok (.aload_n 0, 1) := by decide +kernel
theorem dX4_init_68 : decode cX4_init 68 = .ok (.bipush 7, 2) := by decide +kernel
theorem dX4_init_70 : decode cX4_init 70 = .ok (.newarray .int, 2) := by decide +kernel
theorem dX4_init_72 : decode cX4_init 72 = .ok (.putfield 45, 3) := by decide +kernel
theorem dX4_init_75 : decode cX4_init 75 = .ok (.return_, 1) := by decide +kernel
theorem dX4_refuse_0 : decode cX4_refuse 0 = .ok (.iload_n 1, 1) := by decide +kernel
theorem dX4_refuse_1 : decode cX4_refuse 1 = .ok (.ifCond .ge 24, 3) := by decide +kernel
theorem dX4_refuse_4 : decode cX4_refuse 4 = .ok (.iload_n 1, 1) := by decide +kernel
theorem dX4_refuse_5 : decode cX4_refuse 5 = .ok (.ineg, 1) := by decide +kernel
theorem dX4_refuse_6 : decode cX4_refuse 6 = .ok (.aload_n 0, 1) := by decide +kernel
theorem dX4_refuse_7 : decode cX4_refuse 7 = .ok (.getfield 45, 3) := by decide +kernel
theorem dX4_refuse_10 : decode cX4_refuse 10 = .ok (.arraylength, 1) := by decide +kernel
theorem dX4_refuse_11 : decode cX4_refuse 11 = .ok (.if_icmp .ge 14, 3) := by decide +kernel
theorem dX4_refuse_14 : decode cX4_refuse 14 = .ok (.aload_n 0, 1) := by decide +kernel
theorem dX4_refuse_15 : decode cX4_refuse 15 = .ok (.getfield 45, 3) := by decide +kernel
theorem dX4_refuse_18 : decode cX4_refuse 18 = .ok (.iload_n 1, 1) := by decide +kernel
theorem dX4_refuse_19 : decode cX4_refuse 19 = .ok (.ineg, 1) := by decide +kernel
theorem dX4_refuse_20 : decode cX4_refuse 20 = .ok (.dup2, 1) := by decide +kernel
theorem dX4_refuse_21 : decode cX4_refuse 21 = .ok (.iaload, 1) := by decide +kernel
theorem dX4_refuse_22 : decode cX4_refuse 22 = .ok (.iconst 1, 1) := by decide +kernel
theorem dX4_refuse_23 : decode cX4_refuse 23 = .ok (.iadd, 1) := by decide +kernel
theorem dX4_refuse_24 : decode cX4_refuse 24 = .ok (.iastore, 1) := by decide +kernel
theorem dX4_refuse_25 : decode cX4_refuse 25 = .ok (.iload_n 1, 1) := by decide +kernel
theorem dX4_refuse_26 : decode cX4_refuse 26 = .ok (.ireturn, 1) := by decide +kernel
theorem dX4_below_0 : decode cX4_below 0 = .ok (.iload_n 0, 1) := by decide +kernel
theorem dX4_below_1 : decode cX4_below 1 = .ok (.iload_n 1, 1) := by decide +kernel
theorem dX4_below_2 : decode cX4_below 2 = .ok (.if_icmp .ge 8, 3) := by decide +kernel
theorem dX4_below_5 : decode cX4_below 5 = .ok (.bipush (-4), 2) := by decide +kernel
theorem dX4_below_7 : decode cX4_below 7 = .ok (.goto 4, 3) := by decide +kernel
theorem dX4_below_10 : decode cX4_below 10 = .ok (.iconst 0, 1) := by decide +kernel
theorem dX4_below_11 : decode cX4_below 11 = .ok (.ireturn, 1) := by decide +kernel
theorem dX4_above_0 : decode cX4_above 0 = .ok (.iload_n 0, 1) := by decide +kernel
theorem dX4_above_1 : decode cX4_above 1 = .ok (.iload_n 1, 1) := by decide +kernel
theorem dX4_above_2 : decode cX4_above 2 = .ok (.if_icmp .le 8, 3) := by decide +kernel
theorem dX4_above_5 : decode cX4_above 5 = .ok (.bipush (-6), 2) := by decide +kernel
theorem dX4_above_7 : decode cX4_above 7 = .ok (.goto 4, 3) := by decide +kernel
theorem dX4_above_10 : decode cX4_above 10 = .ok (.iconst 0, 1) := by decide +kernel
theorem dX4_above_11 : decode cX4_above 11 = .ok (.ireturn, 1) := by decide +kernel
set_option maxRecDepth 20000 in
theorem ggX4_outside_X4_above : GoodIn wsX4_outside wsX4_above := goodIn_r _ [4] (by decide +kernel) (by decide +kernel)
set_option maxRecDepth 20000 in
theorem gX4_outside_X4_above : GoodIn wsX4_outside (va_wsS RX4 48 yX4_above wsX4_above) := goodIn_app (goodIn_of _ (by decide +kernel)) ggX4_outside_X4_above
theorem dX4_outside_0 : decode cX4_outside 0 = .ok (.iload_n 0, 1) := by decide +kernel
theorem dX4_outside_1 : decode cX4_outside 1 = .ok (.iload_n 1, 1) := by decide +kernel
theorem dX4_outside_2 : decode cX4_outside 2 = .ok (.if_icmp .ge 8, 3) := by decide +kernel
theorem dX4_outside_5 : decode cX4_outside 5 = .ok (.bipush (-4), 2) := by decide +kernel
theorem dX4_outside_7 : decode cX4_outside 7 = .ok (.goto 8, 3) := by decide +kernel
theorem dX4_outside_10 : decode cX4_outside 10 = .ok (.iload_n 0, 1) := by decide +kernel
theorem dX4_outside_11 : decode cX4_outside 11 = .ok (.iload_n 2, 1) := by decide +kernel
theorem dX4_outside_12 : decode cX4_outside 12 = .ok (.invokestatic 48, 3) := by decide +kernel
theorem dX4_outside_15 : decode cX4_outside 15 = .ok (.ireturn, 1) := by decide +kernel
theorem dX4_unknown_0 : decode cX4_unknown 0 = .ok (.iload_n 0, 1) := by decide +kernel
theorem dX4_unknown_1 : decode cX4_unknown 1 = .ok (.ifCond .lt 8, 3) := by decide +kernel
theorem dX4_unknown_4 : decode cX4_unknown 4 = .ok (.iload_n 0, 1) := by decide +kernel
theorem dX4_unknown_5 : decode cX4_unknown 5 = .ok (.iload_n 1, 1) := by decide +kernel
theorem dX4_unknown_6 : decode cX4_unknown 6 = .ok (.if_icmp .le 8, 3) := by decide +kernel
theorem dX4_unknown_9 : decode cX4_unknown 9 = .ok (.bipush (-2), 2) := by decide +kernel
theorem dX4_unknown_11 : decode cX4_unknown 11 = .ok (.goto 4, 3) := by decide +kernel
theorem dX4_unknown_14 : decode cX4_unknown 14 = .ok (.iconst 0, 1) := by decide +kernel
theorem dX4_unknown_15 : decode cX4_unknown 15 = .ok (.ireturn, 1) := by decide +kernel
theorem dX4_nobody_0 : decode cX4_nobody 0 = .ok (.iload_n 0, 1) := by decide +kernel
theorem dX4_nobody_1 : decode cX4_nobody 1 = .ok (.ifCond .lt 8, 3) := by decide +kernel
theorem dX4_nobody_4 : decode cX4_nobody 4 = .ok (.iload_n 0, 1) := by decide +kernel
theorem dX4_nobody_5 : decode cX4_nobody 5 = .ok (.iload_n 1, 1) := by decide +kernel
theorem dX4_nobody_6 : decode cX4_nobody 6 = .ok (.if_icmp .lt 7, 3) := by decide +kernel
theorem dX4_nobody_9 : decode cX4_nobody 9 = .ok (.iconst (-1), 1) := by decide +kernel
theorem dX4_nobody_10 : decode cX4_nobody 10 = .ok (.goto 4, 3) := by decide +kernel
theorem dX4_nobody_13 : decode cX4_nobody 13 = .ok (.iconst 0, 1) := by decide +kernel
theorem dX4_nobody_14 : decode cX4_nobody 14 = .ok (.ireturn, 1) := by decide +kernel
theorem dX4_firstOf_0 : decode cX4_firstOf 0 = .ok (.iload_n 0, 1) := by decide +kernel
theorem dX4_firstOf_1 : decode cX4_firstOf 1 = .ok (.ifCond .eq 7, 3) := by decide +kernel
theorem dX4_firstOf_4 : decode cX4_firstOf 4 = .ok (.iload_n 0, 1) := by decide +kernel
theorem dX4_firstOf_5 : decode cX4_firstOf 5 = .ok (.goto 4, 3) := by decide +kernel
theorem dX4_firstOf_8 : decode cX4_firstOf 8 = .ok (.iload_n 1, 1) := by decide +kernel
theorem dX4_firstOf_9 : decode cX4_firstOf 9 = .ok (.ireturn, 1) := by decide +kernel
set_option maxRecDepth 20000 in
theorem ggX4_refusalOf_X4_nobody : GoodIn wsX4_refusalOf wsX4_nobody := goodIn_r _ [5] (by decide +kernel) (by decide +kernel)
set_option maxRecDepth 20000 in
theorem gX4_refusalOf_X4_nobody : GoodIn wsX4_refusalOf (va_wsS RX4 56 yX4_nobody wsX4_nobody) := goodIn_app (goodIn_of _ (by decide +kernel)) ggX4_refusalOf_X4_nobody
set_option maxRecDepth 20000 in
theorem ggX4_refusalOf_X4_outside : GoodIn wsX4_refusalOf wsX4_outside := goodIn_r _ [8, 9, 10, 4, 11] (by decide +kernel) (by decide +kernel)
set_option maxRecDepth 20000 in
theorem gX4_refusalOf_X4_outside : GoodIn wsX4_refusalOf (va_wsS RX4 59 yX4_outside wsX4_outside) := goodIn_app (goodIn_of _ (by decide +kernel)) ggX4_refusalOf_X4_outside
set_option maxRecDepth 20000 in
theorem ggX4_refusalOf_X4_firstOf : GoodIn wsX4_refusalOf wsX4_firstOf := goodIn_r _ [14] (by decide +kernel) (by decide +kernel)
set_option maxRecDepth 20000 in
theorem gX4_refusalOf_X4_firstOf : GoodIn wsX4_refusalOf (va_wsS RX4 63 yX4_firstOf wsX4_firstOf) := goodIn_app (goodIn_of _ (by decide +kernel)) ggX4_refusalOf_X4_firstOf
theorem dX4_refusalOf_0 : decode cX4_refusalOf 0 = .ok (.iload_n 1, 1) := by decide +kernel
theorem dX4_refusalOf_1 : decode cX4_refusalOf 1 = .ok (.aload_n 0, 1) := by decide +kernel
theorem dX4_refusalOf_2 : decode cX4_refusalOf 2 = .ok (.getfield 20, 3) := by decide +kernel
theorem dX4_refusalOf_5 : decode cX4_refusalOf 5 = .ok (.getfield 52, 3) := by decide +kernel
theorem dX4_refusalOf_8 : decode cX4_refusalOf 8 = .ok (.invokestatic 56, 3) := by decide +kernel
theorem dX4_refusalOf_11 : decode cX4_refusalOf 11 = .ok (.iload_n 2, 1) := by decide +kernel
theorem dX4_refusalOf_12 : decode cX4_refusalOf 12 = .ok (.iconst 0, 1) := by decide +kernel
theorem dX4_refusalOf_13 : decode cX4_refusalOf 13 = .ok (.bipush 99, 2) := by decide +kernel
theorem dX4_refusalOf_15 : decode cX4_refusalOf 15 = .ok (.invokestatic 59, 3) := by decide +kernel
theorem dX4_refusalOf_18 : decode cX4_refusalOf 18 = .ok (.invokestatic 63, 3) := by decide +kernel
theorem dX4_refusalOf_21 : decode cX4_refusalOf 21 = .ok (.ireturn, 1) := by decide +kernel
set_option maxRecDepth 20000 in
theorem ggX4_refusalOf__X4_refusalOf : GoodIn wsX4_refusalOf_ wsX4_refusalOf := goodIn_r _ [5, 6, 7, 8, 4, 9, 10, 11, 12, 13, 14, 15, 16, 17, 18, 22, 23, 24, 25, 26, 27, 28, 29, 30, 31, 32, 33, 34, 35, 36, 37, 38, 39, 40, 41] (by decide +kernel) (by decide +kernel)
set_option maxRecDepth 20000 in
theorem gX4_refusalOf__X4_refusalOf : GoodIn wsX4_refusalOf_ (wsV RX4 66 RX4 yX4_refusalOf wsX4_refusalOf) := goodIn_app (goodIn_of _ (by decide +kernel)) ggX4_refusalOf__X4_refusalOf
set_option maxRecDepth 20000 in
theorem ggX4_refusalOf__X4_unknown : GoodIn wsX4_refusalOf_ wsX4_unknown := goodIn_r _ [21] (by decide +kernel) (by decide +kernel)
set_option maxRecDepth 20000 in
theorem gX4_refusalOf__X4_unknown : GoodIn wsX4_refusalOf_ (va_wsS RX4 69 yX4_unknown wsX4_unknown) := goodIn_app (goodIn_of _ (by decide +kernel)) ggX4_refusalOf__X4_unknown
set_option maxRecDepth 20000 in
theorem ggX4_refusalOf__X4_firstOf : GoodIn wsX4_refusalOf_ wsX4_firstOf := goodIn_r _ [18] (by decide +kernel) (by decide +kernel)
set_option maxRecDepth 20000 in
theorem gX4_refusalOf__X4_firstOf : GoodIn wsX4_refusalOf_ (va_wsS RX4 63 yX4_firstOf wsX4_firstOf) := goodIn_app (goodIn_of _ (by decide +kernel)) ggX4_refusalOf__X4_firstOf
theorem dX4_refusalOf__0 : decode cX4_refusalOf_ 0 = .ok (.aload_n 0, 1) := by decide +kernel
theorem dX4_refusalOf__1 : decode cX4_refusalOf_ 1 = .ok (.iload_n 1, 1) := by decide +kernel
theorem dX4_refusalOf__2 : decode cX4_refusalOf_ 2 = .ok (.iload_n 2, 1) := by decide +kernel
theorem dX4_refusalOf__3 : decode cX4_refusalOf_ 3 = .ok (.invokevirtual 66, 3) := by decide +kernel
theorem dX4_refusalOf__6 : decode cX4_refusalOf_ 6 = .ok (.iload_n 3, 1) := by decide +kernel
theorem dX4_refusalOf__7 : decode cX4_refusalOf_ 7 = .ok (.iconst 1, 1) := by decide +kernel
theorem dX4_refusalOf__8 : decode cX4_refusalOf_ 8 = .ok (.invokestatic 69, 3) := by decide +kernel
theorem dX4_refusalOf__11 : decode cX4_refusalOf_ 11 = .ok (.invokestatic 63, 3) := by decide +kernel
theorem dX4_refusalOf__14 : decode cX4_refusalOf_ 14 = .ok (.ireturn, 1) := by decide +kernel
set_option maxRecDepth 20000 in
theorem ggX4_refusalInMind_X4_outside : GoodIn wsX4_refusalInMind wsX4_outside := goodIn_r _ [4, 5, 6, 3, 7] (by decide +kernel) (by decide +kernel)
set_option maxRecDepth 20000 in
theorem gX4_refusalInMind_X4_outside : GoodIn wsX4_refusalInMind (va_wsS RX4 59 yX4_outside wsX4_outside) := goodIn_app (goodIn_of _ (by decide +kernel)) ggX4_refusalInMind_X4_outside
set_option maxRecDepth 20000 in
theorem ggX4_refusalInMind_X4_unknown : GoodIn wsX4_refusalInMind wsX4_unknown := goodIn_r _ [10] (by decide +kernel) (by decide +kernel)
set_option maxRecDepth 20000 in
theorem gX4_refusalInMind_X4_unknown : GoodIn wsX4_refusalInMind (va_wsS RX4 69 yX4_unknown wsX4_unknown) := goodIn_app (goodIn_of _ (by decide +kernel)) ggX4_refusalInMind_X4_unknown
set_option maxRecDepth 20000 in
theorem ggX4_refusalInMind_X4_firstOf : GoodIn wsX4_refusalInMind wsX4_firstOf := goodIn_r _ [13] (by decide +kernel) (by decide +kernel)
set_option maxRecDepth 20000 in
theorem gX4_refusalInMind_X4_firstOf : GoodIn wsX4_refusalInMind (va_wsS RX4 63 yX4_firstOf wsX4_firstOf) := goodIn_app (goodIn_of _ (by decide +kernel)) ggX4_refusalInMind_X4_firstOf
theorem dX4_refusalInMind_0 : decode cX4_refusalInMind 0 = .ok (.iload_n 0, 1) := by decide +kernel
theorem dX4_refusalInMind_1 : decode cX4_refusalInMind 1 = .ok (.iconst 0, 1) := by decide +kernel
theorem dX4_refusalInMind_2 : decode cX4_refusalInMind 2 = .ok (.bipush 99, 2) := by decide +kernel
theorem dX4_refusalInMind_4 : decode cX4_refusalInMind 4 = .ok (.invokestatic 59, 3) := by decide +kernel
theorem dX4_refusalInMind_7 : decode cX4_refusalInMind 7 = .ok (.iload_n 1, 1) := by decide +kernel
theorem dX4_refusalInMind_8 : decode cX4_refusalInMind 8 = .ok (.iconst 1, 1) := by decide +kernel
theorem dX4_refusalInMind_9 : decode cX4_refusalInMind 9 = .ok (.invokestatic 69, 3) := by decide +kernel
theorem dX4_refusalInMind_12 : decode cX4_refusalInMind 12 = .ok (.invokestatic 63, 3) := by decide +kernel
theorem dX4_refusalInMind_15 : decode cX4_refusalInMind 15 = .ok (.ireturn, 1) := by decide +kernel
set_option maxRecDepth 20000 in
theorem ggX4_feed_X4_outside : GoodIn wsX4_feed wsX4_outside := goodIn_r _ [5, 6, 7, 4, 8] (by decide +kernel) (by decide +kernel)
set_option maxRecDepth 20000 in
theorem gX4_feed_X4_outside : GoodIn wsX4_feed (va_wsS RX4 59 yX4_outside wsX4_outside) := goodIn_app (goodIn_of _ (by decide +kernel)) ggX4_feed_X4_outside
set_option maxRecDepth 20000 in
theorem ggX4_feed_X1_isFull : GoodIn wsX4_feed wsX1_isFull := goodIn_r _ [12, 13, 36, 37] (by decide +kernel) (by decide +kernel)
set_option maxRecDepth 20000 in
theorem gX4_feed_X1_isFull_n72 : GoodIn wsX4_feed (wsX1_isFull) := ggX4_feed_X1_isFull
set_option maxRecDepth 20000 in
theorem ggX4_feed_X4_firstOf : GoodIn wsX4_feed wsX4_firstOf := goodIn_r _ [16] (by decide +kernel) (by decide +kernel)
set_option maxRecDepth 20000 in
theorem gX4_feed_X4_firstOf : GoodIn wsX4_feed (va_wsS RX4 63 yX4_firstOf wsX4_firstOf) := goodIn_app (goodIn_of _ (by decide +kernel)) ggX4_feed_X4_firstOf
set_option maxRecDepth 20000 in
theorem ggX4_feed_X4_refuse : GoodIn wsX4_feed wsX4_refuse := goodIn_r _ [20, 21, 27, 28, 29, 30, 31, 32, 33, 34, 35] (by decide +kernel) (by decide +kernel)
set_option maxRecDepth 20000 in
theorem gX4_feed_X4_refuse : GoodIn wsX4_feed (wsV RX4 76 RX4 yX4_refuse wsX4_refuse) := goodIn_app (goodIn_of _ (by decide +kernel)) ggX4_feed_X4_refuse
set_option maxRecDepth 20000 in
theorem ggX4_feed_X1_write : GoodIn wsX4_feed wsX1_write := goodIn_r _ [24, 25, 13, 26, 9, 11, 10, 12, 36, 37] (by decide +kernel) (by decide +kernel)
set_option maxRecDepth 20000 in
theorem gX4_feed_X1_write_n80 : GoodIn wsX4_feed (wsX1_write) := ggX4_feed_X1_write
theorem dX4_feed_0 : decode cX4_feed 0 = .ok (.iload_n 1, 1) := by decide +kernel
theorem dX4_feed_1 : decode cX4_feed 1 = .ok (.iconst 0, 1) := by decide +kernel
theorem dX4_feed_2 : decode cX4_feed 2 = .ok (.sipush 255, 3) := by decide +kernel
theorem dX4_feed_5 : decode cX4_feed 5 = .ok (.invokestatic 59, 3) := by decide +kernel
theorem dX4_feed_8 : decode cX4_feed 8 = .ok (.aload_n 0, 1) := by decide +kernel
theorem dX4_feed_9 : decode cX4_feed 9 = .ok (.getfield 37, 3) := by decide +kernel
theorem dX4_feed_12 : decode cX4_feed 12 = .ok (.invokevirtual 72, 3) := by decide +kernel
theorem dX4_feed_15 : decode cX4_feed 15 = .ok (.ifCond .eq 8, 3) := by decide +kernel
theorem dX4_feed_18 : decode cX4_feed 18 = .ok (.bipush (-6), 2) := by decide +kernel
theorem dX4_feed_20 : decode cX4_feed 20 = .ok (.goto 4, 3) := by decide +kernel
theorem dX4_feed_23 : decode cX4_feed 23 = .ok (.iconst 0, 1) := by decide +kernel
theorem dX4_feed_24 : decode cX4_feed 24 = .ok (.invokestatic 63, 3) := by decide +kernel
theorem dX4_feed_27 : decode cX4_feed 27 = .ok (.istore_n 2, 1) := by decide +kernel
theorem dX4_feed_28 : decode cX4_feed 28 = .ok (.iload_n 2, 1) := by decide +kernel
theorem dX4_feed_29 : decode cX4_feed 29 = .ok (.ifCond .eq 11, 3) := by decide +kernel
theorem dX4_feed_32 : decode cX4_feed 32 = .ok (.aload_n 0, 1) := by decide +kernel
theorem dX4_feed_33 : decode cX4_feed 33 = .ok (.iload_n 2, 1) := by decide +kernel
theorem dX4_feed_34 : decode cX4_feed 34 = .ok (.invokevirtual 76, 3) := by decide +kernel
theorem dX4_feed_37 : decode cX4_feed 37 = .ok (.goto 11, 3) := by decide +kernel
theorem dX4_feed_40 : decode cX4_feed 40 = .ok (.aload_n 0, 1) := by decide +kernel
theorem dX4_feed_41 : decode cX4_feed 41 = .ok (.getfield 37, 3) := by decide +kernel
theorem dX4_feed_44 : decode cX4_feed 44 = .ok (.iload_n 1, 1) := by decide +kernel
theorem dX4_feed_45 : decode cX4_feed 45 = .ok (.invokevirtual 80, 3) := by decide +kernel
theorem dX4_feed_48 : decode cX4_feed 48 = .ok (.ireturn, 1) := by decide +kernel
set_option maxRecDepth 20000 in
theorem ggX4_bay_X1_fault : GoodIn wsX4_bay wsX1_fault := goodIn_r _ [5, 6, 7, 8, 9, 3, 10, 11, 12, 13, 14, 174, 175] (by decide +kernel) (by decide +kernel)
set_option maxRecDepth 20000 in
theorem gX4_bay_X1_fault_n83 : GoodIn wsX4_bay (wsX1_fault) := ggX4_bay_X1_fault
set_option maxRecDepth 20000 in
theorem ggX4_bay_X4_tryLetters : GoodIn wsX4_bay wsX4_tryLetters := goodIn_r _ [19, 20, 1, 21, 22, 23, 24, 25, 26, 27, 28, 29, 30, 31, 32, 33, 34, 35, 36, 37, 38, 39, 40, 41, 42, 43, 44, 45, 46, 47, 48, 3, 49, 50, 51, 52, 53, 54, 7, 8, 9, 10, 6, 11, 55, 56, 57, 58, 59, 60, 61, 62, 63, 64, 65, 66, 67, 68, 69, 18, 70, 71, 72, 73, 74, 75, 76, 77, 78, 79, 80, 81, 82, 83, 84, 85, 86, 87, 88, 89, 90, 91, 92, 93, 94, 95, 96, 97, 98, 99, 100, 101, 102, 103, 104, 105, 106, 107, 108, 109, 110, 111, 112, 113, 114, 115, 116, 117, 118, 119, 120, 121, 122, 123, 124, 125, 126, 127, 128, 129, 130, 131, 132, 133, 134, 135, 136, 137, 138, 139, 140, 141, 142, 143, 144, 145, 146, 147, 148, 149, 150, 151, 152, 153, 154, 155, 156, 157, 158, 159, 160, 161, 162, 163, 164, 12, 13, 14, 165, 166, 167, 168, 169, 170, 171, 172, 173, 174, 175, 176, 177, 178, 179, 180, 181, 182, 183, 184, 185, 186, 187, 188, 189, 190, 191, 192, 193] (by decide +kernel) (by decide +kernel)
set_option maxRecDepth 20000 in
theorem gX4_bay_X4_tryLetters : GoodIn wsX4_bay (wsV RX4 87 RX4 yX4_tryLetters wsX4_tryLetters) := goodIn_app (goodIn_of _ (by decide +kernel)) ggX4_bay_X4_tryLetters
theorem dX4_bay_0 : decode cX4_bay 0 = .ok (.aload_n 0, 1) := by decide +kernel
theorem dX4_bay_1 : decode cX4_bay 1 = .ok (.getfield 37, 3) := by decide +kernel
theorem dX4_bay_4 : decode cX4_bay 4 = .ok (.invokevirtual 83, 3) := by decide +kernel
theorem dX4_bay_7 : decode cX4_bay 7 = .ok (.istore_n 1, 1) := by decide +kernel
theorem dX4_bay_8 : decode cX4_bay 8 = .ok (.iload_n 1, 1) := by decide +kernel
theorem dX4_bay_9 : decode cX4_bay 9 = .ok (.ifCond .ne 8, 3) := by decide +kernel
theorem dX4_bay_12 : decode cX4_bay 12 = .ok (.aload_n 0, 1) := by decide +kernel
theorem dX4_bay_13 : decode cX4_bay 13 = .ok (.invokevirtual 87, 3) := by decide +kernel
theorem dX4_bay_16 : decode cX4_bay 16 = .ok (.istore_n 1, 1) := by decide +kernel
theorem dX4_bay_17 : decode cX4_bay 17 = .ok (.aload_n 0, 1) := by decide +kernel
theorem dX4_bay_18 : decode cX4_bay 18 = .ok (.getfield 37, 3) := by decide +kernel
theorem dX4_bay_21 : decode cX4_bay 21 = .ok (.iconst 0, 1) := by decide +kernel
theorem dX4_bay_22 : decode cX4_bay 22 = .ok (.putfield 90, 3) := by decide +kernel
theorem dX4_bay_25 : decode cX4_bay 25 = .ok (.iload_n 1, 1) := by decide +kernel
theorem dX4_bay_26 : decode cX4_bay 26 = .ok (.ireturn, 1) := by decide +kernel
set_option maxRecDepth 20000 in
theorem ggX4_tryLetters_X2_asNow : GoodIn wsX4_tryLetters wsX2_asNow := goodIn_r _ [8, 9, 10, 11, 12, 13, 14, 15, 16, 17, 18, 19, 20, 21, 22, 23, 24, 25, 26, 27, 28, 29, 172, 173, 174, 175, 176, 177, 178, 179, 180, 181, 182, 183, 184, 185, 186] (by decide +kernel) (by decide +kernel)
set_option maxRecDepth 20000 in
theorem gX4_tryLetters_X2_asNow_n93 : GoodIn wsX4_tryLetters (wsX2_asNow) := ggX4_tryLetters_X2_asNow
set_option maxRecDepth 20000 in
theorem ggX4_tryLetters_X1_refusalOfStatement : GoodIn wsX4_tryLetters wsX1_refusalOfStatement := goodIn_r _ [33, 34, 35, 36, 31, 37, 38, 39, 40, 41, 42, 43, 44, 45, 46, 47, 48, 12, 49, 50, 25, 51, 52, 53, 54, 21, 55, 56, 57, 58, 59, 60, 61, 62, 63, 64, 65, 66, 67, 68, 69, 70, 71, 72, 73, 74, 75, 29, 28, 176, 177, 178, 179, 180, 181, 182, 183, 184, 185, 186, 167, 168] (by decide +kernel) (by decide +kernel)
set_option maxRecDepth 20000 in
theorem gX4_tryLetters_X1_refusalOfStatement_n97 : GoodIn wsX4_tryLetters (wsX1_refusalOfStatement) := ggX4_tryLetters_X1_refusalOfStatement
set_option maxRecDepth 20000 in
theorem ggX4_tryLetters_X1_carryOut : GoodIn wsX4_tryLetters wsX1_carryOut := goodIn_r _ [78, 34, 35, 36, 31, 37, 38, 39, 40, 41, 42, 43, 44, 45, 46, 47, 79, 12, 80, 81, 25, 15, 20, 21, 22, 23, 82, 83, 84, 85, 86, 87, 24, 88, 89, 90, 26, 27, 91, 92, 93, 94, 95, 96, 97, 28, 29, 98, 99, 100, 101, 102, 103, 104, 105, 106, 107, 108, 109, 110, 111, 112, 113, 114, 115, 116, 117, 118, 119, 120, 121, 122, 123, 124, 125, 126, 127, 128, 129, 130, 131, 132, 133, 134, 135, 136, 137, 138, 139, 140, 141, 142, 143, 144, 145, 146, 147, 148, 149, 150, 151, 51, 52, 53, 54, 167, 168, 176, 177, 178, 179, 180, 181, 182, 183, 184, 185, 186] (by decide +kernel) (by decide +kernel)
set_option maxRecDepth 20000 in
theorem gX4_tryLetters_X1_carryOut_n101 : GoodIn wsX4_tryLetters (wsX1_carryOut) := ggX4_tryLetters_X1_carryOut
set_option maxRecDepth 20000 in
theorem ggX4_tryLetters_X1_lengthAt : GoodIn wsX4_tryLetters wsX1_lengthAt := goodIn_r _ [154, 38, 39, 40, 31, 41, 42, 43, 155, 156, 157, 167, 168] (by decide +kernel) (by decide +kernel)
set_option maxRecDepth 20000 in
theorem gX4_tryLetters_X1_lengthAt_n105 : GoodIn wsX4_tryLetters (wsX1_lengthAt) := ggX4_tryLetters_X1_lengthAt
set_option maxRecDepth 20000 in
theorem ggX4_tryLetters_X0_become : GoodIn wsX4_tryLetters wsX0_become := goodIn_r _ [14, 15, 16, 17, 18, 19, 20, 21, 22, 23, 24, 25, 26, 27, 28, 29, 176, 177, 178, 179, 180, 181, 182, 183, 184, 185, 186] (by decide +kernel) (by decide +kernel)
set_option maxRecDepth 20000 in
theorem gX4_tryLetters_X0_become_n108 : GoodIn wsX4_tryLetters (wsX0_become) := ggX4_tryLetters_X0_become
theorem dX4_tryLetters_0 : decode cX4_tryLetters 0 = .ok (.aload_n 0, 1) := by decide +kernel
theorem dX4_tryLetters_1 : decode cX4_tryLetters 1 = .ok (.getfield 10, 3) := by decide +kernel
theorem dX4_tryLetters_4 : decode cX4_tryLetters 4 = .ok (.invokevirtual 93, 3) := by decide +kernel
theorem dX4_tryLetters_7 : decode cX4_tryLetters 7 = .ok (.astore_n 1, 1) := by decide +kernel
theorem dX4_tryLetters_8 : decode cX4_tryLetters 8 = .ok (.iconst 0, 1) := by decide +kernel
theorem dX4_tryLetters_9 : decode cX4_tryLetters 9 = .ok (.istore_n 2, 1) := by decide +kernel
theorem dX4_tryLetters_10 : decode cX4_tryLetters 10 = .ok (.iconst 0, 1) := by decide +kernel
theorem dX4_tryLetters_11 : decode cX4_tryLetters 11 = .ok (.istore_n 3, 1) := by decide +kernel
theorem dX4_tryLetters_12 : decode cX4_tryLetters 12 = .ok (.iload_n 3, 1) := by decide +kernel
theorem dX4_tryLetters_13 : decode cX4_tryLetters 13 = .ok (.aload_n 0, 1) := by decide +kernel
theorem dX4_tryLetters_14 : decode cX4_tryLetters 14 = .ok (.getfield 37, 3) := by decide +kernel
theorem dX4_tryLetters_17 : decode cX4_tryLetters 17 = .ok (.getfield 90, 3) := by decide +kernel
theorem dX4_tryLetters_20 : decode cX4_tryLetters 20 = .ok (.if_icmp .ge 58, 3) := by decide +kernel
theorem dX4_tryLetters_23 : decode cX4_tryLetters 23 = .ok (.iload_n 2, 1) := by decide +kernel
theorem dX4_tryLetters_24 : decode cX4_tryLetters 24 = .ok (.aload_n 0, 1) := by decide +kernel
theorem dX4_tryLetters_25 : decode cX4_tryLetters 25 = .ok (.getfield 37, 3) := by decide +kernel
theorem dX4_tryLetters_28 : decode cX4_tryLetters 28 = .ok (.getfield 90, 3) := by decide +kernel
theorem dX4_tryLetters_31 : decode cX4_tryLetters 31 = .ok (.if_icmp .ge 47, 3) := by decide +kernel
theorem dX4_tryLetters_34 : decode cX4_tryLetters 34 = .ok (.aload_n 0, 1) := by decide +kernel
theorem dX4_tryLetters_35 : decode cX4_tryLetters 35 = .ok (.getfield 37, 3) := by decide +kernel
theorem dX4_tryLetters_38 : decode cX4_tryLetters 38 = .ok (.iload_n 3, 1) := by decide +kernel
theorem dX4_tryLetters_39 : decode cX4_tryLetters 39 = .ok (.aload_n 1, 1) := by decide +kernel
theorem dX4_tryLetters_40 : decode cX4_tryLetters 40 = .ok (.invokevirtual 97, 3) := by decide +kernel
theorem dX4_tryLetters_43 : decode cX4_tryLetters 43 = .ok (.ifCond .eq 9, 3) := by decide +kernel
theorem dX4_tryLetters_46 : decode cX4_tryLetters 46 = .ok (.sipush (-2000), 3) := by decide +kernel
theorem dX4_tryLetters_49 : decode cX4_tryLetters 49 = .ok (.iload_n 3, 1) := by decide +kernel
theorem dX4_tryLetters_50 : decode cX4_tryLetters 50 = .ok (.isub, 1) := by decide +kernel
theorem dX4_tryLetters_51 : decode cX4_tryLetters 51 = .ok (.ireturn, 1) := by decide +kernel
theorem dX4_tryLetters_52 : decode cX4_tryLetters 52 = .ok (.aload_n 0, 1) := by decide +kernel
theorem dX4_tryLetters_53 : decode cX4_tryLetters 53 = .ok (.getfield 37, 3) := by decide +kernel
theorem dX4_tryLetters_56 : decode cX4_tryLetters 56 = .ok (.iload_n 3, 1) := by decide +kernel
theorem dX4_tryLetters_57 : decode cX4_tryLetters 57 = .ok (.aload_n 1, 1) := by decide +kernel
theorem dX4_tryLetters_58 : decode cX4_tryLetters 58 = .ok (.invokevirtual 101, 3) := by decide +kernel
theorem dX4_tryLetters_61 : decode cX4_tryLetters 61 = .ok (.iload_n 3, 1) := by decide +kernel
theorem dX4_tryLetters_62 : decode cX4_tryLetters 62 = .ok (.aload_n 0, 1) := by decide +kernel
theorem dX4_tryLetters_63 : decode cX4_tryLetters 63 = .ok (.getfield 37, 3) := by decide +kernel
theorem dX4_tryLetters_66 : decode cX4_tryLetters 66 = .ok (.iload_n 3, 1) := by decide +kernel
theorem dX4_tryLetters_67 : decode cX4_tryLetters 67 = .ok (.invokevirtual 105, 3) := by decide +kernel
theorem dX4_tryLetters_70 : decode cX4_tryLetters 70 = .ok (.iadd, 1) := by decide +kernel
theorem dX4_tryLetters_71 : decode cX4_tryLetters 71 = .ok (.istore_n 3, 1) := by decide +kernel
theorem dX4_tryLetters_72 : decode cX4_tryLetters 72 = .ok (.iinc 2 1, 3) := by decide +kernel
theorem dX4_tryLetters_75 : decode cX4_tryLetters 75 = .ok (.goto (-63), 3) := by decide +kernel
theorem dX4_tryLetters_78 : decode cX4_tryLetters 78 = .ok (.aload_n 0, 1) := by decide +kernel
theorem dX4_tryLetters_79 : decode cX4_tryLetters 79 = .ok (.getfield 20, 3) := by decide +kernel
theorem dX4_tryLetters_82 : decode cX4_tryLetters 82 = .ok (.aload_n 1, 1) := by decide +kernel
theorem dX4_tryLetters_83 : decode cX4_tryLetters 83 = .ok (.invokevirtual 108, 3) := by decide +kernel
theorem dX4_tryLetters_86 : decode cX4_tryLetters 86 = .ok (.aload_n 0, 1) := by decide +kernel
theorem dX4_tryLetters_87 : decode cX4_tryLetters 87 = .ok (.getfield 30, 3) := by decide +kernel
theorem dX4_tryLetters_90 : decode cX4_tryLetters 90 = .ok (.iconst 0, 1) := by decide +kernel
theorem dX4_tryLetters_91 : decode cX4_tryLetters 91 = .ok (.putfield 112, 3) := by decide +kernel
theorem dX4_tryLetters_94 : decode cX4_tryLetters 94 = .ok (.iload_n 2, 1) := by decide +kernel
theorem dX4_tryLetters_95 : decode cX4_tryLetters 95 = .ok (.ireturn, 1) := by decide +kernel
set_option maxRecDepth 20000 in
theorem ggX4_shoreOf_X4_nobody : GoodIn wsX4_shoreOf wsX4_nobody := goodIn_r _ [5] (by decide +kernel) (by decide +kernel)
set_option maxRecDepth 20000 in
theorem gX4_shoreOf_X4_nobody : GoodIn wsX4_shoreOf (va_wsS RX4 56 yX4_nobody wsX4_nobody) := goodIn_app (goodIn_of _ (by decide +kernel)) ggX4_shoreOf_X4_nobody
set_option maxRecDepth 20000 in
theorem ggX4_shoreOf_X4_unknown : GoodIn wsX4_shoreOf wsX4_unknown := goodIn_r _ [8] (by decide +kernel) (by decide +kernel)
set_option maxRecDepth 20000 in
theorem gX4_shoreOf_X4_unknown : GoodIn wsX4_shoreOf (va_wsS RX4 69 yX4_unknown wsX4_unknown) := goodIn_app (goodIn_of _ (by decide +kernel)) ggX4_shoreOf_X4_unknown
set_option maxRecDepth 20000 in
theorem ggX4_shoreOf_X4_firstOf : GoodIn wsX4_shoreOf wsX4_firstOf := goodIn_r _ [11] (by decide +kernel) (by decide +kernel)
set_option maxRecDepth 20000 in
theorem gX4_shoreOf_X4_firstOf : GoodIn wsX4_shoreOf (va_wsS RX4 63 yX4_firstOf wsX4_firstOf) := goodIn_app (goodIn_of _ (by decide +kernel)) ggX4_shoreOf_X4_firstOf
set_option maxRecDepth 20000 in
theorem ggX4_shoreOf_X4_refuse : GoodIn wsX4_shoreOf wsX4_refuse := goodIn_r _ [15, 16, 32, 33, 34, 35, 36, 37, 38, 39, 40] (by decide +kernel) (by decide +kernel)
set_option maxRecDepth 20000 in
theorem gX4_shoreOf_X4_refuse : GoodIn wsX4_shoreOf (wsV RX4 76 RX4 yX4_refuse wsX4_refuse) := goodIn_app (goodIn_of _ (by decide +kernel)) ggX4_shoreOf_X4_refuse
set_option maxRecDepth 20000 in
theorem ggX4_shoreOf_X0_isQuiet : GoodIn wsX4_shoreOf wsX0_isQuiet := goodIn_r _ [20, 21, 41, 42, 43, 44, 45, 46, 47, 48, 49, 50, 51] (by decide +kernel) (by decide +kernel)
set_option maxRecDepth 20000 in
theorem gX4_shoreOf_X0_isQuiet_n127 : GoodIn wsX4_shoreOf (wsX0_isQuiet) := ggX4_shoreOf_X0_isQuiet
set_option maxRecDepth 20000 in
theorem ggX4_shoreOf_X0_costOf : GoodIn wsX4_shoreOf wsX0_costOf := goodIn_r _ [24, 25, 26, 41, 42, 43, 44, 45, 46, 47, 48, 49, 50, 51] (by decide +kernel) (by decide +kernel)
set_option maxRecDepth 20000 in
theorem gX4_shoreOf_X0_costOf_n134 : GoodIn wsX4_shoreOf (wsX0_costOf) := ggX4_shoreOf_X0_costOf
set_option maxRecDepth 20000 in
theorem ggX4_shoreOf_X0_hasIsle : GoodIn wsX4_shoreOf wsX0_hasIsle := goodIn_r _ [29, 30, 31, 41, 42, 43, 44, 45, 46, 47, 48, 49, 50, 51] (by decide +kernel) (by decide +kernel)
set_option maxRecDepth 20000 in
theorem gX4_shoreOf_X0_hasIsle_n137 : GoodIn wsX4_shoreOf (wsX0_hasIsle) := ggX4_shoreOf_X0_hasIsle
theorem dX4_shoreOf_0 : decode cX4_shoreOf 0 = .ok (.iload_n 1, 1) := by decide +kernel
theorem dX4_shoreOf_1 : decode cX4_shoreOf 1 = .ok (.aload_n 0, 1) := by decide +kernel
theorem dX4_shoreOf_2 : decode cX4_shoreOf 2 = .ok (.getfield 20, 3) := by decide +kernel
theorem dX4_shoreOf_5 : decode cX4_shoreOf 5 = .ok (.getfield 52, 3) := by decide +kernel
theorem dX4_shoreOf_8 : decode cX4_shoreOf 8 = .ok (.invokestatic 56, 3) := by decide +kernel
theorem dX4_shoreOf_11 : decode cX4_shoreOf 11 = .ok (.iload_n 2, 1) := by decide +kernel
theorem dX4_shoreOf_12 : decode cX4_shoreOf 12 = .ok (.bipush 7, 2) := by decide +kernel
theorem dX4_shoreOf_14 : decode cX4_shoreOf 14 = .ok (.invokestatic 69, 3) := by decide +kernel
theorem dX4_shoreOf_17 : decode cX4_shoreOf 17 = .ok (.invokestatic 63, 3) := by decide +kernel
theorem dX4_shoreOf_20 : decode cX4_shoreOf 20 = .ok (.istore_n 3, 1) := by decide +kernel
theorem dX4_shoreOf_21 : decode cX4_shoreOf 21 = .ok (.iload_n 3, 1) := by decide +kernel
theorem dX4_shoreOf_22 : decode cX4_shoreOf 22 = .ok (.ifCond .eq 9, 3) := by decide +kernel
theorem dX4_shoreOf_25 : decode cX4_shoreOf 25 = .ok (.aload_n 0, 1) := by decide +kernel
theorem dX4_shoreOf_26 : decode cX4_shoreOf 26 = .ok (.iload_n 3, 1) := by decide +kernel
theorem dX4_shoreOf_27 : decode cX4_shoreOf 27 = .ok (.invokevirtual 76, 3) := by decide +kernel
theorem dX4_shoreOf_30 : decode cX4_shoreOf 30 = .ok (.ireturn, 1) := by decide +kernel
theorem dX4_shoreOf_31 : decode cX4_shoreOf 31 = .ok (.iload_n 2, 1) := by decide +kernel
theorem dX4_shoreOf_32 : decode cX4_shoreOf 32 = .ok (.tableswitch 120 0 6 #[44, 54, 64, 74, 84, 101, 111], 44) := by decide +kernel
theorem dX4_shoreOf_76 : decode cX4_shoreOf 76 = .ok (.aload_n 0, 1) := by decide +kernel
theorem dX4_shoreOf_77 : decode cX4_shoreOf 77 = .ok (.getfield 20, 3) := by decide +kernel
theorem dX4_shoreOf_80 : decode cX4_shoreOf 80 = .ok (.getfield 115, 3) := by decide +kernel
theorem dX4_shoreOf_83 : decode cX4_shoreOf 83 = .ok (.iload_n 1, 1) := by decide +kernel
theorem dX4_shoreOf_84 : decode cX4_shoreOf 84 = .ok (.iaload, 1) := by decide +kernel
theorem dX4_shoreOf_85 : decode cX4_shoreOf 85 = .ok (.ireturn, 1) := by decide +kernel
theorem dX4_shoreOf_86 : decode cX4_shoreOf 86 = .ok (.aload_n 0, 1) := by decide +kernel
theorem dX4_shoreOf_87 : decode cX4_shoreOf 87 = .ok (.getfield 20, 3) := by decide +kernel
theorem dX4_shoreOf_90 : decode cX4_shoreOf 90 = .ok (.getfield 118, 3) := by decide +kernel
theorem dX4_shoreOf_93 : decode cX4_shoreOf 93 = .ok (.iload_n 1, 1) := by decide +kernel
theorem dX4_shoreOf_94 : decode cX4_shoreOf 94 = .ok (.iaload, 1) := by decide +kernel
theorem dX4_shoreOf_95 : decode cX4_shoreOf 95 = .ok (.ireturn, 1) := by decide +kernel
theorem dX4_shoreOf_96 : decode cX4_shoreOf 96 = .ok (.aload_n 0, 1) := by decide +kernel
theorem dX4_shoreOf_97 : decode cX4_shoreOf 97 = .ok (.getfield 20, 3) := by decide +kernel
theorem dX4_shoreOf_100 : decode cX4_shoreOf 100 = .ok (.getfield 121, 3) := by decide +kernel
theorem dX4_shoreOf_103 : decode cX4_shoreOf 103 = .ok (.iload_n 1, 1) := by decide +kernel
theorem dX4_shoreOf_104 : decode cX4_shoreOf 104 = .ok (.iaload, 1) := by decide +kernel
theorem dX4_shoreOf_105 : decode cX4_shoreOf 105 = .ok (.ireturn, 1) := by decide +kernel
theorem dX4_shoreOf_106 : decode cX4_shoreOf 106 = .ok (.aload_n 0, 1) := by decide +kernel
theorem dX4_shoreOf_107 : decode cX4_shoreOf 107 = .ok (.getfield 20, 3) := by decide +kernel
theorem dX4_shoreOf_110 : decode cX4_shoreOf 110 = .ok (.getfield 124, 3) := by decide +kernel
theorem dX4_shoreOf_113 : decode cX4_shoreOf 113 = .ok (.iload_n 1, 1) := by decide +kernel
theorem dX4_shoreOf_114 : decode cX4_shoreOf 114 = .ok (.iaload, 1) := by decide +kernel
theorem dX4_shoreOf_115 : decode cX4_shoreOf 115 = .ok (.ireturn, 1) := by decide +kernel
theorem dX4_shoreOf_116 : decode cX4_shoreOf 116 = .ok (.aload_n 0, 1) := by decide +kernel
theorem dX4_shoreOf_117 : decode cX4_shoreOf 117 = .ok (.getfield 20, 3) := by decide +kernel
theorem dX4_shoreOf_120 : decode cX4_shoreOf 120 = .ok (.iload_n 1, 1) := by decide +kernel
theorem dX4_shoreOf_121 : decode cX4_shoreOf 121 = .ok (.invokevirtual 127, 3) := by decide +kernel
theorem dX4_shoreOf_124 : decode cX4_shoreOf 124 = .ok (.ifCond .eq 7, 3) := by decide +kernel
theorem dX4_shoreOf_127 : decode cX4_shoreOf 127 = .ok (.iconst 1, 1) := by decide +kernel
theorem dX4_shoreOf_128 : decode cX4_shoreOf 128 = .ok (.goto 4, 3) := by decide +kernel
theorem dX4_shoreOf_131 : decode cX4_shoreOf 131 = .ok (.iconst 0, 1) := by decide +kernel
theorem dX4_shoreOf_132 : decode cX4_shoreOf 132 = .ok (.ireturn, 1) := by decide +kernel
theorem dX4_shoreOf_133 : decode cX4_shoreOf 133 = .ok (.aload_n 0, 1) := by decide +kernel
theorem dX4_shoreOf_134 : decode cX4_shoreOf 134 = .ok (.getfield 20, 3) := by decide +kernel
theorem dX4_shoreOf_137 : decode cX4_shoreOf 137 = .ok (.getfield 131, 3) := by decide +kernel
theorem dX4_shoreOf_140 : decode cX4_shoreOf 140 = .ok (.iload_n 1, 1) := by decide +kernel
theorem dX4_shoreOf_141 : decode cX4_shoreOf 141 = .ok (.iaload, 1) := by decide +kernel
theorem dX4_shoreOf_142 : decode cX4_shoreOf 142 = .ok (.ireturn, 1) := by decide +kernel
theorem dX4_shoreOf_143 : decode cX4_shoreOf 143 = .ok (.aload_n 0, 1) := by decide +kernel
theorem dX4_shoreOf_144 : decode cX4_shoreOf 144 = .ok (.getfield 20, 3) := by decide +kernel
theorem dX4_shoreOf_147 : decode cX4_shoreOf 147 = .ok (.iload_n 1, 1) := by decide +kernel
theorem dX4_shoreOf_148 : decode cX4_shoreOf 148 = .ok (.invokevirtual 134, 3) := by decide +kernel
theorem dX4_shoreOf_151 : decode cX4_shoreOf 151 = .ok (.ireturn, 1) := by decide +kernel
theorem dX4_shoreOf_152 : decode cX4_shoreOf 152 = .ok (.aload_n 0, 1) := by decide +kernel
theorem dX4_shoreOf_153 : decode cX4_shoreOf 153 = .ok (.getfield 20, 3) := by decide +kernel
theorem dX4_shoreOf_156 : decode cX4_shoreOf 156 = .ok (.iload_n 1, 1) := by decide +kernel
theorem dX4_shoreOf_157 : decode cX4_shoreOf 157 = .ok (.invokevirtual 137, 3) := by decide +kernel
theorem dX4_shoreOf_160 : decode cX4_shoreOf 160 = .ok (.ifCond .eq 7, 3) := by decide +kernel
theorem dX4_shoreOf_163 : decode cX4_shoreOf 163 = .ok (.iconst 1, 1) := by decide +kernel
theorem dX4_shoreOf_164 : decode cX4_shoreOf 164 = .ok (.goto 4, 3) := by decide +kernel
theorem dX4_shoreOf_167 : decode cX4_shoreOf 167 = .ok (.iconst 0, 1) := by decide +kernel
theorem dX4_shoreOf_168 : decode cX4_shoreOf 168 = .ok (.ireturn, 1) := by decide +kernel
set_option maxRecDepth 20000 in
theorem ggX4_isleOf_X0_owner : GoodIn wsX4_isleOf wsX0_owner := goodIn_r _ [5, 6, 7, 8, 9, 3, 10, 11, 12, 28, 29, 30, 31, 32, 33, 34, 35, 36, 37, 38] (by decide +kernel) (by decide +kernel)
set_option maxRecDepth 20000 in
theorem gX4_isleOf_X0_owner_n146 : GoodIn wsX4_isleOf (wsX0_owner) := ggX4_isleOf_X0_owner
set_option maxRecDepth 20000 in
theorem ggX4_isleOf_X4_refuse : GoodIn wsX4_isleOf wsX4_refuse := goodIn_r _ [17, 18, 19, 20, 21, 22, 23, 24, 25, 26, 27] (by decide +kernel) (by decide +kernel)
set_option maxRecDepth 20000 in
theorem gX4_isleOf_X4_refuse : GoodIn wsX4_isleOf (wsV RX4 76 RX4 yX4_refuse wsX4_refuse) := goodIn_app (goodIn_of _ (by decide +kernel)) ggX4_isleOf_X4_refuse
theorem dX4_isleOf_0 : decode cX4_isleOf 0 = .ok (.iload_n 1, 1) := by decide +kernel
theorem dX4_isleOf_1 : decode cX4_isleOf 1 = .ok (.tableswitch 51 0 2 #[27, 35, 43], 27) := by decide +kernel
theorem dX4_isleOf_28 : decode cX4_isleOf 28 = .ok (.aload_n 0, 1) := by decide +kernel
theorem dX4_isleOf_29 : decode cX4_isleOf 29 = .ok (.getfield 20, 3) := by decide +kernel
theorem dX4_isleOf_32 : decode cX4_isleOf 32 = .ok (.getfield 140, 3) := by decide +kernel
theorem dX4_isleOf_35 : decode cX4_isleOf 35 = .ok (.ireturn, 1) := by decide +kernel
theorem dX4_isleOf_36 : decode cX4_isleOf 36 = .ok (.aload_n 0, 1) := by decide +kernel
theorem dX4_isleOf_37 : decode cX4_isleOf 37 = .ok (.getfield 20, 3) := by decide +kernel
theorem dX4_isleOf_40 : decode cX4_isleOf 40 = .ok (.getfield 143, 3) := by decide +kernel
theorem dX4_isleOf_43 : decode cX4_isleOf 43 = .ok (.ireturn, 1) := by decide +kernel
theorem dX4_isleOf_44 : decode cX4_isleOf 44 = .ok (.aload_n 0, 1) := by decide +kernel
theorem dX4_isleOf_45 : decode cX4_isleOf 45 = .ok (.getfield 20, 3) := by decide +kernel
theorem dX4_isleOf_48 : decode cX4_isleOf 48 = .ok (.invokevirtual 146, 3) := by decide +kernel
theorem dX4_isleOf_51 : decode cX4_isleOf 51 = .ok (.ireturn, 1) := by decide +kernel
theorem dX4_isleOf_52 : decode cX4_isleOf 52 = .ok (.aload_n 0, 1) := by decide +kernel
theorem dX4_isleOf_53 : decode cX4_isleOf 53 = .ok (.bipush (-2), 2) := by decide +kernel
theorem dX4_isleOf_55 : decode cX4_isleOf 55 = .ok (.invokevirtual 76, 3) := by decide +kernel
theorem dX4_isleOf_58 : decode cX4_isleOf 58 = .ok (.ireturn, 1) := by decide +kernel
set_option maxRecDepth 20000 in
theorem ggX4_count_X0_joyTogether : GoodIn wsX4_count wsX0_joyTogether := goodIn_r _ [9, 10, 11, 25, 26, 27, 28, 29, 30, 31, 32, 33, 34, 35] (by decide +kernel) (by decide +kernel)
set_option maxRecDepth 20000 in
theorem gX4_count_X0_joyTogether_n158 : GoodIn wsX4_count (wsX0_joyTogether) := ggX4_count_X0_joyTogether
set_option maxRecDepth 20000 in
theorem ggX4_count_X0_powderTogether : GoodIn wsX4_count wsX0_powderTogether := goodIn_r _ [14, 10, 15, 25, 26, 27, 28, 29, 30, 31, 32, 33, 34, 35] (by decide +kernel) (by decide +kernel)
set_option maxRecDepth 20000 in
theorem gX4_count_X0_powderTogether_n161 : GoodIn wsX4_count (wsX0_powderTogether) := ggX4_count_X0_powderTogether
theorem dX4_count_0 : decode cX4_count 0 = .ok (.iload_n 1, 1) := by decide +kernel
theorem dX4_count_1 : decode cX4_count 1 = .ok (.tableswitch 120 0 8 #[51, 59, 67, 75, 83, 91, 99, 107, 112], 51) := by decide +kernel
theorem dX4_count_52 : decode cX4_count 52 = .ok (.aload_n 0, 1) := by decide +kernel
theorem dX4_count_53 : decode cX4_count 53 = .ok (.getfield 20, 3) := by decide +kernel
theorem dX4_count_56 : decode cX4_count 56 = .ok (.getfield 52, 3) := by decide +kernel
theorem dX4_count_59 : decode cX4_count 59 = .ok (.ireturn, 1) := by decide +kernel
theorem dX4_count_60 : decode cX4_count 60 = .ok (.aload_n 0, 1) := by decide +kernel
theorem dX4_count_61 : decode cX4_count 61 = .ok (.getfield 20, 3) := by decide +kernel
theorem dX4_count_64 : decode cX4_count 64 = .ok (.getfield 149, 3) := by decide +kernel
theorem dX4_count_67 : decode cX4_count 67 = .ok (.ireturn, 1) := by decide +kernel
theorem dX4_count_68 : decode cX4_count 68 = .ok (.aload_n 0, 1) := by decide +kernel
theorem dX4_count_69 : decode cX4_count 69 = .ok (.getfield 20, 3) := by decide +kernel
theorem dX4_count_72 : decode cX4_count 72 = .ok (.getfield 152, 3) := by decide +kernel
theorem dX4_count_75 : decode cX4_count 75 = .ok (.ireturn, 1) := by decide +kernel
theorem dX4_count_76 : decode cX4_count 76 = .ok (.aload_n 0, 1) := by decide +kernel
theorem dX4_count_77 : decode cX4_count 77 = .ok (.getfield 20, 3) := by decide +kernel
theorem dX4_count_80 : decode cX4_count 80 = .ok (.getfield 155, 3) := by decide +kernel
theorem dX4_count_83 : decode cX4_count 83 = .ok (.ireturn, 1) := by decide +kernel
theorem dX4_count_84 : decode cX4_count 84 = .ok (.aload_n 0, 1) := by decide +kernel
theorem dX4_count_85 : decode cX4_count 85 = .ok (.getfield 20, 3) := by decide +kernel
theorem dX4_count_88 : decode cX4_count 88 = .ok (.invokevirtual 158, 3) := by decide +kernel
theorem dX4_count_91 : decode cX4_count 91 = .ok (.ireturn, 1) := by decide +kernel
theorem dX4_count_92 : decode cX4_count 92 = .ok (.aload_n 0, 1) := by decide +kernel
theorem dX4_count_93 : decode cX4_count 93 = .ok (.getfield 20, 3) := by decide +kernel
theorem dX4_count_96 : decode cX4_count 96 = .ok (.invokevirtual 161, 3) := by decide +kernel
theorem dX4_count_99 : decode cX4_count 99 = .ok (.ireturn, 1) := by decide +kernel
theorem dX4_count_100 : decode cX4_count 100 = .ok (.aload_n 0, 1) := by decide +kernel
theorem dX4_count_101 : decode cX4_count 101 = .ok (.getfield 37, 3) := by decide +kernel
theorem dX4_count_104 : decode cX4_count 104 = .ok (.getfield 90, 3) := by decide +kernel
theorem dX4_count_107 : decode cX4_count 107 = .ok (.ireturn, 1) := by decide +kernel
theorem dX4_count_108 : decode cX4_count 108 = .ok (.aload_n 0, 1) := by decide +kernel
theorem dX4_count_109 : decode cX4_count 109 = .ok (.getfield 164, 3) := by decide +kernel
theorem dX4_count_112 : decode cX4_count 112 = .ok (.ireturn, 1) := by decide +kernel
theorem dX4_count_113 : decode cX4_count 113 = .ok (.aload_n 0, 1) := by decide +kernel
theorem dX4_count_114 : decode cX4_count 114 = .ok (.getfield 30, 3) := by decide +kernel
theorem dX4_count_117 : decode cX4_count 117 = .ok (.getfield 112, 3) := by decide +kernel
theorem dX4_count_120 : decode cX4_count 120 = .ok (.ireturn, 1) := by decide +kernel
theorem dX4_count_121 : decode cX4_count 121 = .ok (.iload_n 1, 1) := by decide +kernel
theorem dX4_count_122 : decode cX4_count 122 = .ok (.bipush 11, 2) := by decide +kernel
theorem dX4_count_124 : decode cX4_count 124 = .ok (.if_icmp .lt 21, 3) := by decide +kernel
theorem dX4_count_127 : decode cX4_count 127 = .ok (.iload_n 1, 1) := by decide +kernel
theorem dX4_count_128 : decode cX4_count 128 = .ok (.bipush 16, 2) := by decide +kernel
theorem dX4_count_130 : decode cX4_count 130 = .ok (.if_icmp .gt 15, 3) := by decide +kernel
theorem dX4_count_133 : decode cX4_count 133 = .ok (.aload_n 0, 1) := by decide +kernel
theorem dX4_count_134 : decode cX4_count 134 = .ok (.getfield 45, 3) := by decide +kernel
theorem dX4_count_137 : decode cX4_count 137 = .ok (.iload_n 1, 1) := by decide +kernel
theorem dX4_count_138 : decode cX4_count 138 = .ok (.bipush 10, 2) := by decide +kernel
theorem dX4_count_140 : decode cX4_count 140 = .ok (.isub, 1) := by decide +kernel
theorem dX4_count_141 : decode cX4_count 141 = .ok (.iaload, 1) := by decide +kernel
theorem dX4_count_142 : decode cX4_count 142 = .ok (.goto 5, 3) := by decide +kernel
theorem dX4_count_145 : decode cX4_count 145 = .ok (.bipush (-9), 2) := by decide +kernel
theorem dX4_count_147 : decode cX4_count 147 = .ok (.ireturn, 1) := by decide +kernel
set_option maxRecDepth 20000 in
theorem ggX4_shore_X0_refusalOfShore : GoodIn wsX4_shore wsX0_refusalOfShore := goodIn_r _ [6, 7, 8, 9, 10, 4, 11, 12, 38, 39, 40, 41, 42, 43, 44, 45, 46, 47, 48] (by decide +kernel) (by decide +kernel)
set_option maxRecDepth 20000 in
theorem gX4_shore_X0_refusalOfShore_n167 : GoodIn wsX4_shore (wsX0_refusalOfShore) := ggX4_shore_X0_refusalOfShore
set_option maxRecDepth 20000 in
theorem ggX4_shore_X4_refuse : GoodIn wsX4_shore wsX4_refuse := goodIn_r _ [17, 18, 26, 27, 28, 29, 30, 31, 32, 33, 34] (by decide +kernel) (by decide +kernel)
set_option maxRecDepth 20000 in
theorem gX4_shore_X4_refuse : GoodIn wsX4_shore (wsV RX4 76 RX4 yX4_refuse wsX4_refuse) := goodIn_app (goodIn_of _ (by decide +kernel)) ggX4_shore_X4_refuse
set_option maxRecDepth 20000 in
theorem ggX4_shore_X0_add : GoodIn wsX4_shore wsX0_add := goodIn_r _ [21, 7, 22, 23, 12, 24, 25, 38, 39, 40, 41, 42, 43, 44, 45, 46, 47, 48] (by decide +kernel) (by decide +kernel)
set_option maxRecDepth 20000 in
theorem gX4_shore_X0_add_n170 : GoodIn wsX4_shore (wsX0_add) := ggX4_shore_X0_add
theorem dX4_shore_0 : decode cX4_shore 0 = .ok (.aload_n 0, 1) := by decide +kernel
theorem dX4_shore_1 : decode cX4_shore 1 = .ok (.getfield 20, 3) := by decide +kernel
theorem dX4_shore_4 : decode cX4_shore 4 = .ok (.iload_n 1, 1) := by decide +kernel
theorem dX4_shore_5 : decode cX4_shore 5 = .ok (.iload_n 2, 1) := by decide +kernel
theorem dX4_shore_6 : decode cX4_shore 6 = .ok (.iload_n 3, 1) := by decide +kernel
theorem dX4_shore_7 : decode cX4_shore 7 = .ok (.invokevirtual 167, 3) := by decide +kernel
theorem dX4_shore_10 : decode cX4_shore 10 = .ok (.istore 4, 2) := by decide +kernel
theorem dX4_shore_12 : decode cX4_shore 12 = .ok (.iload 4, 2) := by decide +kernel
theorem dX4_shore_14 : decode cX4_shore 14 = .ok (.ifCond .eq 10, 3) := by decide +kernel
theorem dX4_shore_17 : decode cX4_shore 17 = .ok (.aload_n 0, 1) := by decide +kernel
theorem dX4_shore_18 : decode cX4_shore 18 = .ok (.iload 4, 2) := by decide +kernel
theorem dX4_shore_20 : decode cX4_shore 20 = .ok (.invokevirtual 76, 3) := by decide +kernel
theorem dX4_shore_23 : decode cX4_shore 23 = .ok (.ireturn, 1) := by decide +kernel
theorem dX4_shore_24 : decode cX4_shore 24 = .ok (.aload_n 0, 1) := by decide +kernel
theorem dX4_shore_25 : decode cX4_shore 25 = .ok (.getfield 20, 3) := by decide +kernel
theorem dX4_shore_28 : decode cX4_shore 28 = .ok (.iload_n 1, 1) := by decide +kernel
theorem dX4_shore_29 : decode cX4_shore 29 = .ok (.iload_n 2, 1) := by decide +kernel
theorem dX4_shore_30 : decode cX4_shore 30 = .ok (.iload_n 3, 1) := by decide +kernel
theorem dX4_shore_31 : decode cX4_shore 31 = .ok (.invokevirtual 170, 3) := by decide +kernel
theorem dX4_shore_34 : decode cX4_shore 34 = .ok (.aload_n 0, 1) := by decide +kernel
theorem dX4_shore_35 : decode cX4_shore 35 = .ok (.getfield 30, 3) := by decide +kernel
theorem dX4_shore_38 : decode cX4_shore 38 = .ok (.iconst 0, 1) := by decide +kernel
theorem dX4_shore_39 : decode cX4_shore 39 = .ok (.putfield 112, 3) := by decide +kernel
theorem dX4_shore_42 : decode cX4_shore 42 = .ok (.aload_n 0, 1) := by decide +kernel
theorem dX4_shore_43 : decode cX4_shore 43 = .ok (.getfield 20, 3) := by decide +kernel
theorem dX4_shore_46 : decode cX4_shore 46 = .ok (.getfield 52, 3) := by decide +kernel
theorem dX4_shore_49 : decode cX4_shore 49 = .ok (.iconst 1, 1) := by decide +kernel
theorem dX4_shore_50 : decode cX4_shore 50 = .ok (.isub, 1) := by decide +kernel
theorem dX4_shore_51 : decode cX4_shore 51 = .ok (.ireturn, 1) := by decide +kernel
set_option maxRecDepth 20000 in
theorem ggX4_powders_X0_refusalOfPowder : GoodIn wsX4_powders wsX0_refusalOfPowder := goodIn_r _ [6, 7, 8, 9, 10, 11, 12, 13, 14, 15, 16, 17, 63, 64, 65, 66, 67, 68, 69, 70, 71, 72, 73] (by decide +kernel) (by decide +kernel)
set_option maxRecDepth 20000 in
theorem gX4_powders_X0_refusalOfPowder_n174 : GoodIn wsX4_powders (wsX0_refusalOfPowder) := ggX4_powders_X0_refusalOfPowder
set_option maxRecDepth 20000 in
theorem ggX4_powders_X4_refuse : GoodIn wsX4_powders wsX4_refuse := goodIn_r _ [21, 22, 54, 55, 56, 57, 58, 59, 60, 61, 62] (by decide +kernel) (by decide +kernel)
set_option maxRecDepth 20000 in
theorem gX4_powders_X4_refuse : GoodIn wsX4_powders (wsV RX4 76 RX4 yX4_refuse wsX4_refuse) := goodIn_app (goodIn_of _ (by decide +kernel)) ggX4_powders_X4_refuse
set_option maxRecDepth 20000 in
theorem ggX4_powders_X3_keep : GoodIn wsX4_powders wsX3_keep := goodIn_r _ [26, 27, 28, 29, 30, 31, 32, 33, 34, 4, 35, 36, 37, 38, 39, 40, 41, 42, 43, 44, 45, 46, 7, 47, 48, 49, 50, 74, 75, 76, 63, 64, 65, 66, 67, 68, 69, 70, 71, 72, 73] (by decide +kernel) (by decide +kernel)
set_option maxRecDepth 20000 in
theorem gX4_powders_X3_keep_n177 : GoodIn wsX4_powders (wsX3_keep) := ggX4_powders_X3_keep
set_option maxRecDepth 20000 in
theorem ggX4_powders_X0_setPowder : GoodIn wsX4_powders wsX0_setPowder := goodIn_r _ [53, 44, 63, 64, 65, 66, 67, 68, 69, 70, 71, 72, 73] (by decide +kernel) (by decide +kernel)
set_option maxRecDepth 20000 in
theorem gX4_powders_X0_setPowder_n180 : GoodIn wsX4_powders (wsX0_setPowder) := ggX4_powders_X0_setPowder
theorem dX4_powders_0 : decode cX4_powders 0 = .ok (.aload_n 0, 1) := by decide +kernel
theorem dX4_powders_1 : decode cX4_powders 1 = .ok (.getfield 20, 3) := by decide +kernel
theorem dX4_powders_4 : decode cX4_powders 4 = .ok (.iload_n 1, 1) := by decide +kernel
theorem dX4_powders_5 : decode cX4_powders 5 = .ok (.iload_n 2, 1) := by decide +kernel
theorem dX4_powders_6 : decode cX4_powders 6 = .ok (.invokevirtual 174, 3) := by decide +kernel
theorem dX4_powders_9 : decode cX4_powders 9 = .ok (.istore_n 3, 1) := by decide +kernel
theorem dX4_powders_10 : decode cX4_powders 10 = .ok (.iload_n 3, 1) := by decide +kernel
theorem dX4_powders_11 : decode cX4_powders 11 = .ok (.ifCond .eq 9, 3) := by decide +kernel
theorem dX4_powders_14 : decode cX4_powders 14 = .ok (.aload_n 0, 1) := by decide +kernel
theorem dX4_powders_15 : decode cX4_powders 15 = .ok (.iload_n 3, 1) := by decide +kernel
theorem dX4_powders_16 : decode cX4_powders 16 = .ok (.invokevirtual 76, 3) := by decide +kernel
theorem dX4_powders_19 : decode cX4_powders 19 = .ok (.ireturn, 1) := by decide +kernel
theorem dX4_powders_20 : decode cX4_powders 20 = .ok (.aload_n 0, 1) := by decide +kernel
theorem dX4_powders_21 : decode cX4_powders 21 = .ok (.getfield 30, 3) := by decide +kernel
theorem dX4_powders_24 : decode cX4_powders 24 = .ok (.aload_n 0, 1) := by decide +kernel
theorem dX4_powders_25 : decode cX4_powders 25 = .ok (.getfield 20, 3) := by decide +kernel
theorem dX4_powders_28 : decode cX4_powders 28 = .ok (.invokevirtual 177, 3) := by decide +kernel
theorem dX4_powders_31 : decode cX4_powders 31 = .ok (.aload_n 0, 1) := by decide +kernel
theorem dX4_powders_32 : decode cX4_powders 32 = .ok (.getfield 20, 3) := by decide +kernel
theorem dX4_powders_35 : decode cX4_powders 35 = .ok (.getfield 124, 3) := by decide +kernel
theorem dX4_powders_38 : decode cX4_powders 38 = .ok (.iload_n 1, 1) := by decide +kernel
theorem dX4_powders_39 : decode cX4_powders 39 = .ok (.iaload, 1) := by decide +kernel
theorem dX4_powders_40 : decode cX4_powders 40 = .ok (.istore 4, 2) := by decide +kernel
theorem dX4_powders_42 : decode cX4_powders 42 = .ok (.aload_n 0, 1) := by decide +kernel
theorem dX4_powders_43 : decode cX4_powders 43 = .ok (.getfield 20, 3) := by decide +kernel
theorem dX4_powders_46 : decode cX4_powders 46 = .ok (.iload_n 1, 1) := by decide +kernel
theorem dX4_powders_47 : decode cX4_powders 47 = .ok (.iload_n 2, 1) := by decide +kernel
theorem dX4_powders_48 : decode cX4_powders 48 = .ok (.invokevirtual 180, 3) := by decide +kernel
theorem dX4_powders_51 : decode cX4_powders 51 = .ok (.iload 4, 2) := by decide +kernel
theorem dX4_powders_53 : decode cX4_powders 53 = .ok (.ireturn, 1) := by decide +kernel
set_option maxRecDepth 20000 in
theorem ggX4_hushes_X4_nobody : GoodIn wsX4_hushes wsX4_nobody := goodIn_r _ [6] (by decide +kernel) (by decide +kernel)
set_option maxRecDepth 20000 in
theorem gX4_hushes_X4_nobody : GoodIn wsX4_hushes (va_wsS RX4 56 yX4_nobody wsX4_nobody) := goodIn_app (goodIn_of _ (by decide +kernel)) ggX4_hushes_X4_nobody
set_option maxRecDepth 20000 in
theorem ggX4_hushes_X4_refuse : GoodIn wsX4_hushes wsX4_refuse := goodIn_r _ [10, 11, 48, 49, 50, 51, 52, 53, 54, 55, 56] (by decide +kernel) (by decide +kernel)
set_option maxRecDepth 20000 in
theorem gX4_hushes_X4_refuse : GoodIn wsX4_hushes (wsV RX4 76 RX4 yX4_refuse wsX4_refuse) := goodIn_app (goodIn_of _ (by decide +kernel)) ggX4_hushes_X4_refuse
set_option maxRecDepth 20000 in
theorem ggX4_hushes_X3_keep : GoodIn wsX4_hushes wsX3_keep := goodIn_r _ [15, 16, 17, 18, 19, 20, 21, 22, 23, 24, 25, 26, 27, 28, 29, 30, 31, 32, 33, 34, 35, 36, 37, 38, 39, 40, 41, 68, 69, 70, 57, 58, 59, 60, 61, 62, 63, 64, 65, 66, 67] (by decide +kernel) (by decide +kernel)
set_option maxRecDepth 20000 in
theorem gX4_hushes_X3_keep_n177 : GoodIn wsX4_hushes (wsX3_keep) := ggX4_hushes_X3_keep
set_option maxRecDepth 20000 in
theorem ggX4_hushes_X0_turnQuiet : GoodIn wsX4_hushes wsX0_turnQuiet := goodIn_r _ [44, 36, 57, 58, 59, 60, 61, 62, 63, 64, 65, 66, 67] (by decide +kernel) (by decide +kernel)
set_option maxRecDepth 20000 in
theorem gX4_hushes_X0_turnQuiet_n184 : GoodIn wsX4_hushes (wsX0_turnQuiet) := ggX4_hushes_X0_turnQuiet
set_option maxRecDepth 20000 in
theorem ggX4_hushes_X0_isQuiet : GoodIn wsX4_hushes wsX0_isQuiet := goodIn_r _ [47, 36, 57, 58, 59, 60, 61, 62, 63, 64, 65, 66, 67] (by decide +kernel) (by decide +kernel)
set_option maxRecDepth 20000 in
theorem gX4_hushes_X0_isQuiet_n127 : GoodIn wsX4_hushes (wsX0_isQuiet) := ggX4_hushes_X0_isQuiet
theorem dX4_hushes_0 : decode cX4_hushes 0 = .ok (.iload_n 1, 1) := by decide +kernel
theorem dX4_hushes_1 : decode cX4_hushes 1 = .ok (.aload_n 0, 1) := by decide +kernel
theorem dX4_hushes_2 : decode cX4_hushes 2 = .ok (.getfield 20, 3) := by decide +kernel
theorem dX4_hushes_5 : decode cX4_hushes 5 = .ok (.getfield 52, 3) := by decide +kernel
theorem dX4_hushes_8 : decode cX4_hushes 8 = .ok (.invokestatic 56, 3) := by decide +kernel
theorem dX4_hushes_11 : decode cX4_hushes 11 = .ok (.istore_n 2, 1) := by decide +kernel
theorem dX4_hushes_12 : decode cX4_hushes 12 = .ok (.iload_n 2, 1) := by decide +kernel
theorem dX4_hushes_13 : decode cX4_hushes 13 = .ok (.ifCond .eq 9, 3) := by decide +kernel
theorem dX4_hushes_16 : decode cX4_hushes 16 = .ok (.aload_n 0, 1) := by decide +kernel
theorem dX4_hushes_17 : decode cX4_hushes 17 = .ok (.iload_n 2, 1) := by decide +kernel
theorem dX4_hushes_18 : decode cX4_hushes 18 = .ok (.invokevirtual 76, 3) := by decide +kernel
theorem dX4_hushes_21 : decode cX4_hushes 21 = .ok (.ireturn, 1) := by decide +kernel
theorem dX4_hushes_22 : decode cX4_hushes 22 = .ok (.aload_n 0, 1) := by decide +kernel
theorem dX4_hushes_23 : decode cX4_hushes 23 = .ok (.getfield 30, 3) := by decide +kernel
theorem dX4_hushes_26 : decode cX4_hushes 26 = .ok (.aload_n 0, 1) := by decide +kernel
theorem dX4_hushes_27 : decode cX4_hushes 27 = .ok (.getfield 20, 3) := by decide +kernel
theorem dX4_hushes_30 : decode cX4_hushes 30 = .ok (.invokevirtual 177, 3) := by decide +kernel
theorem dX4_hushes_33 : decode cX4_hushes 33 = .ok (.aload_n 0, 1) := by decide +kernel
theorem dX4_hushes_34 : decode cX4_hushes 34 = .ok (.getfield 20, 3) := by decide +kernel
theorem dX4_hushes_37 : decode cX4_hushes 37 = .ok (.iload_n 1, 1) := by decide +kernel
theorem dX4_hushes_38 : decode cX4_hushes 38 = .ok (.invokevirtual 184, 3) := by decide +kernel
theorem dX4_hushes_41 : decode cX4_hushes 41 = .ok (.aload_n 0, 1) := by decide +kernel
theorem dX4_hushes_42 : decode cX4_hushes 42 = .ok (.getfield 20, 3) := by decide +kernel
theorem dX4_hushes_45 : decode cX4_hushes 45 = .ok (.iload_n 1, 1) := by decide +kernel
theorem dX4_hushes_46 : decode cX4_hushes 46 = .ok (.invokevirtual 127, 3) := by decide +kernel
theorem dX4_hushes_49 : decode cX4_hushes 49 = .ok (.ifCond .eq 7, 3) := by decide +kernel
theorem dX4_hushes_52 : decode cX4_hushes 52 = .ok (.iconst 1, 1) := by decide +kernel
theorem dX4_hushes_53 : decode cX4_hushes 53 = .ok (.goto 4, 3) := by decide +kernel
theorem dX4_hushes_56 : decode cX4_hushes 56 = .ok (.iconst 0, 1) := by decide +kernel
theorem dX4_hushes_57 : decode cX4_hushes 57 = .ok (.ireturn, 1) := by decide +kernel
set_option maxRecDepth 20000 in
theorem ggX4_isle_X0_refusalOfIsle : GoodIn wsX4_isle wsX0_refusalOfIsle := goodIn_r _ [6, 7, 8, 9, 10, 11, 12, 13, 14, 15, 16] (by decide +kernel) (by decide +kernel)
set_option maxRecDepth 20000 in
theorem gX4_isle_X0_refusalOfIsle_n188 : GoodIn wsX4_isle (wsX0_refusalOfIsle) := ggX4_isle_X0_refusalOfIsle
set_option maxRecDepth 20000 in
theorem ggX4_isle_X4_refuse : GoodIn wsX4_isle wsX4_refuse := goodIn_r _ [20, 21, 54, 55, 56, 57, 58, 59, 60, 61, 62] (by decide +kernel) (by decide +kernel)
set_option maxRecDepth 20000 in
theorem gX4_isle_X4_refuse : GoodIn wsX4_isle (wsV RX4 76 RX4 yX4_refuse wsX4_refuse) := goodIn_app (goodIn_of _ (by decide +kernel)) ggX4_isle_X4_refuse
set_option maxRecDepth 20000 in
theorem ggX4_isle_X3_keep : GoodIn wsX4_isle wsX3_keep := goodIn_r _ [25, 26, 27, 28, 29, 30, 31, 32, 33, 4, 34, 35, 36, 37, 38, 39, 40, 41, 42, 43, 44, 45, 46, 47, 48, 49, 50, 74, 75, 76, 63, 64, 65, 66, 67, 68, 69, 70, 71, 72, 73] (by decide +kernel) (by decide +kernel)
set_option maxRecDepth 20000 in
theorem gX4_isle_X3_keep_n177 : GoodIn wsX4_isle (wsX3_keep) := ggX4_isle_X3_keep
set_option maxRecDepth 20000 in
theorem ggX4_isle_X0_setIsle : GoodIn wsX4_isle wsX0_setIsle := goodIn_r _ [53, 47, 48, 63, 64, 65, 66, 67, 68, 69, 70, 71, 72, 73] (by decide +kernel) (by decide +kernel)
set_option maxRecDepth 20000 in
theorem gX4_isle_X0_setIsle_n191 : GoodIn wsX4_isle (wsX0_setIsle) := ggX4_isle_X0_setIsle
theorem dX4_isle_0 : decode cX4_isle 0 = .ok (.aload_n 0, 1) := by decide +kernel
theorem dX4_isle_1 : decode cX4_isle 1 = .ok (.getfield 20, 3) := by decide +kernel
theorem dX4_isle_4 : decode cX4_isle 4 = .ok (.iload_n 1, 1) := by decide +kernel
theorem dX4_isle_5 : decode cX4_isle 5 = .ok (.iload_n 2, 1) := by decide +kernel
theorem dX4_isle_6 : decode cX4_isle 6 = .ok (.invokevirtual 188, 3) := by decide +kernel
theorem dX4_isle_9 : decode cX4_isle 9 = .ok (.istore_n 3, 1) := by decide +kernel
theorem dX4_isle_10 : decode cX4_isle 10 = .ok (.iload_n 3, 1) := by decide +kernel
theorem dX4_isle_11 : decode cX4_isle 11 = .ok (.ifCond .eq 9, 3) := by decide +kernel
theorem dX4_isle_14 : decode cX4_isle 14 = .ok (.aload_n 0, 1) := by decide +kernel
theorem dX4_isle_15 : decode cX4_isle 15 = .ok (.iload_n 3, 1) := by decide +kernel
theorem dX4_isle_16 : decode cX4_isle 16 = .ok (.invokevirtual 76, 3) := by decide +kernel
theorem dX4_isle_19 : decode cX4_isle 19 = .ok (.ireturn, 1) := by decide +kernel
theorem dX4_isle_20 : decode cX4_isle 20 = .ok (.aload_n 0, 1) := by decide +kernel
theorem dX4_isle_21 : decode cX4_isle 21 = .ok (.getfield 30, 3) := by decide +kernel
theorem dX4_isle_24 : decode cX4_isle 24 = .ok (.aload_n 0, 1) := by decide +kernel
theorem dX4_isle_25 : decode cX4_isle 25 = .ok (.getfield 20, 3) := by decide +kernel
theorem dX4_isle_28 : decode cX4_isle 28 = .ok (.invokevirtual 177, 3) := by decide +kernel
theorem dX4_isle_31 : decode cX4_isle 31 = .ok (.iload_n 1, 1) := by decide +kernel
theorem dX4_isle_32 : decode cX4_isle 32 = .ok (.ifCond .ne 13, 3) := by decide +kernel
theorem dX4_isle_35 : decode cX4_isle 35 = .ok (.aload_n 0, 1) := by decide +kernel
theorem dX4_isle_36 : decode cX4_isle 36 = .ok (.getfield 20, 3) := by decide +kernel
theorem dX4_isle_39 : decode cX4_isle 39 = .ok (.getfield 140, 3) := by decide +kernel
theorem dX4_isle_42 : decode cX4_isle 42 = .ok (.goto 10, 3) := by decide +kernel
theorem dX4_isle_45 : decode cX4_isle 45 = .ok (.aload_n 0, 1) := by decide +kernel
theorem dX4_isle_46 : decode cX4_isle 46 = .ok (.getfield 20, 3) := by decide +kernel
theorem dX4_isle_49 : decode cX4_isle 49 = .ok (.getfield 143, 3) := by decide +kernel
theorem dX4_isle_52 : decode cX4_isle 52 = .ok (.istore 4, 2) := by decide +kernel
theorem dX4_isle_54 : decode cX4_isle 54 = .ok (.aload_n 0, 1) := by decide +kernel
theorem dX4_isle_55 : decode cX4_isle 55 = .ok (.getfield 20, 3) := by decide +kernel
theorem dX4_isle_58 : decode cX4_isle 58 = .ok (.iload_n 1, 1) := by decide +kernel
theorem dX4_isle_59 : decode cX4_isle 59 = .ok (.iload_n 2, 1) := by decide +kernel
theorem dX4_isle_60 : decode cX4_isle 60 = .ok (.invokevirtual 191, 3) := by decide +kernel
theorem dX4_isle_63 : decode cX4_isle 63 = .ok (.iload 4, 2) := by decide +kernel
theorem dX4_isle_65 : decode cX4_isle 65 = .ok (.ireturn, 1) := by decide +kernel
set_option maxRecDepth 20000 in
theorem ggX4_hours_X0_refusalOfHours : GoodIn wsX4_hours wsX0_refusalOfHours := goodIn_r _ [6, 7, 8, 9, 10, 11, 12, 13, 14, 118, 119, 120, 121, 122, 123, 124, 125, 126, 127, 128] (by decide +kernel) (by decide +kernel)
set_option maxRecDepth 20000 in
theorem gX4_hours_X0_refusalOfHours_n194 : GoodIn wsX4_hours (wsX0_refusalOfHours) := ggX4_hours_X0_refusalOfHours
set_option maxRecDepth 20000 in
theorem ggX4_hours_X4_refuse : GoodIn wsX4_hours wsX4_refuse := goodIn_r _ [18, 19, 109, 110, 111, 112, 113, 114, 115, 116, 117] (by decide +kernel) (by decide +kernel)
set_option maxRecDepth 20000 in
theorem gX4_hours_X4_refuse : GoodIn wsX4_hours (wsV RX4 76 RX4 yX4_refuse wsX4_refuse) := goodIn_app (goodIn_of _ (by decide +kernel)) ggX4_hours_X4_refuse
set_option maxRecDepth 20000 in
theorem ggX4_hours_X3_keep : GoodIn wsX4_hours wsX3_keep := goodIn_r _ [23, 24, 25, 26, 27, 28, 29, 30, 31, 4, 32, 33, 34, 35, 36, 37, 38, 39, 40, 41, 42, 43, 44, 45, 46, 8, 7, 129, 130, 131, 118, 119, 120, 121, 122, 123, 124, 125, 126, 127, 128] (by decide +kernel) (by decide +kernel)
set_option maxRecDepth 20000 in
theorem gX4_hours_X3_keep_n177 : GoodIn wsX4_hours (wsX3_keep) := ggX4_hours_X3_keep
set_option maxRecDepth 20000 in
theorem ggX4_hours_X0_passHours : GoodIn wsX4_hours wsX0_passHours := goodIn_r _ [49, 50, 51, 52, 4, 53, 8, 45, 7, 42, 54, 28, 29, 30, 55, 56, 57, 58, 44, 59, 60, 61, 62, 41, 63, 64, 65, 66, 43, 67, 68, 69, 70, 40, 71, 72, 73, 74, 34, 39, 75, 76, 77, 78, 79, 80, 81, 82, 83, 84, 85, 86, 87, 88, 89, 90, 91, 92, 93, 46, 94, 95, 96, 97, 98, 99, 100, 101, 102, 103, 104, 105, 106, 107, 108, 118, 119, 120, 121, 122, 123, 124, 125, 126, 127, 128] (by decide +kernel) (by decide +kernel)
set_option maxRecDepth 20000 in
theorem gX4_hours_X0_passHours_n197 : GoodIn wsX4_hours (wsX0_passHours) := ggX4_hours_X0_passHours
theorem dX4_hours_0 : decode cX4_hours 0 = .ok (.aload_n 0, 1) := by decide +kernel
theorem dX4_hours_1 : decode cX4_hours 1 = .ok (.getfield 20, 3) := by decide +kernel
theorem dX4_hours_4 : decode cX4_hours 4 = .ok (.iload_n 1, 1) := by decide +kernel
theorem dX4_hours_5 : decode cX4_hours 5 = .ok (.invokevirtual 194, 3) := by decide +kernel
theorem dX4_hours_8 : decode cX4_hours 8 = .ok (.istore_n 2, 1) := by decide +kernel
theorem dX4_hours_9 : decode cX4_hours 9 = .ok (.iload_n 2, 1) := by decide +kernel
theorem dX4_hours_10 : decode cX4_hours 10 = .ok (.ifCond .eq 9, 3) := by decide +kernel
theorem dX4_hours_13 : decode cX4_hours 13 = .ok (.aload_n 0, 1) := by decide +kernel
theorem dX4_hours_14 : decode cX4_hours 14 = .ok (.iload_n 2, 1) := by decide +kernel
theorem dX4_hours_15 : decode cX4_hours 15 = .ok (.invokevirtual 76, 3) := by decide +kernel
theorem dX4_hours_18 : decode cX4_hours 18 = .ok (.ireturn, 1) := by decide +kernel
theorem dX4_hours_19 : decode cX4_hours 19 = .ok (.aload_n 0, 1) := by decide +kernel
theorem dX4_hours_20 : decode cX4_hours 20 = .ok (.getfield 30, 3) := by decide +kernel
theorem dX4_hours_23 : decode cX4_hours 23 = .ok (.aload_n 0, 1) := by decide +kernel
theorem dX4_hours_24 : decode cX4_hours 24 = .ok (.getfield 20, 3) := by decide +kernel
theorem dX4_hours_27 : decode cX4_hours 27 = .ok (.invokevirtual 177, 3) := by decide +kernel
theorem dX4_hours_30 : decode cX4_hours 30 = .ok (.aload_n 0, 1) := by decide +kernel
theorem dX4_hours_31 : decode cX4_hours 31 = .ok (.getfield 20, 3) := by decide +kernel
theorem dX4_hours_34 : decode cX4_hours 34 = .ok (.iload_n 1, 1) := by decide +kernel
theorem dX4_hours_35 : decode cX4_hours 35 = .ok (.invokevirtual 197, 3) := by decide +kernel
theorem dX4_hours_38 : decode cX4_hours 38 = .ok (.aload_n 0, 1) := by decide +kernel
theorem dX4_hours_39 : decode cX4_hours 39 = .ok (.getfield 20, 3) := by decide +kernel
theorem dX4_hours_42 : decode cX4_hours 42 = .ok (.getfield 140, 3) := by decide +kernel
theorem dX4_hours_45 : decode cX4_hours 45 = .ok (.ireturn, 1) := by decide +kernel
set_option maxRecDepth 20000 in
theorem ggX4_back_X4_refuse : GoodIn wsX4_back wsX4_refuse := goodIn_r _ [7, 8, 35, 36, 37, 38, 39, 40, 41, 42, 43] (by decide +kernel) (by decide +kernel)
set_option maxRecDepth 20000 in
theorem gX4_back_X4_refuse : GoodIn wsX4_back (wsV RX4 76 RX4 yX4_refuse wsX4_refuse) := goodIn_app (goodIn_of _ (by decide +kernel)) ggX4_back_X4_refuse
set_option maxRecDepth 20000 in
theorem ggX4_back_X3_takeBack : GoodIn wsX4_back wsX3_takeBack := goodIn_r _ [12, 13, 14, 15, 16, 17, 18, 19, 20, 21, 22, 23, 24, 25, 26, 27, 28, 29, 30, 31, 32, 33, 34, 44, 45, 46, 47, 48, 49, 50, 51, 52, 53, 54, 55, 56, 57] (by decide +kernel) (by decide +kernel)
set_option maxRecDepth 20000 in
theorem gX4_back_X3_takeBack_n200 : GoodIn wsX4_back (wsX3_takeBack) := ggX4_back_X3_takeBack
theorem dX4_back_0 : decode cX4_back 0 = .ok (.aload_n 0, 1) := by decide +kernel
theorem dX4_back_1 : decode cX4_back 1 = .ok (.getfield 30, 3) := by decide +kernel
theorem dX4_back_4 : decode cX4_back 4 = .ok (.getfield 112, 3) := by decide +kernel
theorem dX4_back_7 : decode cX4_back 7 = .ok (.ifCond .ne 10, 3) := by decide +kernel
theorem dX4_back_10 : decode cX4_back 10 = .ok (.aload_n 0, 1) := by decide +kernel
theorem dX4_back_11 : decode cX4_back 11 = .ok (.bipush (-3), 2) := by decide +kernel
theorem dX4_back_13 : decode cX4_back 13 = .ok (.invokevirtual 76, 3) := by decide +kernel
theorem dX4_back_16 : decode cX4_back 16 = .ok (.ireturn, 1) := by decide +kernel
theorem dX4_back_17 : decode cX4_back 17 = .ok (.aload_n 0, 1) := by decide +kernel
theorem dX4_back_18 : decode cX4_back 18 = .ok (.getfield 30, 3) := by decide +kernel
theorem dX4_back_21 : decode cX4_back 21 = .ok (.aload_n 0, 1) := by decide +kernel
theorem dX4_back_22 : decode cX4_back 22 = .ok (.getfield 20, 3) := by decide +kernel
theorem dX4_back_25 : decode cX4_back 25 = .ok (.invokevirtual 200, 3) := by decide +kernel
theorem dX4_back_28 : decode cX4_back 28 = .ok (.aload_n 0, 1) := by decide +kernel
theorem dX4_back_29 : decode cX4_back 29 = .ok (.getfield 30, 3) := by decide +kernel
theorem dX4_back_32 : decode cX4_back 32 = .ok (.getfield 112, 3) := by decide +kernel
theorem dX4_back_35 : decode cX4_back 35 = .ok (.ireturn, 1) := by decide +kernel
set_option maxRecDepth 20000 in
theorem ggX4_image_X0_become : GoodIn wsX4_image wsX0_become := goodIn_r _ [7, 8, 9, 10, 11, 12, 13, 14, 15, 16, 17, 18, 19, 20, 21, 22, 32, 33, 34, 35, 36, 37, 38, 39, 40, 41, 42] (by decide +kernel) (by decide +kernel)
set_option maxRecDepth 20000 in
theorem gX4_image_X0_become_n108 : GoodIn wsX4_image (wsX0_become) := ggX4_image_X0_become
theorem dX4_image_0 : decode cX4_image 0 = .ok (.aload_n 0, 1) := by decide +kernel
theorem dX4_image_1 : decode cX4_image 1 = .ok (.getfield 24, 3) := by decide +kernel
theorem dX4_image_4 : decode cX4_image 4 = .ok (.aload_n 0, 1) := by decide +kernel
theorem dX4_image_5 : decode cX4_image 5 = .ok (.getfield 20, 3) := by decide +kernel
theorem dX4_image_8 : decode cX4_image 8 = .ok (.invokevirtual 108, 3) := by decide +kernel
theorem dX4_image_11 : decode cX4_image 11 = .ok (.aload_n 0, 1) := by decide +kernel
theorem dX4_image_12 : decode cX4_image 12 = .ok (.iconst 1, 1) := by decide +kernel
theorem dX4_image_13 : decode cX4_image 13 = .ok (.putfield 203, 3) := by decide +kernel
theorem dX4_image_16 : decode cX4_image 16 = .ok (.aload_n 0, 1) := by decide +kernel
theorem dX4_image_17 : decode cX4_image 17 = .ok (.getfield 20, 3) := by decide +kernel
theorem dX4_image_20 : decode cX4_image 20 = .ok (.getfield 152, 3) := by decide +kernel
theorem dX4_image_23 : decode cX4_image 23 = .ok (.ireturn, 1) := by decide +kernel
set_option maxRecDepth 20000 in
theorem ggX4_restore_X4_refuse : GoodIn wsX4_restore wsX4_refuse := goodIn_r _ [9, 10, 30, 31, 32, 33, 34, 35, 36, 37, 38] (by decide +kernel) (by decide +kernel)
set_option maxRecDepth 20000 in
theorem gX4_restore_X4_refuse : GoodIn wsX4_restore (wsV RX4 76 RX4 yX4_refuse wsX4_refuse) := goodIn_app (goodIn_of _ (by decide +kernel)) ggX4_restore_X4_refuse
set_option maxRecDepth 20000 in
theorem ggX4_restore_X0_become : GoodIn wsX4_restore wsX0_become := goodIn_r _ [14, 15, 16, 17, 18, 19, 20, 21, 22, 23, 24, 25, 26, 27, 28, 29, 42, 43, 44, 45, 46, 47, 48, 49, 50, 51, 52] (by decide +kernel) (by decide +kernel)
set_option maxRecDepth 20000 in
theorem gX4_restore_X0_become_n108 : GoodIn wsX4_restore (wsX0_become) := ggX4_restore_X0_become
theorem dX4_restore_0 : decode cX4_restore 0 = .ok (.aload_n 0, 1) := by decide +kernel
theorem dX4_restore_1 : decode cX4_restore 1 = .ok (.getfield 203, 3) := by decide +kernel
theorem dX4_restore_4 : decode cX4_restore 4 = .ok (.ifCond .ne 10, 3) := by decide +kernel
theorem dX4_restore_7 : decode cX4_restore 7 = .ok (.aload_n 0, 1) := by decide +kernel
theorem dX4_restore_8 : decode cX4_restore 8 = .ok (.bipush (-3), 2) := by decide +kernel
theorem dX4_restore_10 : decode cX4_restore 10 = .ok (.invokevirtual 76, 3) := by decide +kernel
theorem dX4_restore_13 : decode cX4_restore 13 = .ok (.ireturn, 1) := by decide +kernel
theorem dX4_restore_14 : decode cX4_restore 14 = .ok (.aload_n 0, 1) := by decide +kernel
theorem dX4_restore_15 : decode cX4_restore 15 = .ok (.getfield 20, 3) := by decide +kernel
theorem dX4_restore_18 : decode cX4_restore 18 = .ok (.aload_n 0, 1) := by decide +kernel
theorem dX4_restore_19 : decode cX4_restore 19 = .ok (.getfield 24, 3) := by decide +kernel
theorem dX4_restore_22 : decode cX4_restore 22 = .ok (.invokevirtual 108, 3) := by decide +kernel
theorem dX4_restore_25 : decode cX4_restore 25 = .ok (.aload_n 0, 1) := by decide +kernel
theorem dX4_restore_26 : decode cX4_restore 26 = .ok (.getfield 30, 3) := by decide +kernel
theorem dX4_restore_29 : decode cX4_restore 29 = .ok (.iconst 0, 1) := by decide +kernel
theorem dX4_restore_30 : decode cX4_restore 30 = .ok (.putfield 112, 3) := by decide +kernel
theorem dX4_restore_33 : decode cX4_restore 33 = .ok (.aload_n 0, 1) := by decide +kernel
theorem dX4_restore_34 : decode cX4_restore 34 = .ok (.getfield 20, 3) := by decide +kernel
theorem dX4_restore_37 : decode cX4_restore 37 = .ok (.getfield 152, 3) := by decide +kernel
theorem dX4_restore_40 : decode cX4_restore 40 = .ok (.ireturn, 1) := by decide +kernel
set_option maxRecDepth 20000 in
theorem ggX4_noise_X4_nobody : GoodIn wsX4_noise wsX4_nobody := goodIn_r _ [5] (by decide +kernel) (by decide +kernel)
set_option maxRecDepth 20000 in
theorem gX4_noise_X4_nobody : GoodIn wsX4_noise (va_wsS RX4 56 yX4_nobody wsX4_nobody) := goodIn_app (goodIn_of _ (by decide +kernel)) ggX4_noise_X4_nobody
set_option maxRecDepth 20000 in
theorem ggX4_noise_X4_firstOf : GoodIn wsX4_noise wsX4_firstOf := goodIn_r _ [8] (by decide +kernel) (by decide +kernel)
set_option maxRecDepth 20000 in
theorem gX4_noise_X4_firstOf : GoodIn wsX4_noise (va_wsS RX4 63 yX4_firstOf wsX4_firstOf) := goodIn_app (goodIn_of _ (by decide +kernel)) ggX4_noise_X4_firstOf
set_option maxRecDepth 20000 in
theorem ggX4_noise_X4_refuse : GoodIn wsX4_noise wsX4_refuse := goodIn_r _ [12, 13, 40, 41, 42, 43, 44, 45, 46, 47, 48] (by decide +kernel) (by decide +kernel)
set_option maxRecDepth 20000 in
theorem gX4_noise_X4_refuse : GoodIn wsX4_noise (wsV RX4 76 RX4 yX4_refuse wsX4_refuse) := goodIn_app (goodIn_of _ (by decide +kernel)) ggX4_noise_X4_refuse
set_option maxRecDepth 20000 in
theorem ggX4_noise_X0_noiseOf : GoodIn wsX4_noise wsX0_noiseOf := goodIn_r _ [17, 18, 19, 20, 21, 15, 22, 23, 24, 25, 26, 27, 28, 29, 30, 31, 32, 33, 34, 35, 36, 37, 38, 39, 49, 50, 51, 52, 53, 54, 55, 56, 57, 58, 59] (by decide +kernel) (by decide +kernel)
set_option maxRecDepth 20000 in
theorem gX4_noise_X0_noiseOf_n207 : GoodIn wsX4_noise (wsX0_noiseOf) := ggX4_noise_X0_noiseOf
theorem dX4_noise_0 : decode cX4_noise 0 = .ok (.iload_n 1, 1) := by decide +kernel
theorem dX4_noise_1 : decode cX4_noise 1 = .ok (.aload_n 0, 1) := by decide +kernel
theorem dX4_noise_2 : decode cX4_noise 2 = .ok (.getfield 20, 3) := by decide +kernel
theorem dX4_noise_5 : decode cX4_noise 5 = .ok (.getfield 52, 3) := by decide +kernel
theorem dX4_noise_8 : decode cX4_noise 8 = .ok (.invokestatic 56, 3) := by decide +kernel
theorem dX4_noise_11 : decode cX4_noise 11 = .ok (.iload_n 2, 1) := by decide +kernel
theorem dX4_noise_12 : decode cX4_noise 12 = .ok (.bipush 24, 2) := by decide +kernel
theorem dX4_noise_14 : decode cX4_noise 14 = .ok (.invokestatic 56, 3) := by decide +kernel
theorem dX4_noise_17 : decode cX4_noise 17 = .ok (.invokestatic 63, 3) := by decide +kernel
theorem dX4_noise_20 : decode cX4_noise 20 = .ok (.istore_n 3, 1) := by decide +kernel
theorem dX4_noise_21 : decode cX4_noise 21 = .ok (.iload_n 3, 1) := by decide +kernel
theorem dX4_noise_22 : decode cX4_noise 22 = .ok (.ifCond .eq 11, 3) := by decide +kernel
theorem dX4_noise_25 : decode cX4_noise 25 = .ok (.aload_n 0, 1) := by decide +kernel
theorem dX4_noise_26 : decode cX4_noise 26 = .ok (.iload_n 3, 1) := by decide +kernel
theorem dX4_noise_27 : decode cX4_noise 27 = .ok (.invokevirtual 76, 3) := by decide +kernel
theorem dX4_noise_30 : decode cX4_noise 30 = .ok (.goto 12, 3) := by decide +kernel
theorem dX4_noise_33 : decode cX4_noise 33 = .ok (.aload_n 0, 1) := by decide +kernel
theorem dX4_noise_34 : decode cX4_noise 34 = .ok (.getfield 20, 3) := by decide +kernel
theorem dX4_noise_37 : decode cX4_noise 37 = .ok (.iload_n 1, 1) := by decide +kernel
theorem dX4_noise_38 : decode cX4_noise 38 = .ok (.iload_n 2, 1) := by decide +kernel
theorem dX4_noise_39 : decode cX4_noise 39 = .ok (.invokevirtual 207, 3) := by decide +kernel
theorem dX4_noise_42 : decode cX4_noise 42 = .ok (.ireturn, 1) := by decide +kernel
set_option maxRecDepth 20000 in
theorem ggX4_loudest_X4_nobody : GoodIn wsX4_loudest wsX4_nobody := goodIn_r _ [5] (by decide +kernel) (by decide +kernel)
set_option maxRecDepth 20000 in
theorem gX4_loudest_X4_nobody : GoodIn wsX4_loudest (va_wsS RX4 56 yX4_nobody wsX4_nobody) := goodIn_app (goodIn_of _ (by decide +kernel)) ggX4_loudest_X4_nobody
set_option maxRecDepth 20000 in
theorem ggX4_loudest_X4_unknown : GoodIn wsX4_loudest wsX4_unknown := goodIn_r _ [8] (by decide +kernel) (by decide +kernel)
set_option maxRecDepth 20000 in
theorem gX4_loudest_X4_unknown : GoodIn wsX4_loudest (va_wsS RX4 69 yX4_unknown wsX4_unknown) := goodIn_app (goodIn_of _ (by decide +kernel)) ggX4_loudest_X4_unknown
set_option maxRecDepth 20000 in
theorem ggX4_loudest_X4_firstOf : GoodIn wsX4_loudest wsX4_firstOf := goodIn_r _ [11] (by decide +kernel) (by decide +kernel)
set_option maxRecDepth 20000 in
theorem gX4_loudest_X4_firstOf : GoodIn wsX4_loudest (va_wsS RX4 63 yX4_firstOf wsX4_firstOf) := goodIn_app (goodIn_of _ (by decide +kernel)) ggX4_loudest_X4_firstOf
set_option maxRecDepth 20000 in
theorem ggX4_loudest_X4_refuse : GoodIn wsX4_loudest wsX4_refuse := goodIn_r _ [15, 16, 59, 60, 61, 62, 63, 64, 65, 66, 67] (by decide +kernel) (by decide +kernel)
set_option maxRecDepth 20000 in
theorem gX4_loudest_X4_refuse : GoodIn wsX4_loudest (wsV RX4 76 RX4 yX4_refuse wsX4_refuse) := goodIn_app (goodIn_of _ (by decide +kernel)) ggX4_loudest_X4_refuse
set_option maxRecDepth 20000 in
theorem ggX4_loudest_X0_loudestAt : GoodIn wsX4_loudest wsX0_loudestAt := goodIn_r _ [20, 21, 22, 23, 24, 18, 25, 26, 27, 28, 29, 30, 31, 32, 33, 34, 35, 36, 37, 38, 39, 40, 41, 42, 43, 44, 45, 46, 47, 48, 49, 50, 51, 52, 53, 54, 55, 68, 69, 70, 71, 72, 73, 74, 75, 76, 77, 78] (by decide +kernel) (by decide +kernel)
set_option maxRecDepth 20000 in
theorem gX4_loudest_X0_loudestAt_n210 : GoodIn wsX4_loudest (wsX0_loudestAt) := ggX4_loudest_X0_loudestAt
set_option maxRecDepth 20000 in
theorem ggX4_loudest_X0_noiseTogether : GoodIn wsX4_loudest wsX0_noiseTogether := goodIn_r _ [58, 21, 22, 23, 24, 18, 25, 26, 27, 28, 29, 30, 31, 32, 33, 34, 35, 36, 37, 38, 39, 40, 41, 42, 43, 44, 45, 46, 47, 68, 69, 70, 71, 72, 73, 74, 75, 76, 77, 78] (by decide +kernel) (by decide +kernel)
set_option maxRecDepth 20000 in
theorem gX4_loudest_X0_noiseTogether_n213 : GoodIn wsX4_loudest (wsX0_noiseTogether) := ggX4_loudest_X0_noiseTogether
theorem dX4_loudest_0 : decode cX4_loudest 0 = .ok (.iload_n 1, 1) := by decide +kernel
theorem dX4_loudest_1 : decode cX4_loudest 1 = .ok (.bipush 24, 2) := by decide +kernel
theorem dX4_loudest_3 : decode cX4_loudest 3 = .ok (.invokestatic 56, 3) := by decide +kernel
theorem dX4_loudest_6 : decode cX4_loudest 6 = .ok (.iload_n 2, 1) := by decide +kernel
theorem dX4_loudest_7 : decode cX4_loudest 7 = .ok (.iconst 1, 1) := by decide +kernel
theorem dX4_loudest_8 : decode cX4_loudest 8 = .ok (.invokestatic 69, 3) := by decide +kernel
theorem dX4_loudest_11 : decode cX4_loudest 11 = .ok (.invokestatic 63, 3) := by decide +kernel
theorem dX4_loudest_14 : decode cX4_loudest 14 = .ok (.istore_n 3, 1) := by decide +kernel
theorem dX4_loudest_15 : decode cX4_loudest 15 = .ok (.iload_n 3, 1) := by decide +kernel
theorem dX4_loudest_16 : decode cX4_loudest 16 = .ok (.ifCond .eq 9, 3) := by decide +kernel
theorem dX4_loudest_19 : decode cX4_loudest 19 = .ok (.aload_n 0, 1) := by decide +kernel
theorem dX4_loudest_20 : decode cX4_loudest 20 = .ok (.iload_n 3, 1) := by decide +kernel
theorem dX4_loudest_21 : decode cX4_loudest 21 = .ok (.invokevirtual 76, 3) := by decide +kernel
theorem dX4_loudest_24 : decode cX4_loudest 24 = .ok (.ireturn, 1) := by decide +kernel
theorem dX4_loudest_25 : decode cX4_loudest 25 = .ok (.iload_n 2, 1) := by decide +kernel
theorem dX4_loudest_26 : decode cX4_loudest 26 = .ok (.ifCond .ne 14, 3) := by decide +kernel
theorem dX4_loudest_29 : decode cX4_loudest 29 = .ok (.aload_n 0, 1) := by decide +kernel
theorem dX4_loudest_30 : decode cX4_loudest 30 = .ok (.getfield 20, 3) := by decide +kernel
theorem dX4_loudest_33 : decode cX4_loudest 33 = .ok (.iload_n 1, 1) := by decide +kernel
theorem dX4_loudest_34 : decode cX4_loudest 34 = .ok (.invokevirtual 210, 3) := by decide +kernel
theorem dX4_loudest_37 : decode cX4_loudest 37 = .ok (.goto 11, 3) := by decide +kernel
theorem dX4_loudest_40 : decode cX4_loudest 40 = .ok (.aload_n 0, 1) := by decide +kernel
theorem dX4_loudest_41 : decode cX4_loudest 41 = .ok (.getfield 20, 3) := by decide +kernel
theorem dX4_loudest_44 : decode cX4_loudest 44 = .ok (.iload_n 1, 1) := by decide +kernel
theorem dX4_loudest_45 : decode cX4_loudest 45 = .ok (.invokevirtual 213, 3) := by decide +kernel
theorem dX4_loudest_48 : decode cX4_loudest 48 = .ok (.ireturn, 1) := by decide +kernel
set_option maxRecDepth 20000 in
theorem ggX4_nearest_X4_unknown : GoodIn wsX4_nearest wsX4_unknown := goodIn_r _ [5] (by decide +kernel) (by decide +kernel)
set_option maxRecDepth 20000 in
theorem gX4_nearest_X4_unknown : GoodIn wsX4_nearest (va_wsS RX4 69 yX4_unknown wsX4_unknown) := goodIn_app (goodIn_of _ (by decide +kernel)) ggX4_nearest_X4_unknown
set_option maxRecDepth 20000 in
theorem ggX4_nearest_X4_refuse : GoodIn wsX4_nearest wsX4_refuse := goodIn_r _ [9, 10, 26, 27, 28, 29, 30, 31, 32, 33, 34] (by decide +kernel) (by decide +kernel)
set_option maxRecDepth 20000 in
theorem gX4_nearest_X4_refuse : GoodIn wsX4_nearest (wsV RX4 76 RX4 yX4_refuse wsX4_refuse) := goodIn_app (goodIn_of _ (by decide +kernel)) ggX4_nearest_X4_refuse
set_option maxRecDepth 20000 in
theorem ggX4_nearest_X0_nearestShore : GoodIn wsX4_nearest wsX0_nearestShore := goodIn_r _ [14, 15, 16, 17, 18, 12, 19, 20, 21, 22, 23, 24, 25, 35, 36, 37, 38, 39, 40, 41, 42, 43, 44, 45] (by decide +kernel) (by decide +kernel)
set_option maxRecDepth 20000 in
theorem gX4_nearest_X0_nearestShore_n216 : GoodIn wsX4_nearest (wsX0_nearestShore) := ggX4_nearest_X0_nearestShore
set_option maxRecDepth 20000 in
theorem ggX4_nearest_X0_distanceTo : GoodIn wsX4_nearest wsX0_distanceTo := goodIn_r _ [19, 20, 21, 22, 23, 24, 25, 35, 36, 37, 38, 39, 40, 41, 42, 43, 44, 45] (by decide +kernel) (by decide +kernel)
set_option maxRecDepth 20000 in
theorem gX4_nearest_X0_distanceTo_n219 : GoodIn wsX4_nearest (wsX0_distanceTo) := ggX4_nearest_X0_distanceTo
theorem dX4_nearest_0 : decode cX4_nearest 0 = .ok (.iload_n 1, 1) := by decide +kernel
theorem dX4_nearest_1 : decode cX4_nearest 1 = .ok (.iconst 1, 1) := by decide +kernel
theorem dX4_nearest_2 : decode cX4_nearest 2 = .ok (.invokestatic 69, 3) := by decide +kernel
theorem dX4_nearest_5 : decode cX4_nearest 5 = .ok (.istore_n 2, 1) := by decide +kernel
theorem dX4_nearest_6 : decode cX4_nearest 6 = .ok (.iload_n 2, 1) := by decide +kernel
theorem dX4_nearest_7 : decode cX4_nearest 7 = .ok (.ifCond .eq 9, 3) := by decide +kernel
theorem dX4_nearest_10 : decode cX4_nearest 10 = .ok (.aload_n 0, 1) := by decide +kernel
theorem dX4_nearest_11 : decode cX4_nearest 11 = .ok (.iload_n 2, 1) := by decide +kernel
theorem dX4_nearest_12 : decode cX4_nearest 12 = .ok (.invokevirtual 76, 3) := by decide +kernel
theorem dX4_nearest_15 : decode cX4_nearest 15 = .ok (.ireturn, 1) := by decide +kernel
theorem dX4_nearest_16 : decode cX4_nearest 16 = .ok (.aload_n 0, 1) := by decide +kernel
theorem dX4_nearest_17 : decode cX4_nearest 17 = .ok (.getfield 20, 3) := by decide +kernel
theorem dX4_nearest_20 : decode cX4_nearest 20 = .ok (.invokevirtual 216, 3) := by decide +kernel
theorem dX4_nearest_23 : decode cX4_nearest 23 = .ok (.istore_n 3, 1) := by decide +kernel
theorem dX4_nearest_24 : decode cX4_nearest 24 = .ok (.iload_n 1, 1) := by decide +kernel
theorem dX4_nearest_25 : decode cX4_nearest 25 = .ok (.ifCond .eq 9, 3) := by decide +kernel
theorem dX4_nearest_28 : decode cX4_nearest 28 = .ok (.iload_n 3, 1) := by decide +kernel
theorem dX4_nearest_29 : decode cX4_nearest 29 = .ok (.bipush (-9), 2) := by decide +kernel
theorem dX4_nearest_31 : decode cX4_nearest 31 = .ok (.if_icmp .ne 7, 3) := by decide +kernel
theorem dX4_nearest_34 : decode cX4_nearest 34 = .ok (.iload_n 3, 1) := by decide +kernel
theorem dX4_nearest_35 : decode cX4_nearest 35 = .ok (.goto 11, 3) := by decide +kernel
theorem dX4_nearest_38 : decode cX4_nearest 38 = .ok (.aload_n 0, 1) := by decide +kernel
theorem dX4_nearest_39 : decode cX4_nearest 39 = .ok (.getfield 20, 3) := by decide +kernel
theorem dX4_nearest_42 : decode cX4_nearest 42 = .ok (.iload_n 3, 1) := by decide +kernel
theorem dX4_nearest_43 : decode cX4_nearest 43 = .ok (.invokevirtual 219, 3) := by decide +kernel
theorem dX4_nearest_46 : decode cX4_nearest 46 = .ok (.ireturn, 1) := by decide +kernel
set_option maxRecDepth 20000 in
theorem ggX4_shared_X0_joyTogether : GoodIn wsX4_shared wsX0_joyTogether := goodIn_r _ [9, 10, 11, 30, 31, 32, 33, 34, 35, 36, 37, 38, 39, 40] (by decide +kernel) (by decide +kernel)
set_option maxRecDepth 20000 in
theorem gX4_shared_X0_joyTogether_n158 : GoodIn wsX4_shared (wsX0_joyTogether) := ggX4_shared_X0_joyTogether
set_option maxRecDepth 20000 in
theorem ggX4_shared_X0_joylessBits : GoodIn wsX4_shared wsX0_joylessBits := goodIn_r _ [14, 10, 11, 30, 31, 32, 33, 34, 35, 36, 37, 38, 39, 40] (by decide +kernel) (by decide +kernel)
set_option maxRecDepth 20000 in
theorem gX4_shared_X0_joylessBits_n227 : GoodIn wsX4_shared (wsX0_joylessBits) := ggX4_shared_X0_joylessBits
set_option maxRecDepth 20000 in
theorem ggX4_shared_X4_refuse : GoodIn wsX4_shared wsX4_refuse := goodIn_r _ [19, 20, 21, 22, 23, 24, 25, 26, 27, 28, 29] (by decide +kernel) (by decide +kernel)
set_option maxRecDepth 20000 in
theorem gX4_shared_X4_refuse : GoodIn wsX4_shared (wsV RX4 76 RX4 yX4_refuse wsX4_refuse) := goodIn_app (goodIn_of _ (by decide +kernel)) ggX4_shared_X4_refuse
theorem dX4_shared_0 : decode cX4_shared 0 = .ok (.iconst 1, 1) := by decide +kernel
theorem dX4_shared_1 : decode cX4_shared 1 = .ok (.aload_n 0, 1) := by decide +kernel
theorem dX4_shared_2 : decode cX4_shared 2 = .ok (.getfield 20, 3) := by decide +kernel
theorem dX4_shared_5 : decode cX4_shared 5 = .ok (.getfield 52, 3) := by decide +kernel
theorem dX4_shared_8 : decode cX4_shared 8 = .ok (.invokestatic 222, 3) := by decide +kernel
theorem dX4_shared_11 : decode cX4_shared 11 = .ok (.istore_n 2, 1) := by decide +kernel
theorem dX4_shared_12 : decode cX4_shared 12 = .ok (.iload_n 1, 1) := by decide +kernel
theorem dX4_shared_13 : decode cX4_shared 13 = .ok (.tableswitch 55 0 2 #[27, 37, 47], 27) := by decide +kernel
theorem dX4_shared_40 : decode cX4_shared 40 = .ok (.aload_n 0, 1) := by decide +kernel
theorem dX4_shared_41 : decode cX4_shared 41 = .ok (.getfield 20, 3) := by decide +kernel
theorem dX4_shared_44 : decode cX4_shared 44 = .ok (.invokevirtual 158, 3) := by decide +kernel
theorem dX4_shared_47 : decode cX4_shared 47 = .ok (.iload_n 2, 1) := by decide +kernel
theorem dX4_shared_48 : decode cX4_shared 48 = .ok (.idiv, 1) := by decide +kernel
theorem dX4_shared_49 : decode cX4_shared 49 = .ok (.ireturn, 1) := by decide +kernel
theorem dX4_shared_50 : decode cX4_shared 50 = .ok (.aload_n 0, 1) := by decide +kernel
theorem dX4_shared_51 : decode cX4_shared 51 = .ok (.getfield 20, 3) := by decide +kernel
theorem dX4_shared_54 : decode cX4_shared 54 = .ok (.invokevirtual 158, 3) := by decide +kernel
theorem dX4_shared_57 : decode cX4_shared 57 = .ok (.iload_n 2, 1) := by decide +kernel
theorem dX4_shared_58 : decode cX4_shared 58 = .ok (.irem, 1) := by decide +kernel
theorem dX4_shared_59 : decode cX4_shared 59 = .ok (.ireturn, 1) := by decide +kernel
theorem dX4_shared_60 : decode cX4_shared 60 = .ok (.aload_n 0, 1) := by decide +kernel
theorem dX4_shared_61 : decode cX4_shared 61 = .ok (.getfield 20, 3) := by decide +kernel
theorem dX4_shared_64 : decode cX4_shared 64 = .ok (.invokevirtual 227, 3) := by decide +kernel
theorem dX4_shared_67 : decode cX4_shared 67 = .ok (.ireturn, 1) := by decide +kernel
theorem dX4_shared_68 : decode cX4_shared 68 = .ok (.aload_n 0, 1) := by decide +kernel
theorem dX4_shared_69 : decode cX4_shared 69 = .ok (.bipush (-2), 2) := by decide +kernel
theorem dX4_shared_71 : decode cX4_shared 71 = .ok (.invokevirtual 76, 3) := by decide +kernel
theorem dX4_shared_74 : decode cX4_shared 74 = .ok (.ireturn, 1) := by decide +kernel
set_option maxRecDepth 20000 in
theorem ggX4_loudHour_X0_loudestHour : GoodIn wsX4_loudHour wsX0_loudestHour := goodIn_r _ [5, 6, 7, 8, 3, 9, 10, 11, 12, 13, 14, 15, 16, 17, 18, 19, 20, 21, 22, 23, 24, 25, 26, 27, 28, 29, 30, 31, 32, 33, 34, 35, 36, 55, 56, 57, 58, 59, 60, 61, 62, 63, 64, 65] (by decide +kernel) (by decide +kernel)
set_option maxRecDepth 20000 in
theorem gX4_loudHour_X0_loudestHour_n230 : GoodIn wsX4_loudHour (wsX0_loudestHour) := ggX4_loudHour_X0_loudestHour
set_option maxRecDepth 20000 in
theorem ggX4_loudHour_X0_calmBits : GoodIn wsX4_loudHour wsX0_calmBits := goodIn_r _ [39, 6, 7, 8, 3, 9, 10, 11, 12, 13, 14, 15, 16, 17, 18, 19, 20, 21, 22, 23, 24, 25, 26, 27, 28, 29, 30, 31, 32, 33, 34, 35, 36, 55, 56, 57, 58, 59, 60, 61, 62, 63, 64, 65] (by decide +kernel) (by decide +kernel)
set_option maxRecDepth 20000 in
theorem gX4_loudHour_X0_calmBits_n233 : GoodIn wsX4_loudHour (wsX0_calmBits) := ggX4_loudHour_X0_calmBits
set_option maxRecDepth 20000 in
theorem ggX4_loudHour_X4_refuse : GoodIn wsX4_loudHour wsX4_refuse := goodIn_r _ [44, 45, 46, 47, 48, 49, 50, 51, 52, 53, 54] (by decide +kernel) (by decide +kernel)
set_option maxRecDepth 20000 in
theorem gX4_loudHour_X4_refuse : GoodIn wsX4_loudHour (wsV RX4 76 RX4 yX4_refuse wsX4_refuse) := goodIn_app (goodIn_of _ (by decide +kernel)) ggX4_loudHour_X4_refuse
theorem dX4_loudHour_0 : decode cX4_loudHour 0 = .ok (.iload_n 1, 1) := by decide +kernel
theorem dX4_loudHour_1 : decode cX4_loudHour 1 = .ok (.lookupswitch 43 #[(0, 27), (1, 35)], 27) := by decide +kernel
theorem dX4_loudHour_28 : decode cX4_loudHour 28 = .ok (.aload_n 0, 1) := by decide +kernel
theorem dX4_loudHour_29 : decode cX4_loudHour 29 = .ok (.getfield 20, 3) := by decide +kernel
theorem dX4_loudHour_32 : decode cX4_loudHour 32 = .ok (.invokevirtual 230, 3) := by decide +kernel
theorem dX4_loudHour_35 : decode cX4_loudHour 35 = .ok (.ireturn, 1) := by decide +kernel
theorem dX4_loudHour_36 : decode cX4_loudHour 36 = .ok (.aload_n 0, 1) := by decide +kernel
theorem dX4_loudHour_37 : decode cX4_loudHour 37 = .ok (.getfield 20, 3) := by decide +kernel
theorem dX4_loudHour_40 : decode cX4_loudHour 40 = .ok (.invokevirtual 233, 3) := by decide +kernel
theorem dX4_loudHour_43 : decode cX4_loudHour 43 = .ok (.ireturn, 1) := by decide +kernel
theorem dX4_loudHour_44 : decode cX4_loudHour 44 = .ok (.aload_n 0, 1) := by decide +kernel
theorem dX4_loudHour_45 : decode cX4_loudHour 45 = .ok (.bipush (-2), 2) := by decide +kernel
theorem dX4_loudHour_47 : decode cX4_loudHour 47 = .ok (.invokevirtual 76, 3) := by decide +kernel
theorem dX4_loudHour_50 : decode cX4_loudHour 50 = .ok (.ireturn, 1) := by decide +kernel
set_option maxRecDepth 20000 in
theorem ggX4_mean_X4_unknown : GoodIn wsX4_mean wsX4_unknown := goodIn_r _ [10] (by decide +kernel) (by decide +kernel)
set_option maxRecDepth 20000 in
theorem gX4_mean_X4_unknown : GoodIn wsX4_mean (va_wsS RX4 69 yX4_unknown wsX4_unknown) := goodIn_app (goodIn_of _ (by decide +kernel)) ggX4_mean_X4_unknown
set_option maxRecDepth 20000 in
theorem ggX4_mean_X4_refuse : GoodIn wsX4_mean wsX4_refuse := goodIn_r _ [14, 15, 29, 30, 31, 32, 33, 34, 35, 36, 37] (by decide +kernel) (by decide +kernel)
set_option maxRecDepth 20000 in
theorem gX4_mean_X4_refuse : GoodIn wsX4_mean (wsV RX4 76 RX4 yX4_refuse wsX4_refuse) := goodIn_app (goodIn_of _ (by decide +kernel)) ggX4_mean_X4_refuse
set_option maxRecDepth 20000 in
theorem ggX4_mean_X0_placesTogether : GoodIn wsX4_mean wsX0_placesTogether := goodIn_r _ [19, 20, 21, 38, 39, 40, 41, 42, 43, 44, 45, 46, 47, 48] (by decide +kernel) (by decide +kernel)
set_option maxRecDepth 20000 in
theorem gX4_mean_X0_placesTogether_n238 : GoodIn wsX4_mean (wsX0_placesTogether) := ggX4_mean_X0_placesTogether
set_option maxRecDepth 20000 in
theorem ggX4_mean_X4_inLowestTerms : GoodIn wsX4_mean wsX4_inLowestTerms := goodIn_r _ [24, 25, 26, 27, 9, 28] (by decide +kernel) (by decide +kernel)
set_option maxRecDepth 20000 in
theorem gX4_mean_X4_inLowestTerms : GoodIn wsX4_mean (va_wsS RX4 241 yX4_inLowestTerms wsX4_inLowestTerms) := goodIn_app (goodIn_of _ (by decide +kernel)) ggX4_mean_X4_inLowestTerms
theorem dX4_mean_0 : decode cX4_mean 0 = .ok (.iload_n 1, 1) := by decide +kernel
theorem dX4_mean_1 : decode cX4_mean 1 = .ok (.iconst 1, 1) := by decide +kernel
theorem dX4_mean_2 : decode cX4_mean 2 = .ok (.invokestatic 69, 3) := by decide +kernel
theorem dX4_mean_5 : decode cX4_mean 5 = .ok (.istore_n 2, 1) := by decide +kernel
theorem dX4_mean_6 : decode cX4_mean 6 = .ok (.iload_n 2, 1) := by decide +kernel
theorem dX4_mean_7 : decode cX4_mean 7 = .ok (.ifCond .eq 14, 3) := by decide +kernel
theorem dX4_mean_10 : decode cX4_mean 10 = .ok (.ldc2_w 236, 3) := by decide +kernel
theorem dX4_mean_13 : decode cX4_mean 13 = .ok (.aload_n 0, 1) := by decide +kernel
theorem dX4_mean_14 : decode cX4_mean 14 = .ok (.iload_n 2, 1) := by decide +kernel
theorem dX4_mean_15 : decode cX4_mean 15 = .ok (.invokevirtual 76, 3) := by decide +kernel
theorem dX4_mean_18 : decode cX4_mean 18 = .ok (.i2l, 1) := by decide +kernel
theorem dX4_mean_19 : decode cX4_mean 19 = .ok (.lsub, 1) := by decide +kernel
theorem dX4_mean_20 : decode cX4_mean 20 = .ok (.lreturn, 1) := by decide +kernel
theorem dX4_mean_21 : decode cX4_mean 21 = .ok (.aload_n 0, 1) := by decide +kernel
theorem dX4_mean_22 : decode cX4_mean 22 = .ok (.getfield 20, 3) := by decide +kernel
theorem dX4_mean_25 : decode cX4_mean 25 = .ok (.invokevirtual 238, 3) := by decide +kernel
theorem dX4_mean_28 : decode cX4_mean 28 = .ok (.i2l, 1) := by decide +kernel
theorem dX4_mean_29 : decode cX4_mean 29 = .ok (.iconst 1, 1) := by decide +kernel
theorem dX4_mean_30 : decode cX4_mean 30 = .ok (.aload_n 0, 1) := by decide +kernel
theorem dX4_mean_31 : decode cX4_mean 31 = .ok (.getfield 20, 3) := by decide +kernel
theorem dX4_mean_34 : decode cX4_mean 34 = .ok (.getfield 52, 3) := by decide +kernel
theorem dX4_mean_37 : decode cX4_mean 37 = .ok (.invokestatic 222, 3) := by decide +kernel
theorem dX4_mean_40 : decode cX4_mean 40 = .ok (.i2l, 1) := by decide +kernel
theorem dX4_mean_41 : decode cX4_mean 41 = .ok (.iload_n 1, 1) := by decide +kernel
theorem dX4_mean_42 : decode cX4_mean 42 = .ok (.invokestatic 241, 3) := by decide +kernel
theorem dX4_mean_45 : decode cX4_mean 45 = .ok (.lreturn, 1) := by decide +kernel
set_option maxRecDepth 20000 in
theorem ggX4_gap_X4_unknown : GoodIn wsX4_gap wsX4_unknown := goodIn_r _ [5] (by decide +kernel) (by decide +kernel)
set_option maxRecDepth 20000 in
theorem gX4_gap_X4_unknown : GoodIn wsX4_gap (va_wsS RX4 69 yX4_unknown wsX4_unknown) := goodIn_app (goodIn_of _ (by decide +kernel)) ggX4_gap_X4_unknown
set_option maxRecDepth 20000 in
theorem ggX4_gap_X4_refuse : GoodIn wsX4_gap wsX4_refuse := goodIn_r _ [9, 10, 25, 26, 27, 28, 29, 30, 31, 32, 33] (by decide +kernel) (by decide +kernel)
set_option maxRecDepth 20000 in
theorem gX4_gap_X4_refuse : GoodIn wsX4_gap (wsV RX4 76 RX4 yX4_refuse wsX4_refuse) := goodIn_app (goodIn_of _ (by decide +kernel)) ggX4_gap_X4_refuse
set_option maxRecDepth 20000 in
theorem ggX4_gap_X0_widestGap : GoodIn wsX4_gap wsX0_widestGap := goodIn_r _ [14, 15, 16, 17, 12, 18, 19, 20, 21, 22, 23, 24, 34, 35, 36, 37, 38, 39, 40, 41, 42, 43, 44] (by decide +kernel) (by decide +kernel)
set_option maxRecDepth 20000 in
theorem gX4_gap_X0_widestGap_n245 : GoodIn wsX4_gap (wsX0_widestGap) := ggX4_gap_X0_widestGap
set_option maxRecDepth 20000 in
theorem ggX4_gap_X0_gapFrom : GoodIn wsX4_gap wsX0_gapFrom := goodIn_r _ [18, 19, 20, 21, 12, 22, 23, 24, 34, 35, 36, 37, 38, 39, 40, 41, 42, 43, 44] (by decide +kernel) (by decide +kernel)
set_option maxRecDepth 20000 in
theorem gX4_gap_X0_gapFrom_n248 : GoodIn wsX4_gap (wsX0_gapFrom) := ggX4_gap_X0_gapFrom
theorem dX4_gap_0 : decode cX4_gap 0 = .ok (.iload_n 1, 1) := by decide +kernel
theorem dX4_gap_1 : decode cX4_gap 1 = .ok (.iconst 1, 1) := by decide +kernel
theorem dX4_gap_2 : decode cX4_gap 2 = .ok (.invokestatic 69, 3) := by decide +kernel
theorem dX4_gap_5 : decode cX4_gap 5 = .ok (.istore_n 2, 1) := by decide +kernel
theorem dX4_gap_6 : decode cX4_gap 6 = .ok (.iload_n 2, 1) := by decide +kernel
theorem dX4_gap_7 : decode cX4_gap 7 = .ok (.ifCond .eq 9, 3) := by decide +kernel
theorem dX4_gap_10 : decode cX4_gap 10 = .ok (.aload_n 0, 1) := by decide +kernel
theorem dX4_gap_11 : decode cX4_gap 11 = .ok (.iload_n 2, 1) := by decide +kernel
theorem dX4_gap_12 : decode cX4_gap 12 = .ok (.invokevirtual 76, 3) := by decide +kernel
theorem dX4_gap_15 : decode cX4_gap 15 = .ok (.ireturn, 1) := by decide +kernel
theorem dX4_gap_16 : decode cX4_gap 16 = .ok (.aload_n 0, 1) := by decide +kernel
theorem dX4_gap_17 : decode cX4_gap 17 = .ok (.getfield 20, 3) := by decide +kernel
theorem dX4_gap_20 : decode cX4_gap 20 = .ok (.invokevirtual 245, 3) := by decide +kernel
theorem dX4_gap_23 : decode cX4_gap 23 = .ok (.istore_n 3, 1) := by decide +kernel
theorem dX4_gap_24 : decode cX4_gap 24 = .ok (.iload_n 1, 1) := by decide +kernel
theorem dX4_gap_25 : decode cX4_gap 25 = .ok (.iconst 1, 1) := by decide +kernel
theorem dX4_gap_26 : decode cX4_gap 26 = .ok (.if_icmp .eq 9, 3) := by decide +kernel
theorem dX4_gap_29 : decode cX4_gap 29 = .ok (.iload_n 3, 1) := by decide +kernel
theorem dX4_gap_30 : decode cX4_gap 30 = .ok (.bipush (-9), 2) := by decide +kernel
theorem dX4_gap_32 : decode cX4_gap 32 = .ok (.if_icmp .ne 7, 3) := by decide +kernel
theorem dX4_gap_35 : decode cX4_gap 35 = .ok (.iload_n 3, 1) := by decide +kernel
theorem dX4_gap_36 : decode cX4_gap 36 = .ok (.goto 11, 3) := by decide +kernel
theorem dX4_gap_39 : decode cX4_gap 39 = .ok (.aload_n 0, 1) := by decide +kernel
theorem dX4_gap_40 : decode cX4_gap 40 = .ok (.getfield 20, 3) := by decide +kernel
theorem dX4_gap_43 : decode cX4_gap 43 = .ok (.iload_n 3, 1) := by decide +kernel
theorem dX4_gap_44 : decode cX4_gap 44 = .ok (.invokevirtual 248, 3) := by decide +kernel
theorem dX4_gap_47 : decode cX4_gap 47 = .ok (.ireturn, 1) := by decide +kernel
set_option maxRecDepth 20000 in
theorem ggX4_behind_X4_refusalInMind : GoodIn wsX4_behind wsX4_refusalInMind := goodIn_r _ [5, 6, 7, 4, 8, 9, 10, 11, 12, 13, 14, 15, 16, 17] (by decide +kernel) (by decide +kernel)
set_option maxRecDepth 20000 in
theorem gX4_behind_X4_refusalInMind : GoodIn wsX4_behind (va_wsS RX4 251 yX4_refusalInMind wsX4_refusalInMind) := goodIn_app (goodIn_of _ (by decide +kernel)) ggX4_behind_X4_refusalInMind
set_option maxRecDepth 20000 in
theorem ggX4_behind_X4_refuse : GoodIn wsX4_behind wsX4_refuse := goodIn_r _ [21, 22, 117, 118, 119, 120, 121, 122, 123, 124, 125] (by decide +kernel) (by decide +kernel)
set_option maxRecDepth 20000 in
theorem gX4_behind_X4_refuse : GoodIn wsX4_behind (wsV RX4 76 RX4 yX4_refuse wsX4_refuse) := goodIn_app (goodIn_of _ (by decide +kernel)) ggX4_behind_X4_refuse
set_option maxRecDepth 20000 in
theorem ggX4_behind_X2_after : GoodIn wsX4_behind wsX2_after := goodIn_r _ [26, 27, 28, 29, 24, 30, 31, 32, 33, 34, 35, 36, 37, 38, 39, 40, 41, 42, 43, 44, 45, 46, 47, 48, 49, 50, 51, 52, 53, 54, 55, 56, 57, 58, 59, 60, 61, 62, 63, 64, 65, 66, 67, 68, 69, 70, 71, 72, 73, 74, 75, 76, 77, 78, 79, 80, 81, 82, 83, 84, 85, 86, 87, 88, 89, 90, 91, 92, 93, 94, 95, 96, 97, 98, 99, 100, 101, 102, 103, 104, 105, 106, 107, 108, 109, 110, 111, 112, 113, 114, 115, 116, 137, 138, 139, 140, 126, 127, 128, 129, 130, 131, 132, 133, 134, 135, 136] (by decide +kernel) (by decide +kernel)
set_option maxRecDepth 20000 in
theorem gX4_behind_X2_after_n254 : GoodIn wsX4_behind (wsX2_after) := ggX4_behind_X2_after
set_option maxRecDepth 20000 in
theorem ggX4_behind_X0_owner : GoodIn wsX4_behind wsX0_owner := goodIn_r _ [112, 48, 113, 114, 115, 34, 116, 47, 43, 126, 127, 128, 129, 130, 131, 132, 133, 134, 135, 136] (by decide +kernel) (by decide +kernel)
set_option maxRecDepth 20000 in
theorem gX4_behind_X0_owner_n146 : GoodIn wsX4_behind (wsX0_owner) := ggX4_behind_X0_owner
theorem dX4_behind_0 : decode cX4_behind 0 = .ok (.iload_n 1, 1) := by decide +kernel
theorem dX4_behind_1 : decode cX4_behind 1 = .ok (.iload_n 2, 1) := by decide +kernel
theorem dX4_behind_2 : decode cX4_behind 2 = .ok (.invokestatic 251, 3) := by decide +kernel
theorem dX4_behind_5 : decode cX4_behind 5 = .ok (.istore_n 3, 1) := by decide +kernel
theorem dX4_behind_6 : decode cX4_behind 6 = .ok (.iload_n 3, 1) := by decide +kernel
theorem dX4_behind_7 : decode cX4_behind 7 = .ok (.ifCond .eq 9, 3) := by decide +kernel
theorem dX4_behind_10 : decode cX4_behind 10 = .ok (.aload_n 0, 1) := by decide +kernel
theorem dX4_behind_11 : decode cX4_behind 11 = .ok (.iload_n 3, 1) := by decide +kernel
theorem dX4_behind_12 : decode cX4_behind 12 = .ok (.invokevirtual 76, 3) := by decide +kernel
theorem dX4_behind_15 : decode cX4_behind 15 = .ok (.ireturn, 1) := by decide +kernel
theorem dX4_behind_16 : decode cX4_behind 16 = .ok (.aload_n 0, 1) := by decide +kernel
theorem dX4_behind_17 : decode cX4_behind 17 = .ok (.getfield 10, 3) := by decide +kernel
theorem dX4_behind_20 : decode cX4_behind 20 = .ok (.iload_n 1, 1) := by decide +kernel
theorem dX4_behind_21 : decode cX4_behind 21 = .ok (.invokevirtual 254, 3) := by decide +kernel
theorem dX4_behind_24 : decode cX4_behind 24 = .ok (.astore 4, 2) := by decide +kernel
theorem dX4_behind_26 : decode cX4_behind 26 = .ok (.iload_n 2, 1) := by decide +kernel
theorem dX4_behind_27 : decode cX4_behind 27 = .ok (.ifCond .ne 11, 3) := by decide +kernel
theorem dX4_behind_30 : decode cX4_behind 30 = .ok (.aload 4, 2) := by decide +kernel
theorem dX4_behind_32 : decode cX4_behind 32 = .ok (.getfield 140, 3) := by decide +kernel
theorem dX4_behind_35 : decode cX4_behind 35 = .ok (.goto 8, 3) := by decide +kernel
theorem dX4_behind_38 : decode cX4_behind 38 = .ok (.aload 4, 2) := by decide +kernel
theorem dX4_behind_40 : decode cX4_behind 40 = .ok (.invokevirtual 146, 3) := by decide +kernel
theorem dX4_behind_43 : decode cX4_behind 43 = .ok (.ireturn, 1) := by decide +kernel
set_option maxRecDepth 20000 in
theorem ggX4_shoreBehind_X4_refusalOf_ : GoodIn wsX4_shoreBehind wsX4_refusalOf_ := goodIn_r _ [6, 7, 8, 9, 5, 10, 11, 12, 13, 14, 15, 16, 17, 18, 19, 20, 21, 22, 23, 24, 25, 26, 126, 127, 128, 129, 130, 131, 132, 133, 134, 135, 136, 137, 138, 139, 140, 141, 142, 143, 144, 145] (by decide +kernel) (by decide +kernel)
set_option maxRecDepth 20000 in
theorem gX4_shoreBehind_X4_refusalOf_ : GoodIn wsX4_shoreBehind (wsV RX4 258 RX4 yX4_refusalOf_ wsX4_refusalOf_) := goodIn_app (goodIn_of _ (by decide +kernel)) ggX4_shoreBehind_X4_refusalOf_
set_option maxRecDepth 20000 in
theorem ggX4_shoreBehind_X4_refuse : GoodIn wsX4_shoreBehind wsX4_refuse := goodIn_r _ [30, 31, 126, 127, 128, 129, 130, 131, 132, 133, 134] (by decide +kernel) (by decide +kernel)
set_option maxRecDepth 20000 in
theorem gX4_shoreBehind_X4_refuse : GoodIn wsX4_shoreBehind (wsV RX4 76 RX4 yX4_refuse wsX4_refuse) := goodIn_app (goodIn_of _ (by decide +kernel)) ggX4_shoreBehind_X4_refuse
set_option maxRecDepth 20000 in
theorem ggX4_shoreBehind_X2_after : GoodIn wsX4_shoreBehind wsX2_after := goodIn_r _ [35, 36, 37, 38, 33, 39, 40, 41, 42, 43, 44, 45, 46, 47, 48, 49, 50, 51, 52, 53, 54, 55, 56, 57, 58, 59, 60, 61, 62, 63, 64, 65, 66, 67, 68, 69, 70, 71, 72, 73, 74, 75, 76, 77, 78, 79, 80, 81, 82, 83, 84, 85, 86, 87, 88, 89, 90, 91, 92, 93, 94, 95, 96, 97, 98, 99, 100, 101, 102, 103, 104, 105, 106, 107, 108, 109, 110, 111, 112, 113, 114, 115, 116, 117, 118, 119, 120, 121, 122, 123, 124, 125, 146, 147, 148, 149, 135, 136, 137, 138, 139, 140, 141, 142, 143, 144, 145] (by decide +kernel) (by decide +kernel)
set_option maxRecDepth 20000 in
theorem gX4_shoreBehind_X2_after_n254 : GoodIn wsX4_shoreBehind (wsX2_after) := ggX4_shoreBehind_X2_after
theorem dX4_shoreBehind_0 : decode cX4_shoreBehind 0 = .ok (.aload_n 0, 1) := by decide +kernel
theorem dX4_shoreBehind_1 : decode cX4_shoreBehind 1 = .ok (.iload_n 1, 1) := by decide +kernel
theorem dX4_shoreBehind_2 : decode cX4_shoreBehind 2 = .ok (.iload_n 2, 1) := by decide +kernel
theorem dX4_shoreBehind_3 : decode cX4_shoreBehind 3 = .ok (.iload_n 3, 1) := by decide +kernel
theorem dX4_shoreBehind_4 : decode cX4_shoreBehind 4 = .ok (.invokevirtual 258, 3) := by decide +kernel
theorem dX4_shoreBehind_7 : decode cX4_shoreBehind 7 = .ok (.istore 4, 2) := by decide +kernel
theorem dX4_shoreBehind_9 : decode cX4_shoreBehind 9 = .ok (.iload 4, 2) := by decide +kernel
theorem dX4_shoreBehind_11 : decode cX4_shoreBehind 11 = .ok (.ifCond .eq 10, 3) := by decide +kernel
theorem dX4_shoreBehind_14 : decode cX4_shoreBehind 14 = .ok (.aload_n 0, 1) := by decide +kernel
theorem dX4_shoreBehind_15 : decode cX4_shoreBehind 15 = .ok (.iload 4, 2) := by decide +kernel
theorem dX4_shoreBehind_17 : decode cX4_shoreBehind 17 = .ok (.invokevirtual 76, 3) := by decide +kernel
theorem dX4_shoreBehind_20 : decode cX4_shoreBehind 20 = .ok (.ireturn, 1) := by decide +kernel
theorem dX4_shoreBehind_21 : decode cX4_shoreBehind 21 = .ok (.aload_n 0, 1) := by decide +kernel
theorem dX4_shoreBehind_22 : decode cX4_shoreBehind 22 = .ok (.getfield 10, 3) := by decide +kernel
theorem dX4_shoreBehind_25 : decode cX4_shoreBehind 25 = .ok (.iload_n 2, 1) := by decide +kernel
theorem dX4_shoreBehind_26 : decode cX4_shoreBehind 26 = .ok (.invokevirtual 254, 3) := by decide +kernel
theorem dX4_shoreBehind_29 : decode cX4_shoreBehind 29 = .ok (.astore 5, 2) := by decide +kernel
theorem dX4_shoreBehind_31 : decode cX4_shoreBehind 31 = .ok (.iload_n 3, 1) := by decide +kernel
theorem dX4_shoreBehind_32 : decode cX4_shoreBehind 32 = .ok (.ifCond .ne 13, 3) := by decide +kernel
theorem dX4_shoreBehind_35 : decode cX4_shoreBehind 35 = .ok (.aload 5, 2) := by decide +kernel
theorem dX4_shoreBehind_37 : decode cX4_shoreBehind 37 = .ok (.getfield 131, 3) := by decide +kernel
theorem dX4_shoreBehind_40 : decode cX4_shoreBehind 40 = .ok (.iload_n 1, 1) := by decide +kernel
theorem dX4_shoreBehind_41 : decode cX4_shoreBehind 41 = .ok (.iaload, 1) := by decide +kernel
theorem dX4_shoreBehind_42 : decode cX4_shoreBehind 42 = .ok (.goto 10, 3) := by decide +kernel
theorem dX4_shoreBehind_45 : decode cX4_shoreBehind 45 = .ok (.aload 5, 2) := by decide +kernel
theorem dX4_shoreBehind_47 : decode cX4_shoreBehind 47 = .ok (.getfield 124, 3) := by decide +kernel
theorem dX4_shoreBehind_50 : decode cX4_shoreBehind 50 = .ok (.iload_n 1, 1) := by decide +kernel
theorem dX4_shoreBehind_51 : decode cX4_shoreBehind 51 = .ok (.iaload, 1) := by decide +kernel
theorem dX4_shoreBehind_52 : decode cX4_shoreBehind 52 = .ok (.ireturn, 1) := by decide +kernel
set_option maxRecDepth 20000 in
theorem ggX4_first_X4_nobody : GoodIn wsX4_first wsX4_nobody := goodIn_r _ [6] (by decide +kernel) (by decide +kernel)
set_option maxRecDepth 20000 in
theorem gX4_first_X4_nobody : GoodIn wsX4_first (va_wsS RX4 56 yX4_nobody wsX4_nobody) := goodIn_app (goodIn_of _ (by decide +kernel)) ggX4_first_X4_nobody
set_option maxRecDepth 20000 in
theorem ggX4_first_X4_refuse : GoodIn wsX4_first wsX4_refuse := goodIn_r _ [10, 11, 102, 103, 104, 105, 106, 107, 108, 109, 110] (by decide +kernel) (by decide +kernel)
set_option maxRecDepth 20000 in
theorem gX4_first_X4_refuse : GoodIn wsX4_first (wsV RX4 76 RX4 yX4_refuse wsX4_refuse) := goodIn_app (goodIn_of _ (by decide +kernel)) ggX4_first_X4_refuse
set_option maxRecDepth 20000 in
theorem ggX4_first_X2_firstHours : GoodIn wsX4_first wsX2_firstHours := goodIn_r _ [15, 16, 17, 18, 13, 19, 20, 21, 22, 23, 24, 25, 26, 27, 28, 29, 30, 31, 32, 33, 34, 35, 36, 37, 38, 39, 40, 41, 42, 43, 44, 45, 46, 47, 48, 49, 50, 51, 52, 53, 54, 55, 56, 57, 58, 59, 60, 61, 62, 63, 64, 65, 66, 67, 68, 69, 70, 71, 72, 73, 74, 75, 76, 77, 78, 79, 80, 81, 82, 83, 84, 85, 86, 87, 88, 89, 90, 91, 92, 93, 94, 95, 96, 97, 98, 99, 100, 101, 122, 123, 124, 125, 111, 112, 113, 114, 115, 116, 117, 118, 119, 120, 121] (by decide +kernel) (by decide +kernel)
set_option maxRecDepth 20000 in
theorem gX4_first_X2_firstHours_n260 : GoodIn wsX4_first (wsX2_firstHours) := ggX4_first_X2_firstHours
theorem dX4_first_0 : decode cX4_first 0 = .ok (.iload_n 1, 1) := by decide +kernel
theorem dX4_first_1 : decode cX4_first 1 = .ok (.aload_n 0, 1) := by decide +kernel
theorem dX4_first_2 : decode cX4_first 2 = .ok (.getfield 20, 3) := by decide +kernel
theorem dX4_first_5 : decode cX4_first 5 = .ok (.getfield 52, 3) := by decide +kernel
theorem dX4_first_8 : decode cX4_first 8 = .ok (.invokestatic 56, 3) := by decide +kernel
theorem dX4_first_11 : decode cX4_first 11 = .ok (.istore_n 2, 1) := by decide +kernel
theorem dX4_first_12 : decode cX4_first 12 = .ok (.iload_n 2, 1) := by decide +kernel
theorem dX4_first_13 : decode cX4_first 13 = .ok (.ifCond .eq 11, 3) := by decide +kernel
theorem dX4_first_16 : decode cX4_first 16 = .ok (.aload_n 0, 1) := by decide +kernel
theorem dX4_first_17 : decode cX4_first 17 = .ok (.iload_n 2, 1) := by decide +kernel
theorem dX4_first_18 : decode cX4_first 18 = .ok (.invokevirtual 76, 3) := by decide +kernel
theorem dX4_first_21 : decode cX4_first 21 = .ok (.goto 11, 3) := by decide +kernel
theorem dX4_first_24 : decode cX4_first 24 = .ok (.aload_n 0, 1) := by decide +kernel
theorem dX4_first_25 : decode cX4_first 25 = .ok (.getfield 10, 3) := by decide +kernel
theorem dX4_first_28 : decode cX4_first 28 = .ok (.iload_n 1, 1) := by decide +kernel
theorem dX4_first_29 : decode cX4_first 29 = .ok (.invokevirtual 260, 3) := by decide +kernel
theorem dX4_first_32 : decode cX4_first 32 = .ok (.ireturn, 1) := by decide +kernel
set_option maxRecDepth 20000 in
theorem ggX4_whoFirst_X2_firstOwner : GoodIn wsX4_whoFirst wsX2_firstOwner := goodIn_r _ [5, 6, 7, 8, 3, 9, 10, 11, 12, 13, 14, 15, 16, 17, 18, 19, 20, 21, 22, 23, 24, 25, 26, 27, 28, 29, 30, 31, 32, 33, 34, 35, 36, 37, 38, 39, 40, 41, 42, 43, 44, 45, 46, 47, 48, 49, 50, 51, 52, 53, 54, 55, 56, 57, 58, 59, 60, 61, 62, 63, 64, 65, 66, 67, 68, 69, 70, 71, 72, 73, 74, 75, 76, 77, 78, 79, 80, 81, 82, 83, 84, 85, 86, 87, 88, 89, 90, 91, 117, 118, 119, 120, 121, 122, 123, 124, 125, 126, 127, 128, 129, 130, 131] (by decide +kernel) (by decide +kernel)
set_option maxRecDepth 20000 in
theorem gX4_whoFirst_X2_firstOwner_n263 : GoodIn wsX4_whoFirst (wsX2_firstOwner) := ggX4_whoFirst_X2_firstOwner
set_option maxRecDepth 20000 in
theorem ggX4_whoFirst_X2_neverBits : GoodIn wsX4_whoFirst wsX2_neverBits := goodIn_r _ [94, 11, 95, 96, 97, 3, 98, 6, 7, 8, 9, 10, 12, 13, 14, 15, 16, 17, 18, 19, 20, 21, 22, 23, 24, 25, 26, 27, 28, 29, 30, 58, 59, 60, 38, 39, 40, 41, 42, 43, 44, 45, 46, 47, 48, 49, 50, 51, 52, 53, 54, 55, 56, 57, 61, 62, 63, 64, 65, 66, 67, 68, 69, 70, 71, 72, 73, 74, 75, 76, 77, 78, 79, 80, 81, 82, 83, 84, 85, 86, 87, 88, 89, 90, 91, 31, 32, 33, 34, 35, 36, 37, 117, 118, 119, 120, 121, 122, 123, 124, 125, 126, 127, 128, 129, 130, 131] (by decide +kernel) (by decide +kernel)
set_option maxRecDepth 20000 in
theorem gX4_whoFirst_X2_neverBits_n266 : GoodIn wsX4_whoFirst (wsX2_neverBits) := ggX4_whoFirst_X2_neverBits
set_option maxRecDepth 20000 in
theorem ggX4_whoFirst_X2_stillBehind : GoodIn wsX4_whoFirst wsX2_stillBehind := goodIn_r _ [101, 6, 7, 8, 3, 9, 10, 11, 12, 13, 14, 15, 16, 17, 18, 19, 20, 21, 22, 23, 24, 25, 26, 27, 28, 29, 30, 38, 39, 40, 41, 42, 43, 44, 45, 46, 47, 48, 49, 50, 51, 52, 53, 54, 55, 56, 57, 58, 59, 60, 61, 62, 63, 64, 65, 66, 67, 68, 69, 70, 71, 72, 73, 74, 75, 76, 77, 78, 79, 80, 81, 82, 83, 84, 85, 86, 87, 88, 89, 90, 91, 31, 32, 33, 34, 35, 36, 37, 121, 122, 123, 124, 125, 126, 127, 128, 129, 130, 131, 117, 118, 119, 120] (by decide +kernel) (by decide +kernel)
set_option maxRecDepth 20000 in
theorem gX4_whoFirst_X2_stillBehind_n269 : GoodIn wsX4_whoFirst (wsX2_stillBehind) := ggX4_whoFirst_X2_stillBehind
set_option maxRecDepth 20000 in
theorem ggX4_whoFirst_X4_refuse : GoodIn wsX4_whoFirst wsX4_refuse := goodIn_r _ [106, 107, 108, 109, 110, 111, 112, 113, 114, 115, 116] (by decide +kernel) (by decide +kernel)
set_option maxRecDepth 20000 in
theorem gX4_whoFirst_X4_refuse : GoodIn wsX4_whoFirst (wsV RX4 76 RX4 yX4_refuse wsX4_refuse) := goodIn_app (goodIn_of _ (by decide +kernel)) ggX4_whoFirst_X4_refuse
theorem dX4_whoFirst_0 : decode cX4_whoFirst 0 = .ok (.iload_n 1, 1) := by decide +kernel
theorem dX4_whoFirst_1 : decode cX4_whoFirst 1 = .ok (.tableswitch 51 0 2 #[27, 35, 43], 27) := by decide +kernel
theorem dX4_whoFirst_28 : decode cX4_whoFirst 28 = .ok (.aload_n 0, 1) := by decide +kernel
theorem dX4_whoFirst_29 : decode cX4_whoFirst 29 = .ok (.getfield 10, 3) := by decide +kernel
theorem dX4_whoFirst_32 : decode cX4_whoFirst 32 = .ok (.invokevirtual 263, 3) := by decide +kernel
theorem dX4_whoFirst_35 : decode cX4_whoFirst 35 = .ok (.ireturn, 1) := by decide +kernel
theorem dX4_whoFirst_36 : decode cX4_whoFirst 36 = .ok (.aload_n 0, 1) := by decide +kernel
theorem dX4_whoFirst_37 : decode cX4_whoFirst 37 = .ok (.getfield 10, 3) := by decide +kernel
theorem dX4_whoFirst_40 : decode cX4_whoFirst 40 = .ok (.invokevirtual 266, 3) := by decide +kernel
theorem dX4_whoFirst_43 : decode cX4_whoFirst 43 = .ok (.ireturn, 1) := by decide +kernel
theorem dX4_whoFirst_44 : decode cX4_whoFirst 44 = .ok (.aload_n 0, 1) := by decide +kernel
theorem dX4_whoFirst_45 : decode cX4_whoFirst 45 = .ok (.getfield 10, 3) := by decide +kernel
theorem dX4_whoFirst_48 : decode cX4_whoFirst 48 = .ok (.invokevirtual 269, 3) := by decide +kernel
theorem dX4_whoFirst_51 : decode cX4_whoFirst 51 = .ok (.ireturn, 1) := by decide +kernel
theorem dX4_whoFirst_52 : decode cX4_whoFirst 52 = .ok (.aload_n 0, 1) := by decide +kernel
theorem dX4_whoFirst_53 : decode cX4_whoFirst 53 = .ok (.bipush (-2), 2) := by decide +kernel
theorem dX4_whoFirst_55 : decode cX4_whoFirst 55 = .ok (.invokevirtual 76, 3) := by decide +kernel
theorem dX4_whoFirst_58 : decode cX4_whoFirst 58 = .ok (.ireturn, 1) := by decide +kernel
set_option maxRecDepth 20000 in
theorem ggX4_most_X4_refusalInMind : GoodIn wsX4_most wsX4_refusalInMind := goodIn_r _ [5, 6, 7, 4, 8, 9, 10, 11, 12, 13, 14, 15, 16, 17] (by decide +kernel) (by decide +kernel)
set_option maxRecDepth 20000 in
theorem gX4_most_X4_refusalInMind : GoodIn wsX4_most (va_wsS RX4 251 yX4_refusalInMind wsX4_refusalInMind) := goodIn_app (goodIn_of _ (by decide +kernel)) ggX4_most_X4_refusalInMind
set_option maxRecDepth 20000 in
theorem ggX4_most_X4_refuse : GoodIn wsX4_most wsX4_refuse := goodIn_r _ [21, 22, 121, 122, 123, 124, 125, 126, 127, 128, 129] (by decide +kernel) (by decide +kernel)
set_option maxRecDepth 20000 in
theorem gX4_most_X4_refuse : GoodIn wsX4_most (wsV RX4 76 RX4 yX4_refuse wsX4_refuse) := goodIn_app (goodIn_of _ (by decide +kernel)) ggX4_most_X4_refuse
set_option maxRecDepth 20000 in
theorem ggX4_most_X2_oftenestOwner : GoodIn wsX4_most wsX2_oftenestOwner := goodIn_r _ [26, 27, 28, 29, 30, 24, 31, 32, 33, 34, 35, 36, 37, 38, 39, 40, 41, 42, 43, 44, 45, 46, 47, 48, 49, 50, 51, 52, 53, 54, 55, 56, 57, 58, 59, 60, 61, 62, 63, 64, 65, 66, 67, 68, 69, 70, 71, 72, 73, 74, 75, 76, 77, 78, 79, 80, 81, 82, 83, 84, 85, 86, 87, 88, 89, 90, 91, 92, 93, 94, 95, 96, 97, 98, 99, 100, 101, 102, 103, 104, 105, 106, 107, 108, 109, 110, 111, 112, 113, 114, 115, 116, 117, 118, 119, 120, 130, 131, 132, 133, 134, 135, 136, 137, 138, 139, 140, 141, 142, 143, 144] (by decide +kernel) (by decide +kernel)
set_option maxRecDepth 20000 in
theorem gX4_most_X2_oftenestOwner_n272 : GoodIn wsX4_most (wsX2_oftenestOwner) := ggX4_most_X2_oftenestOwner
set_option maxRecDepth 20000 in
theorem ggX4_most_X2_timesHad : GoodIn wsX4_most wsX2_timesHad := goodIn_r _ [31, 32, 33, 34, 24, 35, 36, 27, 37, 38, 39, 40, 41, 42, 43, 44, 45, 46, 47, 48, 49, 50, 51, 52, 53, 54, 55, 56, 57, 58, 59, 60, 61, 62, 63, 64, 65, 66, 67, 68, 69, 70, 71, 72, 73, 74, 75, 76, 77, 78, 79, 80, 81, 82, 83, 84, 85, 86, 87, 88, 89, 90, 91, 92, 93, 94, 95, 96, 97, 98, 99, 100, 101, 102, 103, 104, 105, 106, 107, 108, 109, 110, 111, 112, 113, 114, 115, 116, 117, 118, 119, 120, 130, 131, 132, 133, 134, 135, 136, 137, 138, 139, 140, 141, 142, 143, 144] (by decide +kernel) (by decide +kernel)
set_option maxRecDepth 20000 in
theorem gX4_most_X2_timesHad_n275 : GoodIn wsX4_most (wsX2_timesHad) := ggX4_most_X2_timesHad
theorem dX4_most_0 : decode cX4_most 0 = .ok (.iload_n 1, 1) := by decide +kernel
theorem dX4_most_1 : decode cX4_most 1 = .ok (.iload_n 2, 1) := by decide +kernel
theorem dX4_most_2 : decode cX4_most 2 = .ok (.invokestatic 251, 3) := by decide +kernel
theorem dX4_most_5 : decode cX4_most 5 = .ok (.istore_n 3, 1) := by decide +kernel
theorem dX4_most_6 : decode cX4_most 6 = .ok (.iload_n 3, 1) := by decide +kernel
theorem dX4_most_7 : decode cX4_most 7 = .ok (.ifCond .eq 9, 3) := by decide +kernel
theorem dX4_most_10 : decode cX4_most 10 = .ok (.aload_n 0, 1) := by decide +kernel
theorem dX4_most_11 : decode cX4_most 11 = .ok (.iload_n 3, 1) := by decide +kernel
theorem dX4_most_12 : decode cX4_most 12 = .ok (.invokevirtual 76, 3) := by decide +kernel
theorem dX4_most_15 : decode cX4_most 15 = .ok (.ireturn, 1) := by decide +kernel
theorem dX4_most_16 : decode cX4_most 16 = .ok (.aload_n 0, 1) := by decide +kernel
theorem dX4_most_17 : decode cX4_most 17 = .ok (.getfield 10, 3) := by decide +kernel
theorem dX4_most_20 : decode cX4_most 20 = .ok (.iload_n 1, 1) := by decide +kernel
theorem dX4_most_21 : decode cX4_most 21 = .ok (.invokevirtual 272, 3) := by decide +kernel
theorem dX4_most_24 : decode cX4_most 24 = .ok (.istore 4, 2) := by decide +kernel
theorem dX4_most_26 : decode cX4_most 26 = .ok (.iload_n 2, 1) := by decide +kernel
theorem dX4_most_27 : decode cX4_most 27 = .ok (.ifCond .ne 6, 3) := by decide +kernel
theorem dX4_most_30 : decode cX4_most 30 = .ok (.iload 4, 2) := by decide +kernel
theorem dX4_most_32 : decode cX4_most 32 = .ok (.ireturn, 1) := by decide +kernel
theorem dX4_most_33 : decode cX4_most 33 = .ok (.iload 4, 2) := by decide +kernel
theorem dX4_most_35 : decode cX4_most 35 = .ok (.bipush (-9), 2) := by decide +kernel
theorem dX4_most_37 : decode cX4_most 37 = .ok (.if_icmp .ne 7, 3) := by decide +kernel
theorem dX4_most_40 : decode cX4_most 40 = .ok (.iconst 0, 1) := by decide +kernel
theorem dX4_most_41 : decode cX4_most 41 = .ok (.goto 13, 3) := by decide +kernel
theorem dX4_most_44 : decode cX4_most 44 = .ok (.aload_n 0, 1) := by decide +kernel
theorem dX4_most_45 : decode cX4_most 45 = .ok (.getfield 10, 3) := by decide +kernel
theorem dX4_most_48 : decode cX4_most 48 = .ok (.iload 4, 2) := by decide +kernel
theorem dX4_most_50 : decode cX4_most 50 = .ok (.iload_n 1, 1) := by decide +kernel
theorem dX4_most_51 : decode cX4_most 51 = .ok (.invokevirtual 275, 3) := by decide +kernel
theorem dX4_most_54 : decode cX4_most 54 = .ok (.ireturn, 1) := by decide +kernel
set_option maxRecDepth 20000 in
theorem ggX4_farthest_X4_refusalInMind : GoodIn wsX4_farthest wsX4_refusalInMind := goodIn_r _ [5, 6, 7, 4, 8, 9, 10, 11, 12, 13, 14, 15, 16, 17] (by decide +kernel) (by decide +kernel)
set_option maxRecDepth 20000 in
theorem gX4_farthest_X4_refusalInMind : GoodIn wsX4_farthest (va_wsS RX4 251 yX4_refusalInMind wsX4_refusalInMind) := goodIn_app (goodIn_of _ (by decide +kernel)) ggX4_farthest_X4_refusalInMind
set_option maxRecDepth 20000 in
theorem ggX4_farthest_X4_refuse : GoodIn wsX4_farthest wsX4_refuse := goodIn_r _ [21, 22, 118, 119, 120, 121, 122, 123, 124, 125, 126] (by decide +kernel) (by decide +kernel)
set_option maxRecDepth 20000 in
theorem gX4_farthest_X4_refuse : GoodIn wsX4_farthest (wsV RX4 76 RX4 yX4_refuse wsX4_refuse) := goodIn_app (goodIn_of _ (by decide +kernel)) ggX4_farthest_X4_refuse
set_option maxRecDepth 20000 in
theorem ggX4_farthest_X2_leastPlace : GoodIn wsX4_farthest wsX2_leastPlace := goodIn_r _ [26, 27, 28, 29, 30, 31, 32, 33, 24, 34, 35, 36, 37, 38, 39, 40, 41, 42, 43, 44, 45, 46, 47, 48, 49, 50, 51, 52, 53, 54, 55, 56, 57, 58, 59, 60, 61, 62, 63, 64, 65, 66, 67, 68, 69, 70, 71, 72, 73, 74, 75, 76, 77, 78, 79, 80, 81, 82, 83, 84, 85, 86, 87, 88, 89, 90, 91, 92, 93, 94, 95, 96, 97, 98, 99, 100, 101, 102, 103, 104, 105, 106, 107, 108, 109, 110, 111, 112, 113, 127, 128, 129, 130, 131, 132, 133, 134, 135, 136, 137, 138, 139, 140, 141] (by decide +kernel) (by decide +kernel)
set_option maxRecDepth 20000 in
theorem gX4_farthest_X2_leastPlace_n278 : GoodIn wsX4_farthest (wsX2_leastPlace) := ggX4_farthest_X2_leastPlace
set_option maxRecDepth 20000 in
theorem ggX4_farthest_X2_greatestPlace : GoodIn wsX4_farthest wsX2_greatestPlace := goodIn_r _ [116, 117, 100, 29, 101, 31, 32, 33, 24, 34, 35, 36, 37, 38, 39, 40, 41, 42, 43, 44, 45, 46, 47, 48, 49, 50, 51, 52, 53, 54, 55, 56, 57, 58, 59, 28, 30, 60, 61, 62, 63, 64, 65, 66, 67, 68, 69, 70, 71, 72, 73, 74, 75, 76, 77, 78, 79, 80, 81, 82, 83, 84, 85, 86, 87, 88, 89, 90, 91, 92, 93, 94, 95, 96, 97, 98, 99, 102, 103, 104, 105, 106, 107, 108, 109, 110, 111, 112, 113, 127, 128, 129, 130, 131, 132, 133, 134, 135, 136, 137, 138, 139, 140, 141] (by decide +kernel) (by decide +kernel)
set_option maxRecDepth 20000 in
theorem gX4_farthest_X2_greatestPlace_n281 : GoodIn wsX4_farthest (wsX2_greatestPlace) := ggX4_farthest_X2_greatestPlace
theorem dX4_farthest_0 : decode cX4_farthest 0 = .ok (.iload_n 1, 1) := by decide +kernel
theorem dX4_farthest_1 : decode cX4_farthest 1 = .ok (.iload_n 2, 1) := by decide +kernel
theorem dX4_farthest_2 : decode cX4_farthest 2 = .ok (.invokestatic 251, 3) := by decide +kernel
theorem dX4_farthest_5 : decode cX4_farthest 5 = .ok (.istore_n 3, 1) := by decide +kernel
theorem dX4_farthest_6 : decode cX4_farthest 6 = .ok (.iload_n 3, 1) := by decide +kernel
theorem dX4_farthest_7 : decode cX4_farthest 7 = .ok (.ifCond .eq 9, 3) := by decide +kernel
theorem dX4_farthest_10 : decode cX4_farthest 10 = .ok (.aload_n 0, 1) := by decide +kernel
theorem dX4_farthest_11 : decode cX4_farthest 11 = .ok (.iload_n 3, 1) := by decide +kernel
theorem dX4_farthest_12 : decode cX4_farthest 12 = .ok (.invokevirtual 76, 3) := by decide +kernel
theorem dX4_farthest_15 : decode cX4_farthest 15 = .ok (.ireturn, 1) := by decide +kernel
theorem dX4_farthest_16 : decode cX4_farthest 16 = .ok (.iload_n 2, 1) := by decide +kernel
theorem dX4_farthest_17 : decode cX4_farthest 17 = .ok (.ifCond .ne 14, 3) := by decide +kernel
theorem dX4_farthest_20 : decode cX4_farthest 20 = .ok (.aload_n 0, 1) := by decide +kernel
theorem dX4_farthest_21 : decode cX4_farthest 21 = .ok (.getfield 10, 3) := by decide +kernel
theorem dX4_farthest_24 : decode cX4_farthest 24 = .ok (.iload_n 1, 1) := by decide +kernel
theorem dX4_farthest_25 : decode cX4_farthest 25 = .ok (.invokevirtual 278, 3) := by decide +kernel
theorem dX4_farthest_28 : decode cX4_farthest 28 = .ok (.goto 11, 3) := by decide +kernel
theorem dX4_farthest_31 : decode cX4_farthest 31 = .ok (.aload_n 0, 1) := by decide +kernel
theorem dX4_farthest_32 : decode cX4_farthest 32 = .ok (.getfield 10, 3) := by decide +kernel
theorem dX4_farthest_35 : decode cX4_farthest 35 = .ok (.iload_n 1, 1) := by decide +kernel
theorem dX4_farthest_36 : decode cX4_farthest 36 = .ok (.invokevirtual 281, 3) := by decide +kernel
theorem dX4_farthest_39 : decode cX4_farthest 39 = .ok (.ireturn, 1) := by decide +kernel
set_option maxRecDepth 20000 in
theorem ggX4_spent_X4_outside : GoodIn wsX4_spent wsX4_outside := goodIn_r _ [6, 7, 8, 5, 9] (by decide +kernel) (by decide +kernel)
set_option maxRecDepth 20000 in
theorem gX4_spent_X4_outside : GoodIn wsX4_spent (va_wsS RX4 59 yX4_outside wsX4_outside) := goodIn_app (goodIn_of _ (by decide +kernel)) ggX4_spent_X4_outside
set_option maxRecDepth 20000 in
theorem ggX4_spent_X4_refuse : GoodIn wsX4_spent wsX4_refuse := goodIn_r _ [13, 14, 112, 113, 114, 115, 116, 117, 118, 119, 120] (by decide +kernel) (by decide +kernel)
set_option maxRecDepth 20000 in
theorem gX4_spent_X4_refuse : GoodIn wsX4_spent (wsV RX4 76 RX4 yX4_refuse wsX4_refuse) := goodIn_app (goodIn_of _ (by decide +kernel)) ggX4_spent_X4_refuse
set_option maxRecDepth 20000 in
theorem ggX4_spent_X0_powderTogether : GoodIn wsX4_spent wsX0_powderTogether := goodIn_r _ [18, 19, 20, 121, 122, 123, 124, 125, 126, 127, 128, 129, 130, 131] (by decide +kernel) (by decide +kernel)
set_option maxRecDepth 20000 in
theorem gX4_spent_X0_powderTogether_n161 : GoodIn wsX4_spent (wsX0_powderTogether) := ggX4_spent_X0_powderTogether
set_option maxRecDepth 20000 in
theorem ggX4_spent_X2_after : GoodIn wsX4_spent wsX2_after := goodIn_r _ [24, 25, 26, 27, 22, 28, 29, 30, 31, 16, 32, 33, 34, 35, 36, 37, 38, 39, 40, 20, 41, 42, 19, 43, 44, 45, 46, 47, 48, 49, 50, 51, 52, 53, 54, 55, 56, 57, 58, 59, 60, 61, 62, 63, 64, 65, 66, 67, 68, 69, 70, 71, 72, 73, 74, 75, 76, 77, 78, 79, 80, 81, 82, 83, 84, 85, 86, 87, 88, 89, 90, 91, 92, 93, 94, 95, 96, 97, 98, 99, 100, 101, 102, 103, 104, 105, 106, 107, 108, 109, 110, 111, 132, 133, 134, 135, 121, 122, 123, 124, 125, 126, 127, 128, 129, 130, 131] (by decide +kernel) (by decide +kernel)
set_option maxRecDepth 20000 in
theorem gX4_spent_X2_after_n254 : GoodIn wsX4_spent (wsX2_after) := ggX4_spent_X2_after
theorem dX4_spent_0 : decode cX4_spent 0 = .ok (.iload_n 1, 1) := by decide +kernel
theorem dX4_spent_1 : decode cX4_spent 1 = .ok (.iconst 0, 1) := by decide +kernel
theorem dX4_spent_2 : decode cX4_spent 2 = .ok (.bipush 99, 2) := by decide +kernel
theorem dX4_spent_4 : decode cX4_spent 4 = .ok (.invokestatic 59, 3) := by decide +kernel
theorem dX4_spent_7 : decode cX4_spent 7 = .ok (.istore_n 2, 1) := by decide +kernel
theorem dX4_spent_8 : decode cX4_spent 8 = .ok (.iload_n 2, 1) := by decide +kernel
theorem dX4_spent_9 : decode cX4_spent 9 = .ok (.ifCond .eq 9, 3) := by decide +kernel
theorem dX4_spent_12 : decode cX4_spent 12 = .ok (.aload_n 0, 1) := by decide +kernel
theorem dX4_spent_13 : decode cX4_spent 13 = .ok (.iload_n 2, 1) := by decide +kernel
theorem dX4_spent_14 : decode cX4_spent 14 = .ok (.invokevirtual 76, 3) := by decide +kernel
theorem dX4_spent_17 : decode cX4_spent 17 = .ok (.ireturn, 1) := by decide +kernel
theorem dX4_spent_18 : decode cX4_spent 18 = .ok (.aload_n 0, 1) := by decide +kernel
theorem dX4_spent_19 : decode cX4_spent 19 = .ok (.getfield 20, 3) := by decide +kernel
theorem dX4_spent_22 : decode cX4_spent 22 = .ok (.invokevirtual 161, 3) := by decide +kernel
theorem dX4_spent_25 : decode cX4_spent 25 = .ok (.aload_n 0, 1) := by decide +kernel
theorem dX4_spent_26 : decode cX4_spent 26 = .ok (.getfield 10, 3) := by decide +kernel
theorem dX4_spent_29 : decode cX4_spent 29 = .ok (.iload_n 1, 1) := by decide +kernel
theorem dX4_spent_30 : decode cX4_spent 30 = .ok (.invokevirtual 254, 3) := by decide +kernel
theorem dX4_spent_33 : decode cX4_spent 33 = .ok (.invokevirtual 161, 3) := by decide +kernel
theorem dX4_spent_36 : decode cX4_spent 36 = .ok (.isub, 1) := by decide +kernel
theorem dX4_spent_37 : decode cX4_spent 37 = .ok (.ireturn, 1) := by decide +kernel
set_option maxRecDepth 20000 in
theorem ggX4_ring_X4_outside : GoodIn wsX4_ring wsX4_outside := goodIn_r _ [5, 6, 7, 4, 8] (by decide +kernel) (by decide +kernel)
set_option maxRecDepth 20000 in
theorem gX4_ring_X4_outside : GoodIn wsX4_ring (va_wsS RX4 59 yX4_outside wsX4_outside) := goodIn_app (goodIn_of _ (by decide +kernel)) ggX4_ring_X4_outside
set_option maxRecDepth 20000 in
theorem ggX4_ring_X4_refuse : GoodIn wsX4_ring wsX4_refuse := goodIn_r _ [12, 13, 112, 113, 114, 115, 116, 117, 118, 119, 120] (by decide +kernel) (by decide +kernel)
set_option maxRecDepth 20000 in
theorem gX4_ring_X4_refuse : GoodIn wsX4_ring (wsV RX4 76 RX4 yX4_refuse wsX4_refuse) := goodIn_app (goodIn_of _ (by decide +kernel)) ggX4_ring_X4_refuse
set_option maxRecDepth 20000 in
theorem ggX4_ring_X2_ringBehind : GoodIn wsX4_ring wsX2_ringBehind := goodIn_r _ [17, 18, 19, 20, 15, 21, 22, 23, 24, 25, 26, 27, 28, 29, 30, 31, 32, 33, 34, 35, 36, 37, 38, 39, 40, 41, 42, 43, 44, 45, 46, 47, 48, 49, 50, 51, 52, 53, 54, 55, 56, 57, 58, 59, 60, 61, 62, 63, 64, 65, 66, 67, 68, 69, 70, 71, 72, 73, 74, 75, 76, 77, 78, 79, 80, 81, 82, 83, 84, 85, 86, 87, 88, 89, 90, 91, 92, 93, 94, 95, 96, 97, 98, 99, 100, 101, 102, 103, 104, 105, 106, 107, 108, 109, 110, 111, 121, 122, 123, 124, 125, 126, 127, 128, 129, 130, 131, 132, 133, 134, 135] (by decide +kernel) (by decide +kernel)
set_option maxRecDepth 20000 in
theorem gX4_ring_X2_ringBehind_n284 : GoodIn wsX4_ring (wsX2_ringBehind) := ggX4_ring_X2_ringBehind
theorem dX4_ring_0 : decode cX4_ring 0 = .ok (.iload_n 1, 1) := by decide +kernel
theorem dX4_ring_1 : decode cX4_ring 1 = .ok (.iconst 0, 1) := by decide +kernel
theorem dX4_ring_2 : decode cX4_ring 2 = .ok (.bipush 99, 2) := by decide +kernel
theorem dX4_ring_4 : decode cX4_ring 4 = .ok (.invokestatic 59, 3) := by decide +kernel
theorem dX4_ring_7 : decode cX4_ring 7 = .ok (.istore_n 2, 1) := by decide +kernel
theorem dX4_ring_8 : decode cX4_ring 8 = .ok (.iload_n 2, 1) := by decide +kernel
theorem dX4_ring_9 : decode cX4_ring 9 = .ok (.ifCond .eq 11, 3) := by decide +kernel
theorem dX4_ring_12 : decode cX4_ring 12 = .ok (.aload_n 0, 1) := by decide +kernel
theorem dX4_ring_13 : decode cX4_ring 13 = .ok (.iload_n 2, 1) := by decide +kernel
theorem dX4_ring_14 : decode cX4_ring 14 = .ok (.invokevirtual 76, 3) := by decide +kernel
theorem dX4_ring_17 : decode cX4_ring 17 = .ok (.goto 11, 3) := by decide +kernel
theorem dX4_ring_20 : decode cX4_ring 20 = .ok (.aload_n 0, 1) := by decide +kernel
theorem dX4_ring_21 : decode cX4_ring 21 = .ok (.getfield 10, 3) := by decide +kernel
theorem dX4_ring_24 : decode cX4_ring 24 = .ok (.iload_n 1, 1) := by decide +kernel
theorem dX4_ring_25 : decode cX4_ring 25 = .ok (.invokevirtual 284, 3) := by decide +kernel
theorem dX4_ring_28 : decode cX4_ring 28 = .ok (.ireturn, 1) := by decide +kernel
set_option maxRecDepth 20000 in
theorem ggX4_hush_X4_refusalOf : GoodIn wsX4_hush wsX4_refusalOf := goodIn_r _ [6, 7, 8, 9, 5, 10, 11, 12, 13, 14, 15, 16, 17, 18, 19, 127, 128, 129, 130, 131, 132, 133, 134, 135, 136, 137, 138, 139, 140, 141, 142, 143, 144, 145, 146] (by decide +kernel) (by decide +kernel)
set_option maxRecDepth 20000 in
theorem gX4_hush_X4_refusalOf : GoodIn wsX4_hush (wsV RX4 66 RX4 yX4_refusalOf wsX4_refusalOf) := goodIn_app (goodIn_of _ (by decide +kernel)) ggX4_hush_X4_refusalOf
set_option maxRecDepth 20000 in
theorem ggX4_hush_X4_refuse : GoodIn wsX4_hush wsX4_refuse := goodIn_r _ [23, 24, 127, 128, 129, 130, 131, 132, 133, 134, 135] (by decide +kernel) (by decide +kernel)
set_option maxRecDepth 20000 in
theorem gX4_hush_X4_refuse : GoodIn wsX4_hush (wsV RX4 76 RX4 yX4_refuse wsX4_refuse) := goodIn_app (goodIn_of _ (by decide +kernel)) ggX4_hush_X4_refuse
set_option maxRecDepth 20000 in
theorem ggX4_hush_X2_bestHush : GoodIn wsX4_hush wsX2_bestHush := goodIn_r _ [28, 29, 30, 31, 32, 26, 33, 34, 35, 36, 37, 38, 39, 40, 41, 42, 43, 44, 45, 46, 47, 48, 49, 50, 51, 52, 53, 54, 55, 56, 57, 58, 59, 60, 61, 62, 63, 64, 65, 66, 67, 68, 69, 70, 71, 72, 73, 74, 75, 76, 77, 78, 79, 80, 81, 82, 83, 84, 85, 86, 87, 88, 89, 90, 91, 92, 93, 94, 95, 96, 97, 98, 99, 100, 101, 102, 103, 104, 105, 106, 107, 108, 109, 110, 111, 112, 113, 114, 115, 116, 117, 118, 119, 120, 121, 122, 123, 124, 125, 126, 147, 148, 149, 150, 136, 137, 138, 139, 140, 141, 142, 143, 144, 145, 146] (by decide +kernel) (by decide +kernel)
set_option maxRecDepth 20000 in
theorem gX4_hush_X2_bestHush_n287 : GoodIn wsX4_hush (wsX2_bestHush) := ggX4_hush_X2_bestHush
theorem dX4_hush_0 : decode cX4_hush 0 = .ok (.aload_n 0, 1) := by decide +kernel
theorem dX4_hush_1 : decode cX4_hush 1 = .ok (.iload_n 1, 1) := by decide +kernel
theorem dX4_hush_2 : decode cX4_hush 2 = .ok (.iload_n 2, 1) := by decide +kernel
theorem dX4_hush_3 : decode cX4_hush 3 = .ok (.invokevirtual 66, 3) := by decide +kernel
theorem dX4_hush_6 : decode cX4_hush 6 = .ok (.istore_n 3, 1) := by decide +kernel
theorem dX4_hush_7 : decode cX4_hush 7 = .ok (.iload_n 3, 1) := by decide +kernel
theorem dX4_hush_8 : decode cX4_hush 8 = .ok (.ifCond .eq 11, 3) := by decide +kernel
theorem dX4_hush_11 : decode cX4_hush 11 = .ok (.aload_n 0, 1) := by decide +kernel
theorem dX4_hush_12 : decode cX4_hush 12 = .ok (.iload_n 3, 1) := by decide +kernel
theorem dX4_hush_13 : decode cX4_hush 13 = .ok (.invokevirtual 76, 3) := by decide +kernel
theorem dX4_hush_16 : decode cX4_hush 16 = .ok (.goto 12, 3) := by decide +kernel
theorem dX4_hush_19 : decode cX4_hush 19 = .ok (.aload_n 0, 1) := by decide +kernel
theorem dX4_hush_20 : decode cX4_hush 20 = .ok (.getfield 10, 3) := by decide +kernel
theorem dX4_hush_23 : decode cX4_hush 23 = .ok (.iload_n 1, 1) := by decide +kernel
theorem dX4_hush_24 : decode cX4_hush 24 = .ok (.iload_n 2, 1) := by decide +kernel
theorem dX4_hush_25 : decode cX4_hush 25 = .ok (.invokevirtual 287, 3) := by decide +kernel
theorem dX4_hush_28 : decode cX4_hush 28 = .ok (.ireturn, 1) := by decide +kernel
set_option maxRecDepth 20000 in
theorem ggX4_fewest_X4_refusalOf : GoodIn wsX4_fewest wsX4_refusalOf := goodIn_r _ [6, 7, 8, 9, 5, 10, 11, 12, 13, 14, 15, 16, 17, 18, 19, 130, 131, 132, 133, 134, 135, 136, 137, 138, 139, 140, 141, 142, 143, 144, 145, 146, 147, 148, 149] (by decide +kernel) (by decide +kernel)
set_option maxRecDepth 20000 in
theorem gX4_fewest_X4_refusalOf : GoodIn wsX4_fewest (wsV RX4 66 RX4 yX4_refusalOf wsX4_refusalOf) := goodIn_app (goodIn_of _ (by decide +kernel)) ggX4_fewest_X4_refusalOf
set_option maxRecDepth 20000 in
theorem ggX4_fewest_X4_refuse : GoodIn wsX4_fewest wsX4_refuse := goodIn_r _ [23, 24, 130, 131, 132, 133, 134, 135, 136, 137, 138] (by decide +kernel) (by decide +kernel)
set_option maxRecDepth 20000 in
theorem gX4_fewest_X4_refuse : GoodIn wsX4_fewest (wsV RX4 76 RX4 yX4_refuse wsX4_refuse) := goodIn_app (goodIn_of _ (by decide +kernel)) ggX4_fewest_X4_refuse
set_option maxRecDepth 20000 in
theorem ggX4_fewest_X2_fewestHushed : GoodIn wsX4_fewest wsX2_fewestHushed := goodIn_r _ [28, 29, 30, 31, 32, 33, 34, 35, 36, 37, 38, 39, 26, 40, 41, 42, 43, 44, 45, 46, 47, 48, 49, 50, 51, 52, 53, 54, 55, 56, 57, 58, 59, 60, 61, 62, 63, 64, 65, 66, 67, 68, 69, 70, 71, 72, 73, 74, 75, 76, 77, 78, 79, 80, 81, 82, 83, 84, 85, 86, 87, 88, 89, 90, 91, 92, 93, 94, 95, 96, 97, 98, 99, 100, 101, 102, 103, 104, 105, 106, 107, 108, 109, 110, 111, 112, 113, 114, 115, 116, 117, 118, 119, 120, 121, 122, 123, 124, 125, 126, 127, 128, 129, 150, 151, 152, 153, 139, 140, 141, 142, 143, 144, 145, 146, 147, 148, 149] (by decide +kernel) (by decide +kernel)
set_option maxRecDepth 20000 in
theorem gX4_fewest_X2_fewestHushed_n290 : GoodIn wsX4_fewest (wsX2_fewestHushed) := ggX4_fewest_X2_fewestHushed
theorem dX4_fewest_0 : decode cX4_fewest 0 = .ok (.aload_n 0, 1) := by decide +kernel
theorem dX4_fewest_1 : decode cX4_fewest 1 = .ok (.iload_n 1, 1) := by decide +kernel
theorem dX4_fewest_2 : decode cX4_fewest 2 = .ok (.iload_n 2, 1) := by decide +kernel
theorem dX4_fewest_3 : decode cX4_fewest 3 = .ok (.invokevirtual 66, 3) := by decide +kernel
theorem dX4_fewest_6 : decode cX4_fewest 6 = .ok (.istore_n 3, 1) := by decide +kernel
theorem dX4_fewest_7 : decode cX4_fewest 7 = .ok (.iload_n 3, 1) := by decide +kernel
theorem dX4_fewest_8 : decode cX4_fewest 8 = .ok (.ifCond .eq 11, 3) := by decide +kernel
theorem dX4_fewest_11 : decode cX4_fewest 11 = .ok (.aload_n 0, 1) := by decide +kernel
theorem dX4_fewest_12 : decode cX4_fewest 12 = .ok (.iload_n 3, 1) := by decide +kernel
theorem dX4_fewest_13 : decode cX4_fewest 13 = .ok (.invokevirtual 76, 3) := by decide +kernel
theorem dX4_fewest_16 : decode cX4_fewest 16 = .ok (.goto 12, 3) := by decide +kernel
theorem dX4_fewest_19 : decode cX4_fewest 19 = .ok (.aload_n 0, 1) := by decide +kernel
theorem dX4_fewest_20 : decode cX4_fewest 20 = .ok (.getfield 10, 3) := by decide +kernel
theorem dX4_fewest_23 : decode cX4_fewest 23 = .ok (.iload_n 1, 1) := by decide +kernel
theorem dX4_fewest_24 : decode cX4_fewest 24 = .ok (.iload_n 2, 1) := by decide +kernel
theorem dX4_fewest_25 : decode cX4_fewest 25 = .ok (.invokevirtual 290, 3) := by decide +kernel
theorem dX4_fewest_28 : decode cX4_fewest 28 = .ok (.ireturn, 1) := by decide +kernel
set_option maxRecDepth 20000 in
theorem ggX4_swap_X4_refusalOf : GoodIn wsX4_swap wsX4_refusalOf := goodIn_r _ [6, 7, 8, 9, 5, 10, 11, 12, 13, 14, 15, 16, 17, 18, 19, 123, 124, 125, 126, 127, 128, 129, 130, 131, 132, 133, 134, 135, 136, 137, 138, 139, 140, 141, 142] (by decide +kernel) (by decide +kernel)
set_option maxRecDepth 20000 in
theorem gX4_swap_X4_refusalOf : GoodIn wsX4_swap (wsV RX4 66 RX4 yX4_refusalOf wsX4_refusalOf) := goodIn_app (goodIn_of _ (by decide +kernel)) ggX4_swap_X4_refusalOf
set_option maxRecDepth 20000 in
theorem ggX4_swap_X4_refuse : GoodIn wsX4_swap wsX4_refuse := goodIn_r _ [23, 24, 123, 124, 125, 126, 127, 128, 129, 130, 131] (by decide +kernel) (by decide +kernel)
set_option maxRecDepth 20000 in
theorem gX4_swap_X4_refuse : GoodIn wsX4_swap (wsV RX4 76 RX4 yX4_refuse wsX4_refuse) := goodIn_app (goodIn_of _ (by decide +kernel)) ggX4_swap_X4_refuse
set_option maxRecDepth 20000 in
theorem ggX4_swap_X2_bestSwap : GoodIn wsX4_swap wsX2_bestSwap := goodIn_r _ [28, 29, 30, 31, 32, 26, 33, 34, 35, 36, 37, 38, 39, 40, 41, 42, 43, 44, 45, 46, 47, 48, 49, 50, 51, 52, 53, 54, 55, 56, 57, 58, 59, 60, 61, 62, 63, 64, 65, 66, 67, 68, 69, 70, 71, 72, 73, 74, 75, 76, 77, 78, 79, 80, 81, 82, 83, 84, 85, 86, 87, 88, 89, 90, 91, 92, 93, 94, 95, 96, 97, 98, 99, 100, 101, 102, 103, 104, 105, 106, 107, 108, 109, 110, 111, 112, 113, 114, 115, 116, 117, 118, 119, 120, 121, 122, 143, 144, 145, 146, 132, 133, 134, 135, 136, 137, 138, 139, 140, 141, 142] (by decide +kernel) (by decide +kernel)
set_option maxRecDepth 20000 in
theorem gX4_swap_X2_bestSwap_n293 : GoodIn wsX4_swap (wsX2_bestSwap) := ggX4_swap_X2_bestSwap
theorem dX4_swap_0 : decode cX4_swap 0 = .ok (.aload_n 0, 1) := by decide +kernel
theorem dX4_swap_1 : decode cX4_swap 1 = .ok (.iload_n 1, 1) := by decide +kernel
theorem dX4_swap_2 : decode cX4_swap 2 = .ok (.iload_n 2, 1) := by decide +kernel
theorem dX4_swap_3 : decode cX4_swap 3 = .ok (.invokevirtual 66, 3) := by decide +kernel
theorem dX4_swap_6 : decode cX4_swap 6 = .ok (.istore_n 3, 1) := by decide +kernel
theorem dX4_swap_7 : decode cX4_swap 7 = .ok (.iload_n 3, 1) := by decide +kernel
theorem dX4_swap_8 : decode cX4_swap 8 = .ok (.ifCond .eq 11, 3) := by decide +kernel
theorem dX4_swap_11 : decode cX4_swap 11 = .ok (.aload_n 0, 1) := by decide +kernel
theorem dX4_swap_12 : decode cX4_swap 12 = .ok (.iload_n 3, 1) := by decide +kernel
theorem dX4_swap_13 : decode cX4_swap 13 = .ok (.invokevirtual 76, 3) := by decide +kernel
theorem dX4_swap_16 : decode cX4_swap 16 = .ok (.goto 12, 3) := by decide +kernel
theorem dX4_swap_19 : decode cX4_swap 19 = .ok (.aload_n 0, 1) := by decide +kernel
theorem dX4_swap_20 : decode cX4_swap 20 = .ok (.getfield 10, 3) := by decide +kernel
theorem dX4_swap_23 : decode cX4_swap 23 = .ok (.iload_n 1, 1) := by decide +kernel
theorem dX4_swap_24 : decode cX4_swap 24 = .ok (.iload_n 2, 1) := by decide +kernel
theorem dX4_swap_25 : decode cX4_swap 25 = .ok (.invokevirtual 293, 3) := by decide +kernel
theorem dX4_swap_28 : decode cX4_swap 28 = .ok (.ireturn, 1) := by decide +kernel
set_option maxRecDepth 20000 in
theorem ggX4_fromWhere_X4_refusalOf_ : GoodIn wsX4_fromWhere wsX4_refusalOf_ := goodIn_r _ [6, 7, 8, 9, 5, 10, 11, 12, 13, 14, 15, 16, 17, 18, 19, 20, 21, 22, 23, 24, 25, 26, 133, 134, 135, 136, 137, 138, 139, 140, 141, 142, 143, 144, 145, 146, 147, 148, 149, 150, 151, 152] (by decide +kernel) (by decide +kernel)
set_option maxRecDepth 20000 in
theorem gX4_fromWhere_X4_refusalOf_ : GoodIn wsX4_fromWhere (wsV RX4 258 RX4 yX4_refusalOf_ wsX4_refusalOf_) := goodIn_app (goodIn_of _ (by decide +kernel)) ggX4_fromWhere_X4_refusalOf_
set_option maxRecDepth 20000 in
theorem ggX4_fromWhere_X4_refuse : GoodIn wsX4_fromWhere wsX4_refuse := goodIn_r _ [30, 31, 133, 134, 135, 136, 137, 138, 139, 140, 141] (by decide +kernel) (by decide +kernel)
set_option maxRecDepth 20000 in
theorem gX4_fromWhere_X4_refuse : GoodIn wsX4_fromWhere (wsV RX4 76 RX4 yX4_refuse wsX4_refuse) := goodIn_app (goodIn_of _ (by decide +kernel)) ggX4_fromWhere_X4_refuse
set_option maxRecDepth 20000 in
theorem ggX4_fromWhere_X2_countStarts : GoodIn wsX4_fromWhere wsX2_countStarts := goodIn_r _ [35, 36, 37, 38, 33, 39, 40, 41, 42, 43, 44, 45, 46, 47, 48, 49, 50, 51, 52, 53, 54, 55, 56, 57, 58, 59, 60, 61, 62, 63, 64, 65, 66, 67, 68, 69, 70, 71, 72, 73, 74, 75, 76, 77, 78, 79, 80, 81, 82, 83, 84, 85, 86, 87, 88, 89, 90, 91, 92, 93, 94, 95, 96, 97, 98, 99, 100, 101, 102, 103, 104, 105, 106, 107, 108, 109, 110, 111, 112, 113, 114, 115, 116, 117, 118, 119, 120, 121, 122, 123, 124, 125, 126, 127, 128, 129, 142, 143, 144, 145, 146, 147, 148, 149, 150, 151, 152, 153, 154, 155, 156] (by decide +kernel) (by decide +kernel)
set_option maxRecDepth 20000 in
theorem gX4_fromWhere_X2_countStarts_n296 : GoodIn wsX4_fromWhere (wsX2_countStarts) := ggX4_fromWhere_X2_countStarts
set_option maxRecDepth 20000 in
theorem ggX4_fromWhere_X2_leastStart : GoodIn wsX4_fromWhere wsX2_leastStart := goodIn_r _ [132, 36, 37, 38, 33, 39, 40, 41, 42, 43, 44, 45, 46, 47, 48, 49, 50, 51, 52, 53, 54, 55, 56, 57, 58, 59, 60, 61, 62, 63, 64, 65, 66, 67, 68, 69, 70, 71, 72, 73, 74, 75, 76, 77, 78, 79, 80, 81, 82, 83, 84, 85, 86, 87, 88, 89, 90, 91, 92, 93, 94, 95, 96, 97, 98, 99, 100, 101, 102, 103, 104, 105, 106, 107, 108, 109, 110, 111, 112, 113, 114, 115, 116, 117, 118, 119, 120, 121, 122, 123, 124, 125, 126, 127, 128, 129, 142, 143, 144, 145, 146, 147, 148, 149, 150, 151, 152, 153, 154, 155, 156] (by decide +kernel) (by decide +kernel)
set_option maxRecDepth 20000 in
theorem gX4_fromWhere_X2_leastStart_n299 : GoodIn wsX4_fromWhere (wsX2_leastStart) := ggX4_fromWhere_X2_leastStart
theorem dX4_fromWhere_0 : decode cX4_fromWhere 0 = .ok (.aload_n 0, 1) := by decide +kernel
theorem dX4_fromWhere_1 : decode cX4_fromWhere 1 = .ok (.iload_n 1, 1) := by decide +kernel
theorem dX4_fromWhere_2 : decode cX4_fromWhere 2 = .ok (.iload_n 2, 1) := by decide +kernel
theorem dX4_fromWhere_3 : decode cX4_fromWhere 3 = .ok (.iload_n 3, 1) := by decide +kernel
theorem dX4_fromWhere_4 : decode cX4_fromWhere 4 = .ok (.invokevirtual 258, 3) := by decide +kernel
theorem dX4_fromWhere_7 : decode cX4_fromWhere 7 = .ok (.istore 4, 2) := by decide +kernel
theorem dX4_fromWhere_9 : decode cX4_fromWhere 9 = .ok (.iload 4, 2) := by decide +kernel
theorem dX4_fromWhere_11 : decode cX4_fromWhere 11 = .ok (.ifCond .eq 10, 3) := by decide +kernel
theorem dX4_fromWhere_14 : decode cX4_fromWhere 14 = .ok (.aload_n 0, 1) := by decide +kernel
theorem dX4_fromWhere_15 : decode cX4_fromWhere 15 = .ok (.iload 4, 2) := by decide +kernel
theorem dX4_fromWhere_17 : decode cX4_fromWhere 17 = .ok (.invokevirtual 76, 3) := by decide +kernel
theorem dX4_fromWhere_20 : decode cX4_fromWhere 20 = .ok (.ireturn, 1) := by decide +kernel
theorem dX4_fromWhere_21 : decode cX4_fromWhere 21 = .ok (.iload_n 3, 1) := by decide +kernel
theorem dX4_fromWhere_22 : decode cX4_fromWhere 22 = .ok (.ifCond .ne 15, 3) := by decide +kernel
theorem dX4_fromWhere_25 : decode cX4_fromWhere 25 = .ok (.aload_n 0, 1) := by decide +kernel
theorem dX4_fromWhere_26 : decode cX4_fromWhere 26 = .ok (.getfield 10, 3) := by decide +kernel
theorem dX4_fromWhere_29 : decode cX4_fromWhere 29 = .ok (.iload_n 1, 1) := by decide +kernel
theorem dX4_fromWhere_30 : decode cX4_fromWhere 30 = .ok (.iload_n 2, 1) := by decide +kernel
theorem dX4_fromWhere_31 : decode cX4_fromWhere 31 = .ok (.invokevirtual 296, 3) := by decide +kernel
theorem dX4_fromWhere_34 : decode cX4_fromWhere 34 = .ok (.goto 12, 3) := by decide +kernel
theorem dX4_fromWhere_37 : decode cX4_fromWhere 37 = .ok (.aload_n 0, 1) := by decide +kernel
theorem dX4_fromWhere_38 : decode cX4_fromWhere 38 = .ok (.getfield 10, 3) := by decide +kernel
theorem dX4_fromWhere_41 : decode cX4_fromWhere 41 = .ok (.iload_n 1, 1) := by decide +kernel
theorem dX4_fromWhere_42 : decode cX4_fromWhere 42 = .ok (.iload_n 2, 1) := by decide +kernel
theorem dX4_fromWhere_43 : decode cX4_fromWhere 43 = .ok (.invokevirtual 299, 3) := by decide +kernel
theorem dX4_fromWhere_46 : decode cX4_fromWhere 46 = .ok (.ireturn, 1) := by decide +kernel
set_option maxRecDepth 20000 in
theorem ggX4_powderWanted_X4_refusalOf_ : GoodIn wsX4_powderWanted wsX4_refusalOf_ := goodIn_r _ [6, 7, 8, 9, 5, 10, 11, 12, 13, 14, 15, 16, 17, 18, 19, 20, 21, 22, 23, 24, 25, 26, 133, 134, 135, 136, 137, 138, 139, 140, 141, 142, 143, 144, 145, 146, 147, 148, 149, 150, 151, 152] (by decide +kernel) (by decide +kernel)
set_option maxRecDepth 20000 in
theorem gX4_powderWanted_X4_refusalOf_ : GoodIn wsX4_powderWanted (wsV RX4 258 RX4 yX4_refusalOf_ wsX4_refusalOf_) := goodIn_app (goodIn_of _ (by decide +kernel)) ggX4_powderWanted_X4_refusalOf_
set_option maxRecDepth 20000 in
theorem ggX4_powderWanted_X4_refuse : GoodIn wsX4_powderWanted wsX4_refuse := goodIn_r _ [30, 31, 133, 134, 135, 136, 137, 138, 139, 140, 141] (by decide +kernel) (by decide +kernel)
set_option maxRecDepth 20000 in
theorem gX4_powderWanted_X4_refuse : GoodIn wsX4_powderWanted (wsV RX4 76 RX4 yX4_refuse wsX4_refuse) := goodIn_app (goodIn_of _ (by decide +kernel)) ggX4_powderWanted_X4_refuse
set_option maxRecDepth 20000 in
theorem ggX4_powderWanted_X2_bestPowder : GoodIn wsX4_powderWanted wsX2_bestPowder := goodIn_r _ [35, 36, 37, 38, 39, 40, 41, 42, 43, 44, 45, 33, 46, 47, 48, 49, 50, 51, 52, 53, 54, 55, 56, 57, 58, 59, 60, 61, 62, 63, 64, 65, 66, 67, 68, 69, 70, 71, 72, 73, 74, 75, 76, 77, 78, 79, 80, 81, 82, 83, 84, 85, 86, 87, 88, 89, 90, 91, 92, 93, 94, 95, 96, 97, 98, 99, 100, 101, 102, 103, 104, 105, 106, 107, 108, 109, 110, 111, 112, 113, 114, 115, 116, 117, 118, 119, 120, 121, 122, 123, 124, 125, 126, 127, 128, 129, 130, 131, 132, 153, 154, 155, 156, 142, 143, 144, 145, 146, 147, 148, 149, 150, 151, 152] (by decide +kernel) (by decide +kernel)
set_option maxRecDepth 20000 in
theorem gX4_powderWanted_X2_bestPowder_n302 : GoodIn wsX4_powderWanted (wsX2_bestPowder) := ggX4_powderWanted_X2_bestPowder
set_option maxRecDepth 20000 in
theorem ggX4_powderWanted_X2_timesWithPowder : GoodIn wsX4_powderWanted wsX2_timesWithPowder := goodIn_r _ [46, 47, 48, 49, 33, 50, 51, 36, 52, 38, 53, 54, 41, 55, 56, 57, 58, 42, 59, 60, 61, 62, 63, 64, 65, 66, 67, 68, 69, 70, 71, 72, 73, 74, 75, 76, 77, 78, 79, 80, 81, 82, 83, 84, 85, 86, 87, 88, 89, 90, 91, 92, 93, 94, 95, 96, 97, 98, 37, 39, 40, 99, 100, 101, 102, 103, 104, 105, 106, 107, 108, 109, 110, 111, 112, 113, 114, 115, 116, 117, 118, 119, 120, 121, 122, 123, 124, 125, 126, 127, 128, 129, 130, 131, 132, 153, 154, 155, 156, 142, 143, 144, 145, 146, 147, 148, 149, 150, 151, 152] (by decide +kernel) (by decide +kernel)
set_option maxRecDepth 20000 in
theorem gX4_powderWanted_X2_timesWithPowder_n305 : GoodIn wsX4_powderWanted (wsX2_timesWithPowder) := ggX4_powderWanted_X2_timesWithPowder
theorem dX4_powderWanted_0 : decode cX4_powderWanted 0 = .ok (.aload_n 0, 1) := by decide +kernel
theorem dX4_powderWanted_1 : decode cX4_powderWanted 1 = .ok (.iload_n 1, 1) := by decide +kernel
theorem dX4_powderWanted_2 : decode cX4_powderWanted 2 = .ok (.iload_n 2, 1) := by decide +kernel
theorem dX4_powderWanted_3 : decode cX4_powderWanted 3 = .ok (.iload_n 3, 1) := by decide +kernel
theorem dX4_powderWanted_4 : decode cX4_powderWanted 4 = .ok (.invokevirtual 258, 3) := by decide +kernel
theorem dX4_powderWanted_7 : decode cX4_powderWanted 7 = .ok (.istore 4, 2) := by decide +kernel
theorem dX4_powderWanted_9 : decode cX4_powderWanted 9 = .ok (.iload 4, 2) := by decide +kernel
theorem dX4_powderWanted_11 : decode cX4_powderWanted 11 = .ok (.ifCond .eq 10, 3) := by decide +kernel
theorem dX4_powderWanted_14 : decode cX4_powderWanted 14 = .ok (.aload_n 0, 1) := by decide +kernel
theorem dX4_powderWanted_15 : decode cX4_powderWanted 15 = .ok (.iload 4, 2) := by decide +kernel
theorem dX4_powderWanted_17 : decode cX4_powderWanted 17 = .ok (.invokevirtual 76, 3) := by decide +kernel
theorem dX4_powderWanted_20 : decode cX4_powderWanted 20 = .ok (.ireturn, 1) := by decide +kernel
theorem dX4_powderWanted_21 : decode cX4_powderWanted 21 = .ok (.aload_n 0, 1) := by decide +kernel
theorem dX4_powderWanted_22 : decode cX4_powderWanted 22 = .ok (.getfield 10, 3) := by decide +kernel
theorem dX4_powderWanted_25 : decode cX4_powderWanted 25 = .ok (.iload_n 1, 1) := by decide +kernel
theorem dX4_powderWanted_26 : decode cX4_powderWanted 26 = .ok (.iload_n 2, 1) := by decide +kernel
theorem dX4_powderWanted_27 : decode cX4_powderWanted 27 = .ok (.invokevirtual 302, 3) := by decide +kernel
theorem dX4_powderWanted_30 : decode cX4_powderWanted 30 = .ok (.istore 5, 2) := by decide +kernel
theorem dX4_powderWanted_32 : decode cX4_powderWanted 32 = .ok (.iload_n 3, 1) := by decide +kernel
theorem dX4_powderWanted_33 : decode cX4_powderWanted 33 = .ok (.ifCond .ne 8, 3) := by decide +kernel
theorem dX4_powderWanted_36 : decode cX4_powderWanted 36 = .ok (.iload 5, 2) := by decide +kernel
theorem dX4_powderWanted_38 : decode cX4_powderWanted 38 = .ok (.goto 14, 3) := by decide +kernel
theorem dX4_powderWanted_41 : decode cX4_powderWanted 41 = .ok (.aload_n 0, 1) := by decide +kernel
theorem dX4_powderWanted_42 : decode cX4_powderWanted 42 = .ok (.getfield 10, 3) := by decide +kernel
theorem dX4_powderWanted_45 : decode cX4_powderWanted 45 = .ok (.iload_n 1, 1) := by decide +kernel
theorem dX4_powderWanted_46 : decode cX4_powderWanted 46 = .ok (.iload 5, 2) := by decide +kernel
theorem dX4_powderWanted_48 : decode cX4_powderWanted 48 = .ok (.iload_n 2, 1) := by decide +kernel
theorem dX4_powderWanted_49 : decode cX4_powderWanted 49 = .ok (.invokevirtual 305, 3) := by decide +kernel
theorem dX4_powderWanted_52 : decode cX4_powderWanted 52 = .ok (.ireturn, 1) := by decide +kernel
set_option maxRecDepth 20000 in
theorem ggX4_newShore_X4_unknown : GoodIn wsX4_newShore wsX4_unknown := goodIn_r _ [5] (by decide +kernel) (by decide +kernel)
set_option maxRecDepth 20000 in
theorem gX4_newShore_X4_unknown : GoodIn wsX4_newShore (va_wsS RX4 69 yX4_unknown wsX4_unknown) := goodIn_app (goodIn_of _ (by decide +kernel)) ggX4_newShore_X4_unknown
set_option maxRecDepth 20000 in
theorem ggX4_newShore_X4_outside : GoodIn wsX4_newShore wsX4_outside := goodIn_r _ [8, 9, 10, 4, 11] (by decide +kernel) (by decide +kernel)
set_option maxRecDepth 20000 in
theorem gX4_newShore_X4_outside : GoodIn wsX4_newShore (va_wsS RX4 59 yX4_outside wsX4_outside) := goodIn_app (goodIn_of _ (by decide +kernel)) ggX4_newShore_X4_outside
set_option maxRecDepth 20000 in
theorem ggX4_newShore_X4_firstOf : GoodIn wsX4_newShore wsX4_firstOf := goodIn_r _ [14] (by decide +kernel) (by decide +kernel)
set_option maxRecDepth 20000 in
theorem gX4_newShore_X4_firstOf : GoodIn wsX4_newShore (va_wsS RX4 63 yX4_firstOf wsX4_firstOf) := goodIn_app (goodIn_of _ (by decide +kernel)) ggX4_newShore_X4_firstOf
set_option maxRecDepth 20000 in
theorem ggX4_newShore_X4_refuse : GoodIn wsX4_newShore wsX4_refuse := goodIn_r _ [18, 19, 121, 122, 123, 124, 125, 126, 127, 128, 129] (by decide +kernel) (by decide +kernel)
set_option maxRecDepth 20000 in
theorem gX4_newShore_X4_refuse : GoodIn wsX4_newShore (wsV RX4 76 RX4 yX4_refuse wsX4_refuse) := goodIn_app (goodIn_of _ (by decide +kernel)) ggX4_newShore_X4_refuse
set_option maxRecDepth 20000 in
theorem ggX4_newShore_X2_bestNewPlace : GoodIn wsX4_newShore wsX2_bestNewPlace := goodIn_r _ [23, 24, 25, 26, 27, 28, 29, 30, 31, 32, 33, 21, 34, 35, 36, 37, 38, 39, 40, 41, 42, 43, 44, 45, 46, 47, 48, 49, 50, 51, 52, 53, 54, 55, 56, 57, 58, 59, 60, 61, 62, 63, 64, 65, 66, 67, 68, 69, 70, 71, 72, 73, 74, 75, 76, 77, 78, 79, 80, 81, 82, 83, 84, 85, 86, 87, 88, 89, 90, 91, 92, 93, 94, 95, 96, 97, 98, 99, 100, 101, 102, 103, 104, 105, 106, 107, 108, 109, 110, 111, 112, 113, 114, 115, 116, 117, 118, 119, 120, 130, 131, 132, 133, 134, 135, 136, 137, 138, 139, 140, 141, 142, 143, 144] (by decide +kernel) (by decide +kernel)
set_option maxRecDepth 20000 in
theorem gX4_newShore_X2_bestNewPlace_n308 : GoodIn wsX4_newShore (wsX2_bestNewPlace) := ggX4_newShore_X2_bestNewPlace
set_option maxRecDepth 20000 in
theorem ggX4_newShore_X2_timesFrom : GoodIn wsX4_newShore wsX2_timesFrom := goodIn_r _ [34, 35, 36, 37, 21, 38, 39, 24, 40, 26, 41, 42, 43, 44, 45, 46, 47, 48, 30, 49, 50, 51, 29, 52, 53, 54, 55, 56, 57, 58, 59, 60, 61, 62, 63, 64, 65, 66, 67, 68, 69, 70, 71, 72, 73, 74, 75, 76, 77, 78, 79, 80, 81, 82, 83, 84, 85, 86, 87, 88, 89, 90, 91, 92, 93, 94, 95, 96, 97, 98, 99, 100, 101, 102, 103, 104, 105, 106, 107, 108, 109, 110, 111, 112, 113, 114, 115, 116, 117, 118, 119, 120, 25, 27, 28, 134, 135, 136, 137, 138, 139, 140, 141, 142, 143, 144, 130, 131, 132, 133] (by decide +kernel) (by decide +kernel)
set_option maxRecDepth 20000 in
theorem gX4_newShore_X2_timesFrom_n311 : GoodIn wsX4_newShore (wsX2_timesFrom) := ggX4_newShore_X2_timesFrom
theorem dX4_newShore_0 : decode cX4_newShore 0 = .ok (.iload_n 1, 1) := by decide +kernel
theorem dX4_newShore_1 : decode cX4_newShore 1 = .ok (.iconst 5, 1) := by decide +kernel
theorem dX4_newShore_2 : decode cX4_newShore 2 = .ok (.invokestatic 69, 3) := by decide +kernel
theorem dX4_newShore_5 : decode cX4_newShore 5 = .ok (.iload_n 3, 1) := by decide +kernel
theorem dX4_newShore_6 : decode cX4_newShore 6 = .ok (.iconst 1, 1) := by decide +kernel
theorem dX4_newShore_7 : decode cX4_newShore 7 = .ok (.invokestatic 69, 3) := by decide +kernel
theorem dX4_newShore_10 : decode cX4_newShore 10 = .ok (.iload_n 2, 1) := by decide +kernel
theorem dX4_newShore_11 : decode cX4_newShore 11 = .ok (.iconst 0, 1) := by decide +kernel
theorem dX4_newShore_12 : decode cX4_newShore 12 = .ok (.bipush 99, 2) := by decide +kernel
theorem dX4_newShore_14 : decode cX4_newShore 14 = .ok (.invokestatic 59, 3) := by decide +kernel
theorem dX4_newShore_17 : decode cX4_newShore 17 = .ok (.invokestatic 63, 3) := by decide +kernel
theorem dX4_newShore_20 : decode cX4_newShore 20 = .ok (.invokestatic 63, 3) := by decide +kernel
theorem dX4_newShore_23 : decode cX4_newShore 23 = .ok (.istore 4, 2) := by decide +kernel
theorem dX4_newShore_25 : decode cX4_newShore 25 = .ok (.iload 4, 2) := by decide +kernel
theorem dX4_newShore_27 : decode cX4_newShore 27 = .ok (.ifCond .eq 10, 3) := by decide +kernel
theorem dX4_newShore_30 : decode cX4_newShore 30 = .ok (.aload_n 0, 1) := by decide +kernel
theorem dX4_newShore_31 : decode cX4_newShore 31 = .ok (.iload 4, 2) := by decide +kernel
theorem dX4_newShore_33 : decode cX4_newShore 33 = .ok (.invokevirtual 76, 3) := by decide +kernel
theorem dX4_newShore_36 : decode cX4_newShore 36 = .ok (.ireturn, 1) := by decide +kernel
theorem dX4_newShore_37 : decode cX4_newShore 37 = .ok (.aload_n 0, 1) := by decide +kernel
theorem dX4_newShore_38 : decode cX4_newShore 38 = .ok (.getfield 10, 3) := by decide +kernel
theorem dX4_newShore_41 : decode cX4_newShore 41 = .ok (.iload_n 1, 1) := by decide +kernel
theorem dX4_newShore_42 : decode cX4_newShore 42 = .ok (.iload_n 2, 1) := by decide +kernel
theorem dX4_newShore_43 : decode cX4_newShore 43 = .ok (.invokevirtual 308, 3) := by decide +kernel
theorem dX4_newShore_46 : decode cX4_newShore 46 = .ok (.istore 5, 2) := by decide +kernel
theorem dX4_newShore_48 : decode cX4_newShore 48 = .ok (.iload_n 3, 1) := by decide +kernel
theorem dX4_newShore_49 : decode cX4_newShore 49 = .ok (.ifCond .eq 10, 3) := by decide +kernel
theorem dX4_newShore_52 : decode cX4_newShore 52 = .ok (.iload 5, 2) := by decide +kernel
theorem dX4_newShore_54 : decode cX4_newShore 54 = .ok (.bipush (-9), 2) := by decide +kernel
theorem dX4_newShore_56 : decode cX4_newShore 56 = .ok (.if_icmp .ne 8, 3) := by decide +kernel
theorem dX4_newShore_59 : decode cX4_newShore 59 = .ok (.iload 5, 2) := by decide +kernel
theorem dX4_newShore_61 : decode cX4_newShore 61 = .ok (.goto 14, 3) := by decide +kernel
theorem dX4_newShore_64 : decode cX4_newShore 64 = .ok (.aload_n 0, 1) := by decide +kernel
theorem dX4_newShore_65 : decode cX4_newShore 65 = .ok (.getfield 10, 3) := by decide +kernel
theorem dX4_newShore_68 : decode cX4_newShore 68 = .ok (.iload_n 1, 1) := by decide +kernel
theorem dX4_newShore_69 : decode cX4_newShore 69 = .ok (.iload 5, 2) := by decide +kernel
theorem dX4_newShore_71 : decode cX4_newShore 71 = .ok (.iload_n 2, 1) := by decide +kernel
theorem dX4_newShore_72 : decode cX4_newShore 72 = .ok (.invokevirtual 311, 3) := by decide +kernel
theorem dX4_newShore_75 : decode cX4_newShore 75 = .ok (.ireturn, 1) := by decide +kernel
set_option maxRecDepth 20000 in
theorem ggX4_treaty_X4_nobody : GoodIn wsX4_treaty wsX4_nobody := goodIn_r _ [6] (by decide +kernel) (by decide +kernel)
set_option maxRecDepth 20000 in
theorem gX4_treaty_X4_nobody : GoodIn wsX4_treaty (va_wsS RX4 56 yX4_nobody wsX4_nobody) := goodIn_app (goodIn_of _ (by decide +kernel)) ggX4_treaty_X4_nobody
set_option maxRecDepth 20000 in
theorem ggX4_treaty_X4_firstOf : GoodIn wsX4_treaty wsX4_firstOf := goodIn_r _ [9] (by decide +kernel) (by decide +kernel)
set_option maxRecDepth 20000 in
theorem gX4_treaty_X4_firstOf : GoodIn wsX4_treaty (va_wsS RX4 63 yX4_firstOf wsX4_firstOf) := goodIn_app (goodIn_of _ (by decide +kernel)) ggX4_treaty_X4_firstOf
set_option maxRecDepth 20000 in
theorem ggX4_treaty_X4_unknown : GoodIn wsX4_treaty wsX4_unknown := goodIn_r _ [12] (by decide +kernel) (by decide +kernel)
set_option maxRecDepth 20000 in
theorem gX4_treaty_X4_unknown : GoodIn wsX4_treaty (va_wsS RX4 69 yX4_unknown wsX4_unknown) := goodIn_app (goodIn_of _ (by decide +kernel)) ggX4_treaty_X4_unknown
set_option maxRecDepth 20000 in
theorem ggX4_treaty_X4_refuse : GoodIn wsX4_treaty wsX4_refuse := goodIn_r _ [16, 17, 128, 129, 130, 131, 132, 133, 134, 135, 136] (by decide +kernel) (by decide +kernel)
set_option maxRecDepth 20000 in
theorem gX4_treaty_X4_refuse : GoodIn wsX4_treaty (wsV RX4 76 RX4 yX4_refuse wsX4_refuse) := goodIn_app (goodIn_of _ (by decide +kernel)) ggX4_treaty_X4_refuse
set_option maxRecDepth 20000 in
theorem ggX4_treaty_X2_weighTreaty : GoodIn wsX4_treaty wsX2_weighTreaty := goodIn_r _ [21, 22, 23, 24, 25, 26, 19, 27, 28, 29, 30, 31, 32, 33, 34, 35, 36, 37, 38, 39, 40, 41, 42, 43, 44, 45, 46, 47, 48, 49, 50, 51, 52, 53, 54, 55, 56, 57, 58, 59, 60, 61, 62, 63, 64, 65, 66, 67, 68, 69, 70, 71, 72, 73, 74, 75, 76, 77, 78, 79, 80, 81, 82, 83, 84, 85, 86, 87, 88, 89, 90, 91, 92, 93, 94, 95, 96, 97, 98, 99, 100, 101, 102, 103, 104, 105, 106, 107, 108, 109, 110, 111, 112, 113, 114, 115, 116, 117, 118, 119, 120, 148, 149, 150, 151, 137, 138, 139, 140, 141, 142, 143, 144, 145, 146, 147] (by decide +kernel) (by decide +kernel)
set_option maxRecDepth 20000 in
theorem gX4_treaty_X2_weighTreaty_n314 : GoodIn wsX4_treaty (wsX2_weighTreaty) := ggX4_treaty_X2_weighTreaty
set_option maxRecDepth 20000 in
theorem ggX4_treaty_X2_isSettled : GoodIn wsX4_treaty wsX2_isSettled := goodIn_r _ [123, 22, 23, 148, 149, 150, 151] (by decide +kernel) (by decide +kernel)
set_option maxRecDepth 20000 in
theorem gX4_treaty_X2_isSettled_n317 : GoodIn wsX4_treaty (wsX2_isSettled) := ggX4_treaty_X2_isSettled
set_option maxRecDepth 20000 in
theorem ggX4_treaty_X2_firstSettled : GoodIn wsX4_treaty wsX2_firstSettled := goodIn_r _ [126, 127, 121, 122, 19, 123, 22, 23, 148, 149, 150, 151] (by decide +kernel) (by decide +kernel)
set_option maxRecDepth 20000 in
theorem gX4_treaty_X2_firstSettled_n320 : GoodIn wsX4_treaty (wsX2_firstSettled) := ggX4_treaty_X2_firstSettled
theorem dX4_treaty_0 : decode cX4_treaty 0 = .ok (.iload_n 1, 1) := by decide +kernel
theorem dX4_treaty_1 : decode cX4_treaty 1 = .ok (.aload_n 0, 1) := by decide +kernel
theorem dX4_treaty_2 : decode cX4_treaty 2 = .ok (.getfield 20, 3) := by decide +kernel
theorem dX4_treaty_5 : decode cX4_treaty 5 = .ok (.getfield 52, 3) := by decide +kernel
theorem dX4_treaty_8 : decode cX4_treaty 8 = .ok (.invokestatic 56, 3) := by decide +kernel
theorem dX4_treaty_11 : decode cX4_treaty 11 = .ok (.iload_n 2, 1) := by decide +kernel
theorem dX4_treaty_12 : decode cX4_treaty 12 = .ok (.aload_n 0, 1) := by decide +kernel
theorem dX4_treaty_13 : decode cX4_treaty 13 = .ok (.getfield 20, 3) := by decide +kernel
theorem dX4_treaty_16 : decode cX4_treaty 16 = .ok (.getfield 52, 3) := by decide +kernel
theorem dX4_treaty_19 : decode cX4_treaty 19 = .ok (.invokestatic 56, 3) := by decide +kernel
theorem dX4_treaty_22 : decode cX4_treaty 22 = .ok (.invokestatic 63, 3) := by decide +kernel
theorem dX4_treaty_25 : decode cX4_treaty 25 = .ok (.istore 4, 2) := by decide +kernel
theorem dX4_treaty_27 : decode cX4_treaty 27 = .ok (.iload 4, 2) := by decide +kernel
theorem dX4_treaty_29 : decode cX4_treaty 29 = .ok (.iload_n 1, 1) := by decide +kernel
theorem dX4_treaty_30 : decode cX4_treaty 30 = .ok (.iload_n 2, 1) := by decide +kernel
theorem dX4_treaty_31 : decode cX4_treaty 31 = .ok (.if_icmp .ne 7, 3) := by decide +kernel
theorem dX4_treaty_34 : decode cX4_treaty 34 = .ok (.iconst (-1), 1) := by decide +kernel
theorem dX4_treaty_35 : decode cX4_treaty 35 = .ok (.goto 8, 3) := by decide +kernel
theorem dX4_treaty_38 : decode cX4_treaty 38 = .ok (.iload_n 3, 1) := by decide +kernel
theorem dX4_treaty_39 : decode cX4_treaty 39 = .ok (.iconst 1, 1) := by decide +kernel
theorem dX4_treaty_40 : decode cX4_treaty 40 = .ok (.invokestatic 69, 3) := by decide +kernel
theorem dX4_treaty_43 : decode cX4_treaty 43 = .ok (.invokestatic 63, 3) := by decide +kernel
theorem dX4_treaty_46 : decode cX4_treaty 46 = .ok (.istore 4, 2) := by decide +kernel
theorem dX4_treaty_48 : decode cX4_treaty 48 = .ok (.iload 4, 2) := by decide +kernel
theorem dX4_treaty_50 : decode cX4_treaty 50 = .ok (.ifCond .eq 10, 3) := by decide +kernel
theorem dX4_treaty_53 : decode cX4_treaty 53 = .ok (.aload_n 0, 1) := by decide +kernel
theorem dX4_treaty_54 : decode cX4_treaty 54 = .ok (.iload 4, 2) := by decide +kernel
theorem dX4_treaty_56 : decode cX4_treaty 56 = .ok (.invokevirtual 76, 3) := by decide +kernel
theorem dX4_treaty_59 : decode cX4_treaty 59 = .ok (.ireturn, 1) := by decide +kernel
theorem dX4_treaty_60 : decode cX4_treaty 60 = .ok (.aload_n 0, 1) := by decide +kernel
theorem dX4_treaty_61 : decode cX4_treaty 61 = .ok (.getfield 10, 3) := by decide +kernel
theorem dX4_treaty_64 : decode cX4_treaty 64 = .ok (.iload_n 1, 1) := by decide +kernel
theorem dX4_treaty_65 : decode cX4_treaty 65 = .ok (.iload_n 2, 1) := by decide +kernel
theorem dX4_treaty_66 : decode cX4_treaty 66 = .ok (.invokevirtual 314, 3) := by decide +kernel
theorem dX4_treaty_69 : decode cX4_treaty 69 = .ok (.iload_n 3, 1) := by decide +kernel
theorem dX4_treaty_70 : decode cX4_treaty 70 = .ok (.iconst 1, 1) := by decide +kernel
theorem dX4_treaty_71 : decode cX4_treaty 71 = .ok (.if_icmp .ne 20, 3) := by decide +kernel
theorem dX4_treaty_74 : decode cX4_treaty 74 = .ok (.aload_n 0, 1) := by decide +kernel
theorem dX4_treaty_75 : decode cX4_treaty 75 = .ok (.getfield 10, 3) := by decide +kernel
theorem dX4_treaty_78 : decode cX4_treaty 78 = .ok (.iconst 0, 1) := by decide +kernel
theorem dX4_treaty_79 : decode cX4_treaty 79 = .ok (.invokevirtual 317, 3) := by decide +kernel
theorem dX4_treaty_82 : decode cX4_treaty 82 = .ok (.ifCond .eq 7, 3) := by decide +kernel
theorem dX4_treaty_85 : decode cX4_treaty 85 = .ok (.iconst 1, 1) := by decide +kernel
theorem dX4_treaty_86 : decode cX4_treaty 86 = .ok (.goto 4, 3) := by decide +kernel
theorem dX4_treaty_89 : decode cX4_treaty 89 = .ok (.iconst 0, 1) := by decide +kernel
theorem dX4_treaty_90 : decode cX4_treaty 90 = .ok (.ireturn, 1) := by decide +kernel
theorem dX4_treaty_91 : decode cX4_treaty 91 = .ok (.aload_n 0, 1) := by decide +kernel
theorem dX4_treaty_92 : decode cX4_treaty 92 = .ok (.getfield 10, 3) := by decide +kernel
theorem dX4_treaty_95 : decode cX4_treaty 95 = .ok (.invokevirtual 320, 3) := by decide +kernel
theorem dX4_treaty_98 : decode cX4_treaty 98 = .ok (.ireturn, 1) := by decide +kernel
set_option maxRecDepth 20000 in
theorem ggX4_thunder_X4_below : GoodIn wsX4_thunder wsX4_below := goodIn_r _ [7] (by decide +kernel) (by decide +kernel)
set_option maxRecDepth 20000 in
theorem gX4_thunder_X4_below : GoodIn wsX4_thunder (va_wsS RX4 323 yX4_below wsX4_below) := goodIn_app (goodIn_of _ (by decide +kernel)) ggX4_thunder_X4_below
set_option maxRecDepth 20000 in
theorem ggX4_thunder_X4_firstOf : GoodIn wsX4_thunder wsX4_firstOf := goodIn_r _ [10] (by decide +kernel) (by decide +kernel)
set_option maxRecDepth 20000 in
theorem gX4_thunder_X4_firstOf : GoodIn wsX4_thunder (va_wsS RX4 63 yX4_firstOf wsX4_firstOf) := goodIn_app (goodIn_of _ (by decide +kernel)) ggX4_thunder_X4_firstOf
set_option maxRecDepth 20000 in
theorem ggX4_thunder_X4_above : GoodIn wsX4_thunder wsX4_above := goodIn_r _ [13] (by decide +kernel) (by decide +kernel)
set_option maxRecDepth 20000 in
theorem gX4_thunder_X4_above : GoodIn wsX4_thunder (va_wsS RX4 48 yX4_above wsX4_above) := goodIn_app (goodIn_of _ (by decide +kernel)) ggX4_thunder_X4_above
set_option maxRecDepth 20000 in
theorem ggX4_thunder_X4_nobody : GoodIn wsX4_thunder wsX4_nobody := goodIn_r _ [16] (by decide +kernel) (by decide +kernel)
set_option maxRecDepth 20000 in
theorem gX4_thunder_X4_nobody : GoodIn wsX4_thunder (va_wsS RX4 56 yX4_nobody wsX4_nobody) := goodIn_app (goodIn_of _ (by decide +kernel)) ggX4_thunder_X4_nobody
set_option maxRecDepth 20000 in
theorem ggX4_thunder_X4_unknown : GoodIn wsX4_thunder wsX4_unknown := goodIn_r _ [19] (by decide +kernel) (by decide +kernel)
set_option maxRecDepth 20000 in
theorem gX4_thunder_X4_unknown : GoodIn wsX4_thunder (va_wsS RX4 69 yX4_unknown wsX4_unknown) := goodIn_app (goodIn_of _ (by decide +kernel)) ggX4_thunder_X4_unknown
set_option maxRecDepth 20000 in
theorem ggX4_thunder_X4_refuse : GoodIn wsX4_thunder wsX4_refuse := goodIn_r _ [23, 24, 122, 123, 124, 125, 126, 127, 128, 129, 130] (by decide +kernel) (by decide +kernel)
set_option maxRecDepth 20000 in
theorem gX4_thunder_X4_refuse : GoodIn wsX4_thunder (wsV RX4 76 RX4 yX4_refuse wsX4_refuse) := goodIn_app (goodIn_of _ (by decide +kernel)) ggX4_thunder_X4_refuse
set_option maxRecDepth 20000 in
theorem ggX4_thunder_X2_thunderWays : GoodIn wsX4_thunder wsX2_thunderWays := goodIn_r _ [28, 29, 30, 31, 26, 32, 33, 34, 35, 36, 37, 38, 39, 40, 41, 42, 43, 44, 45, 46, 47, 48, 49, 50, 51, 52, 53, 54, 55, 56, 57, 58, 59, 60, 61, 62, 63, 64, 65, 66, 67, 68, 69, 70, 71, 72, 73, 74, 75, 76, 77, 78, 79, 80, 81, 82, 83, 84, 85, 86, 87, 88, 89, 90, 91, 92, 93, 94, 95, 96, 97, 98, 99, 100, 101, 102, 103, 104, 105, 106, 107, 108, 109, 110, 111, 112, 113, 114, 142, 143, 144, 145, 131, 132, 133, 134, 135, 136, 137, 138, 139, 140, 141] (by decide +kernel) (by decide +kernel)
set_option maxRecDepth 20000 in
theorem gX4_thunder_X2_thunderWays_n326 : GoodIn wsX4_thunder (wsX2_thunderWays) := ggX4_thunder_X2_thunderWays
set_option maxRecDepth 20000 in
theorem ggX4_thunder_X4_inLowestTerms : GoodIn wsX4_thunder wsX4_inLowestTerms := goodIn_r _ [117, 118, 119, 120, 6, 121] (by decide +kernel) (by decide +kernel)
set_option maxRecDepth 20000 in
theorem gX4_thunder_X4_inLowestTerms : GoodIn wsX4_thunder (va_wsS RX4 241 yX4_inLowestTerms wsX4_inLowestTerms) := goodIn_app (goodIn_of _ (by decide +kernel)) ggX4_thunder_X4_inLowestTerms
theorem dX4_thunder_0 : decode cX4_thunder 0 = .ok (.iload_n 2, 1) := by decide +kernel
theorem dX4_thunder_1 : decode cX4_thunder 1 = .ok (.iconst 0, 1) := by decide +kernel
theorem dX4_thunder_2 : decode cX4_thunder 2 = .ok (.invokestatic 323, 3) := by decide +kernel
theorem dX4_thunder_5 : decode cX4_thunder 5 = .ok (.iload_n 3, 1) := by decide +kernel
theorem dX4_thunder_6 : decode cX4_thunder 6 = .ok (.iconst 2, 1) := by decide +kernel
theorem dX4_thunder_7 : decode cX4_thunder 7 = .ok (.invokestatic 323, 3) := by decide +kernel
theorem dX4_thunder_10 : decode cX4_thunder 10 = .ok (.invokestatic 63, 3) := by decide +kernel
theorem dX4_thunder_13 : decode cX4_thunder 13 = .ok (.istore 5, 2) := by decide +kernel
theorem dX4_thunder_15 : decode cX4_thunder 15 = .ok (.iload_n 2, 1) := by decide +kernel
theorem dX4_thunder_16 : decode cX4_thunder 16 = .ok (.bipush 7, 2) := by decide +kernel
theorem dX4_thunder_18 : decode cX4_thunder 18 = .ok (.invokestatic 48, 3) := by decide +kernel
theorem dX4_thunder_21 : decode cX4_thunder 21 = .ok (.iload_n 3, 1) := by decide +kernel
theorem dX4_thunder_22 : decode cX4_thunder 22 = .ok (.bipush 20, 2) := by decide +kernel
theorem dX4_thunder_24 : decode cX4_thunder 24 = .ok (.invokestatic 48, 3) := by decide +kernel
theorem dX4_thunder_27 : decode cX4_thunder 27 = .ok (.invokestatic 63, 3) := by decide +kernel
theorem dX4_thunder_30 : decode cX4_thunder 30 = .ok (.istore 6, 2) := by decide +kernel
theorem dX4_thunder_32 : decode cX4_thunder 32 = .ok (.iload_n 1, 1) := by decide +kernel
theorem dX4_thunder_33 : decode cX4_thunder 33 = .ok (.aload_n 0, 1) := by decide +kernel
theorem dX4_thunder_34 : decode cX4_thunder 34 = .ok (.getfield 20, 3) := by decide +kernel
theorem dX4_thunder_37 : decode cX4_thunder 37 = .ok (.getfield 52, 3) := by decide +kernel
theorem dX4_thunder_40 : decode cX4_thunder 40 = .ok (.invokestatic 56, 3) := by decide +kernel
theorem dX4_thunder_43 : decode cX4_thunder 43 = .ok (.iload 5, 2) := by decide +kernel
theorem dX4_thunder_45 : decode cX4_thunder 45 = .ok (.invokestatic 63, 3) := by decide +kernel
theorem dX4_thunder_48 : decode cX4_thunder 48 = .ok (.iload 6, 2) := by decide +kernel
theorem dX4_thunder_50 : decode cX4_thunder 50 = .ok (.iload 4, 2) := by decide +kernel
theorem dX4_thunder_52 : decode cX4_thunder 52 = .ok (.iconst 1, 1) := by decide +kernel
theorem dX4_thunder_53 : decode cX4_thunder 53 = .ok (.invokestatic 69, 3) := by decide +kernel
theorem dX4_thunder_56 : decode cX4_thunder 56 = .ok (.invokestatic 63, 3) := by decide +kernel
theorem dX4_thunder_59 : decode cX4_thunder 59 = .ok (.invokestatic 63, 3) := by decide +kernel
theorem dX4_thunder_62 : decode cX4_thunder 62 = .ok (.istore 7, 2) := by decide +kernel
theorem dX4_thunder_64 : decode cX4_thunder 64 = .ok (.iload 7, 2) := by decide +kernel
theorem dX4_thunder_66 : decode cX4_thunder 66 = .ok (.ifCond .eq 15, 3) := by decide +kernel
theorem dX4_thunder_69 : decode cX4_thunder 69 = .ok (.ldc2_w 236, 3) := by decide +kernel
theorem dX4_thunder_72 : decode cX4_thunder 72 = .ok (.aload_n 0, 1) := by decide +kernel
theorem dX4_thunder_73 : decode cX4_thunder 73 = .ok (.iload 7, 2) := by decide +kernel
theorem dX4_thunder_75 : decode cX4_thunder 75 = .ok (.invokevirtual 76, 3) := by decide +kernel
theorem dX4_thunder_78 : decode cX4_thunder 78 = .ok (.i2l, 1) := by decide +kernel
theorem dX4_thunder_79 : decode cX4_thunder 79 = .ok (.lsub, 1) := by decide +kernel
theorem dX4_thunder_80 : decode cX4_thunder 80 = .ok (.lreturn, 1) := by decide +kernel
theorem dX4_thunder_81 : decode cX4_thunder 81 = .ok (.lconst 1, 1) := by decide +kernel
theorem dX4_thunder_82 : decode cX4_thunder 82 = .ok (.lstore 8, 2) := by decide +kernel
theorem dX4_thunder_84 : decode cX4_thunder 84 = .ok (.iconst 0, 1) := by decide +kernel
theorem dX4_thunder_85 : decode cX4_thunder 85 = .ok (.istore 10, 2) := by decide +kernel
theorem dX4_thunder_87 : decode cX4_thunder 87 = .ok (.iload 10, 2) := by decide +kernel
theorem dX4_thunder_89 : decode cX4_thunder 89 = .ok (.iload_n 2, 1) := by decide +kernel
theorem dX4_thunder_90 : decode cX4_thunder 90 = .ok (.if_icmp .ge 16, 3) := by decide +kernel
theorem dX4_thunder_93 : decode cX4_thunder 93 = .ok (.lload 8, 2) := by decide +kernel
theorem dX4_thunder_95 : decode cX4_thunder 95 = .ok (.iload_n 3, 1) := by decide +kernel
theorem dX4_thunder_96 : decode cX4_thunder 96 = .ok (.i2l, 1) := by decide +kernel
theorem dX4_thunder_97 : decode cX4_thunder 97 = .ok (.lmul, 1) := by decide +kernel
theorem dX4_thunder_98 : decode cX4_thunder 98 = .ok (.lstore 8, 2) := by decide +kernel
theorem dX4_thunder_100 : decode cX4_thunder 100 = .ok (.iinc 10 1, 3) := by decide +kernel
theorem dX4_thunder_103 : decode cX4_thunder 103 = .ok (.goto (-16), 3) := by decide +kernel
theorem dX4_thunder_106 : decode cX4_thunder 106 = .ok (.aload_n 0, 1) := by decide +kernel
theorem dX4_thunder_107 : decode cX4_thunder 107 = .ok (.getfield 10, 3) := by decide +kernel
theorem dX4_thunder_110 : decode cX4_thunder 110 = .ok (.iload_n 1, 1) := by decide +kernel
theorem dX4_thunder_111 : decode cX4_thunder 111 = .ok (.iload_n 2, 1) := by decide +kernel
theorem dX4_thunder_112 : decode cX4_thunder 112 = .ok (.iload_n 3, 1) := by decide +kernel
theorem dX4_thunder_113 : decode cX4_thunder 113 = .ok (.invokevirtual 326, 3) := by decide +kernel
theorem dX4_thunder_116 : decode cX4_thunder 116 = .ok (.lload 8, 2) := by decide +kernel
theorem dX4_thunder_118 : decode cX4_thunder 118 = .ok (.iload 4, 2) := by decide +kernel
theorem dX4_thunder_120 : decode cX4_thunder 120 = .ok (.invokestatic 241, 3) := by decide +kernel
theorem dX4_thunder_123 : decode cX4_thunder 123 = .ok (.lreturn, 1) := by decide +kernel
set_option maxRecDepth 20000 in
theorem ggX4_lots_X4_outside : GoodIn wsX4_lots wsX4_outside := goodIn_r _ [5, 6, 7, 4, 8] (by decide +kernel) (by decide +kernel)
set_option maxRecDepth 20000 in
theorem gX4_lots_X4_outside : GoodIn wsX4_lots (va_wsS RX4 59 yX4_outside wsX4_outside) := goodIn_app (goodIn_of _ (by decide +kernel)) ggX4_lots_X4_outside
set_option maxRecDepth 20000 in
theorem ggX4_lots_X4_unknown : GoodIn wsX4_lots wsX4_unknown := goodIn_r _ [11] (by decide +kernel) (by decide +kernel)
set_option maxRecDepth 20000 in
theorem gX4_lots_X4_unknown : GoodIn wsX4_lots (va_wsS RX4 69 yX4_unknown wsX4_unknown) := goodIn_app (goodIn_of _ (by decide +kernel)) ggX4_lots_X4_unknown
set_option maxRecDepth 20000 in
theorem ggX4_lots_X4_firstOf : GoodIn wsX4_lots wsX4_firstOf := goodIn_r _ [14] (by decide +kernel) (by decide +kernel)
set_option maxRecDepth 20000 in
theorem gX4_lots_X4_firstOf : GoodIn wsX4_lots (va_wsS RX4 63 yX4_firstOf wsX4_firstOf) := goodIn_app (goodIn_of _ (by decide +kernel)) ggX4_lots_X4_firstOf
set_option maxRecDepth 20000 in
theorem ggX4_lots_X4_refuse : GoodIn wsX4_lots wsX4_refuse := goodIn_r _ [18, 19, 132, 133, 134, 135, 136, 137, 138, 139, 140] (by decide +kernel) (by decide +kernel)
set_option maxRecDepth 20000 in
theorem gX4_lots_X4_refuse : GoodIn wsX4_lots (wsV RX4 76 RX4 yX4_refuse wsX4_refuse) := goodIn_app (goodIn_of _ (by decide +kernel)) ggX4_lots_X4_refuse
set_option maxRecDepth 20000 in
theorem ggX4_lots_X2_drawLots : GoodIn wsX4_lots wsX2_drawLots := goodIn_r _ [23, 24, 25, 26, 27, 28, 21, 29, 30, 31, 32, 33, 34, 35, 36, 37, 38, 39, 40, 41, 42, 43, 44, 45, 46, 47, 48, 49, 50, 51, 52, 53, 54, 55, 56, 57, 58, 59, 60, 61, 62, 63, 64, 65, 66, 67, 68, 69, 70, 71, 72, 73, 74, 75, 76, 77, 78, 79, 80, 81, 82, 83, 84, 85, 86, 87, 88, 89, 90, 91, 92, 93, 94, 95, 96, 97, 98, 99, 100, 101, 102, 103, 104, 105, 106, 107, 108, 109, 110, 111, 112, 113, 114, 115, 116, 117, 118, 119, 120, 121, 122, 123, 124, 125, 126, 127, 128, 129, 130, 131, 141, 142, 143, 144, 145, 146, 147, 148, 149, 150, 151, 152, 153, 154, 155] (by decide +kernel) (by decide +kernel)
set_option maxRecDepth 20000 in
theorem gX4_lots_X2_drawLots_n330 : GoodIn wsX4_lots (wsX2_drawLots) := ggX4_lots_X2_drawLots
theorem dX4_lots_0 : decode cX4_lots 0 = .ok (.iload_n 1, 1) := by decide +kernel
theorem dX4_lots_1 : decode cX4_lots 1 = .ok (.iconst 1, 1) := by decide +kernel
theorem dX4_lots_2 : decode cX4_lots 2 = .ok (.bipush 20, 2) := by decide +kernel
theorem dX4_lots_4 : decode cX4_lots 4 = .ok (.invokestatic 59, 3) := by decide +kernel
theorem dX4_lots_7 : decode cX4_lots 7 = .ok (.iload_n 3, 1) := by decide +kernel
theorem dX4_lots_8 : decode cX4_lots 8 = .ok (.iconst 1, 1) := by decide +kernel
theorem dX4_lots_9 : decode cX4_lots 9 = .ok (.invokestatic 69, 3) := by decide +kernel
theorem dX4_lots_12 : decode cX4_lots 12 = .ok (.invokestatic 63, 3) := by decide +kernel
theorem dX4_lots_15 : decode cX4_lots 15 = .ok (.istore 4, 2) := by decide +kernel
theorem dX4_lots_17 : decode cX4_lots 17 = .ok (.iload 4, 2) := by decide +kernel
theorem dX4_lots_19 : decode cX4_lots 19 = .ok (.ifCond .eq 12, 3) := by decide +kernel
theorem dX4_lots_22 : decode cX4_lots 22 = .ok (.aload_n 0, 1) := by decide +kernel
theorem dX4_lots_23 : decode cX4_lots 23 = .ok (.iload 4, 2) := by decide +kernel
theorem dX4_lots_25 : decode cX4_lots 25 = .ok (.invokevirtual 76, 3) := by decide +kernel
theorem dX4_lots_28 : decode cX4_lots 28 = .ok (.goto 13, 3) := by decide +kernel
theorem dX4_lots_31 : decode cX4_lots 31 = .ok (.aload_n 0, 1) := by decide +kernel
theorem dX4_lots_32 : decode cX4_lots 32 = .ok (.getfield 10, 3) := by decide +kernel
theorem dX4_lots_35 : decode cX4_lots 35 = .ok (.iload_n 1, 1) := by decide +kernel
theorem dX4_lots_36 : decode cX4_lots 36 = .ok (.iload_n 2, 1) := by decide +kernel
theorem dX4_lots_37 : decode cX4_lots 37 = .ok (.iload_n 3, 1) := by decide +kernel
theorem dX4_lots_38 : decode cX4_lots 38 = .ok (.invokevirtual 330, 3) := by decide +kernel
theorem dX4_lots_41 : decode cX4_lots 41 = .ok (.ireturn, 1) := by decide +kernel
set_option maxRecDepth 20000 in
theorem ggX4_row_X4_outside : GoodIn wsX4_row wsX4_outside := goodIn_r _ [6, 7, 8, 5, 9] (by decide +kernel) (by decide +kernel)
set_option maxRecDepth 20000 in
theorem gX4_row_X4_outside : GoodIn wsX4_row (va_wsS RX4 59 yX4_outside wsX4_outside) := goodIn_app (goodIn_of _ (by decide +kernel)) ggX4_row_X4_outside
set_option maxRecDepth 20000 in
theorem ggX4_row_X4_firstOf : GoodIn wsX4_row wsX4_firstOf := goodIn_r _ [12] (by decide +kernel) (by decide +kernel)
set_option maxRecDepth 20000 in
theorem gX4_row_X4_firstOf : GoodIn wsX4_row (va_wsS RX4 63 yX4_firstOf wsX4_firstOf) := goodIn_app (goodIn_of _ (by decide +kernel)) ggX4_row_X4_firstOf
set_option maxRecDepth 20000 in
theorem ggX4_row_X4_refuse : GoodIn wsX4_row wsX4_refuse := goodIn_r _ [16, 17, 18, 19, 20, 21, 22, 23, 24, 25, 26] (by decide +kernel) (by decide +kernel)
set_option maxRecDepth 20000 in
theorem gX4_row_X4_refuse : GoodIn wsX4_row (wsV RX4 76 RX4 yX4_refuse wsX4_refuse) := goodIn_app (goodIn_of _ (by decide +kernel)) ggX4_row_X4_refuse
theorem dX4_row_0 : decode cX4_row 0 = .ok (.iload_n 1, 1) := by decide +kernel
theorem dX4_row_1 : decode cX4_row 1 = .ok (.iconst 0, 1) := by decide +kernel
theorem dX4_row_2 : decode cX4_row 2 = .ok (.bipush 99, 2) := by decide +kernel
theorem dX4_row_4 : decode cX4_row 4 = .ok (.invokestatic 59, 3) := by decide +kernel
theorem dX4_row_7 : decode cX4_row 7 = .ok (.aload_n 0, 1) := by decide +kernel
theorem dX4_row_8 : decode cX4_row 8 = .ok (.getfield 164, 3) := by decide +kernel
theorem dX4_row_11 : decode cX4_row 11 = .ok (.bipush 12, 2) := by decide +kernel
theorem dX4_row_13 : decode cX4_row 13 = .ok (.if_icmp .lt 8, 3) := by decide +kernel
theorem dX4_row_16 : decode cX4_row 16 = .ok (.bipush (-6), 2) := by decide +kernel
theorem dX4_row_18 : decode cX4_row 18 = .ok (.goto 4, 3) := by decide +kernel
theorem dX4_row_21 : decode cX4_row 21 = .ok (.iconst 0, 1) := by decide +kernel
theorem dX4_row_22 : decode cX4_row 22 = .ok (.invokestatic 63, 3) := by decide +kernel
theorem dX4_row_25 : decode cX4_row 25 = .ok (.istore_n 2, 1) := by decide +kernel
theorem dX4_row_26 : decode cX4_row 26 = .ok (.iload_n 2, 1) := by decide +kernel
theorem dX4_row_27 : decode cX4_row 27 = .ok (.ifCond .eq 9, 3) := by decide +kernel
theorem dX4_row_30 : decode cX4_row 30 = .ok (.aload_n 0, 1) := by decide +kernel
theorem dX4_row_31 : decode cX4_row 31 = .ok (.iload_n 2, 1) := by decide +kernel
theorem dX4_row_32 : decode cX4_row 32 = .ok (.invokevirtual 76, 3) := by decide +kernel
theorem dX4_row_35 : decode cX4_row 35 = .ok (.ireturn, 1) := by decide +kernel
theorem dX4_row_36 : decode cX4_row 36 = .ok (.aload_n 0, 1) := by decide +kernel
theorem dX4_row_37 : decode cX4_row 37 = .ok (.getfield 41, 3) := by decide +kernel
theorem dX4_row_40 : decode cX4_row 40 = .ok (.aload_n 0, 1) := by decide +kernel
theorem dX4_row_41 : decode cX4_row 41 = .ok (.getfield 164, 3) := by decide +kernel
theorem dX4_row_44 : decode cX4_row 44 = .ok (.iload_n 1, 1) := by decide +kernel
theorem dX4_row_45 : decode cX4_row 45 = .ok (.iastore, 1) := by decide +kernel
theorem dX4_row_46 : decode cX4_row 46 = .ok (.aload_n 0, 1) := by decide +kernel
theorem dX4_row_47 : decode cX4_row 47 = .ok (.dup, 1) := by decide +kernel
theorem dX4_row_48 : decode cX4_row 48 = .ok (.getfield 164, 3) := by decide +kernel
theorem dX4_row_51 : decode cX4_row 51 = .ok (.iconst 1, 1) := by decide +kernel
theorem dX4_row_52 : decode cX4_row 52 = .ok (.iadd, 1) := by decide +kernel
theorem dX4_row_53 : decode cX4_row 53 = .ok (.putfield 164, 3) := by decide +kernel
theorem dX4_row_56 : decode cX4_row 56 = .ok (.aload_n 0, 1) := by decide +kernel
theorem dX4_row_57 : decode cX4_row 57 = .ok (.getfield 164, 3) := by decide +kernel
theorem dX4_row_60 : decode cX4_row 60 = .ok (.ireturn, 1) := by decide +kernel
set_option maxRecDepth 20000 in
theorem ggX4_judge_X2_firstWrong : GoodIn wsX4_judge wsX2_firstWrong := goodIn_r _ [7, 8, 9, 10, 5, 11, 12, 13, 14, 15, 16, 17, 18, 19, 20, 21, 22, 23, 24, 25, 26, 27, 28, 29, 30, 31, 32, 33, 34, 35, 36, 37, 38, 39, 40, 41, 42, 43, 44, 45, 46, 47, 48, 49, 50, 51, 52, 53, 54, 55, 56, 57, 58, 59, 60, 61, 62, 63, 64, 65, 66, 67, 68, 69, 70, 71, 72, 73, 74, 75, 76, 77, 78, 79, 80, 81, 82, 83, 84, 85, 86, 87, 88, 89, 90, 91, 92, 93, 103, 104, 105, 106, 107, 108, 109, 110, 111, 112, 113, 114, 115, 116, 117] (by decide +kernel) (by decide +kernel)
set_option maxRecDepth 20000 in
theorem gX4_judge_X2_firstWrong_n333 : GoodIn wsX4_judge (wsX2_firstWrong) := ggX4_judge_X2_firstWrong
theorem dX4_judge_0 : decode cX4_judge 0 = .ok (.aload_n 0, 1) := by decide +kernel
theorem dX4_judge_1 : decode cX4_judge 1 = .ok (.getfield 10, 3) := by decide +kernel
theorem dX4_judge_4 : decode cX4_judge 4 = .ok (.aload_n 0, 1) := by decide +kernel
theorem dX4_judge_5 : decode cX4_judge 5 = .ok (.getfield 41, 3) := by decide +kernel
theorem dX4_judge_8 : decode cX4_judge 8 = .ok (.aload_n 0, 1) := by decide +kernel
theorem dX4_judge_9 : decode cX4_judge 9 = .ok (.getfield 164, 3) := by decide +kernel
theorem dX4_judge_12 : decode cX4_judge 12 = .ok (.invokevirtual 333, 3) := by decide +kernel
theorem dX4_judge_15 : decode cX4_judge 15 = .ok (.istore_n 1, 1) := by decide +kernel
theorem dX4_judge_16 : decode cX4_judge 16 = .ok (.aload_n 0, 1) := by decide +kernel
theorem dX4_judge_17 : decode cX4_judge 17 = .ok (.iconst 0, 1) := by decide +kernel
theorem dX4_judge_18 : decode cX4_judge 18 = .ok (.putfield 164, 3) := by decide +kernel
theorem dX4_judge_21 : decode cX4_judge 21 = .ok (.iload_n 1, 1) := by decide +kernel
theorem dX4_judge_22 : decode cX4_judge 22 = .ok (.ireturn, 1) := by decide +kernel
theorem dX4_clear_0 : decode cX4_clear 0 = .ok (.aload_n 0, 1) := by decide +kernel
theorem dX4_clear_1 : decode cX4_clear 1 = .ok (.getfield 164, 3) := by decide +kernel
theorem dX4_clear_4 : decode cX4_clear 4 = .ok (.istore_n 1, 1) := by decide +kernel
theorem dX4_clear_5 : decode cX4_clear 5 = .ok (.aload_n 0, 1) := by decide +kernel
theorem dX4_clear_6 : decode cX4_clear 6 = .ok (.iconst 0, 1) := by decide +kernel
theorem dX4_clear_7 : decode cX4_clear 7 = .ok (.putfield 164, 3) := by decide +kernel
theorem dX4_clear_10 : decode cX4_clear 10 = .ok (.iload_n 1, 1) := by decide +kernel
theorem dX4_clear_11 : decode cX4_clear 11 = .ok (.ireturn, 1) := by decide +kernel
set_option maxRecDepth 20000 in
theorem ggX4_which_X4_nobody : GoodIn wsX4_which wsX4_nobody := goodIn_r _ [8] (by decide +kernel) (by decide +kernel)
set_option maxRecDepth 20000 in
theorem gX4_which_X4_nobody : GoodIn wsX4_which (va_wsS RX4 56 yX4_nobody wsX4_nobody) := goodIn_app (goodIn_of _ (by decide +kernel)) ggX4_which_X4_nobody
set_option maxRecDepth 20000 in
theorem ggX4_which_X4_unknown : GoodIn wsX4_which wsX4_unknown := goodIn_r _ [11] (by decide +kernel) (by decide +kernel)
set_option maxRecDepth 20000 in
theorem gX4_which_X4_unknown : GoodIn wsX4_which (va_wsS RX4 69 yX4_unknown wsX4_unknown) := goodIn_app (goodIn_of _ (by decide +kernel)) ggX4_which_X4_unknown
set_option maxRecDepth 20000 in
theorem ggX4_which_X4_firstOf : GoodIn wsX4_which wsX4_firstOf := goodIn_r _ [14] (by decide +kernel) (by decide +kernel)
set_option maxRecDepth 20000 in
theorem gX4_which_X4_firstOf : GoodIn wsX4_which (va_wsS RX4 63 yX4_firstOf wsX4_firstOf) := goodIn_app (goodIn_of _ (by decide +kernel)) ggX4_which_X4_firstOf
set_option maxRecDepth 20000 in
theorem ggX4_which_X4_refuse : GoodIn wsX4_which wsX4_refuse := goodIn_r _ [18, 19, 114, 115, 116, 117, 118, 119, 120, 121, 122] (by decide +kernel) (by decide +kernel)
set_option maxRecDepth 20000 in
theorem gX4_which_X4_refuse : GoodIn wsX4_which (wsV RX4 76 RX4 yX4_refuse wsX4_refuse) := goodIn_app (goodIn_of _ (by decide +kernel)) ggX4_which_X4_refuse
set_option maxRecDepth 20000 in
theorem ggX4_which_X2_guessBits : GoodIn wsX4_which wsX2_guessBits := goodIn_r _ [23, 24, 25, 26, 21, 27, 28, 29, 30, 31, 32, 33, 34, 35, 36, 37, 38, 39, 40, 41, 42, 43, 44, 45, 46, 47, 48, 49, 50, 51, 52, 53, 54, 55, 56, 57, 58, 59, 60, 61, 62, 63, 64, 65, 66, 67, 68, 69, 70, 71, 72, 73, 74, 75, 76, 77, 78, 79, 80, 81, 82, 83, 84, 85, 86, 87, 88, 89, 90, 91, 92, 93, 94, 95, 96, 97, 98, 99, 100, 101, 102, 103, 104, 105, 106, 107, 108, 109, 110, 111, 112, 113, 123, 124, 125, 126, 127, 128, 129, 130, 131, 132, 133, 134, 135, 136, 137] (by decide +kernel) (by decide +kernel)
set_option maxRecDepth 20000 in
theorem gX4_which_X2_guessBits_n337 : GoodIn wsX4_which (wsX2_guessBits) := ggX4_which_X2_guessBits
theorem dX4_which_0 : decode cX4_which 0 = .ok (.iload_n 1, 1) := by decide +kernel
theorem dX4_which_1 : decode cX4_which 1 = .ok (.aload_n 0, 1) := by decide +kernel
theorem dX4_which_2 : decode cX4_which 2 = .ok (.getfield 20, 3) := by decide +kernel
theorem dX4_which_5 : decode cX4_which 5 = .ok (.getfield 52, 3) := by decide +kernel
theorem dX4_which_8 : decode cX4_which 8 = .ok (.invokestatic 56, 3) := by decide +kernel
theorem dX4_which_11 : decode cX4_which 11 = .ok (.iload_n 2, 1) := by decide +kernel
theorem dX4_which_12 : decode cX4_which 12 = .ok (.iconst 2, 1) := by decide +kernel
theorem dX4_which_13 : decode cX4_which 13 = .ok (.invokestatic 69, 3) := by decide +kernel
theorem dX4_which_16 : decode cX4_which 16 = .ok (.invokestatic 63, 3) := by decide +kernel
theorem dX4_which_19 : decode cX4_which 19 = .ok (.istore_n 3, 1) := by decide +kernel
theorem dX4_which_20 : decode cX4_which 20 = .ok (.iload_n 3, 1) := by decide +kernel
theorem dX4_which_21 : decode cX4_which 21 = .ok (.ifCond .eq 9, 3) := by decide +kernel
theorem dX4_which_24 : decode cX4_which 24 = .ok (.aload_n 0, 1) := by decide +kernel
theorem dX4_which_25 : decode cX4_which 25 = .ok (.iload_n 3, 1) := by decide +kernel
theorem dX4_which_26 : decode cX4_which 26 = .ok (.invokevirtual 76, 3) := by decide +kernel
theorem dX4_which_29 : decode cX4_which 29 = .ok (.ireturn, 1) := by decide +kernel
theorem dX4_which_30 : decode cX4_which 30 = .ok (.iload_n 2, 1) := by decide +kernel
theorem dX4_which_31 : decode cX4_which 31 = .ok (.lookupswitch 64 #[(0, 25), (1, 44)], 25) := by decide +kernel
theorem dX4_which_56 : decode cX4_which 56 = .ok (.aload_n 0, 1) := by decide +kernel
theorem dX4_which_57 : decode cX4_which 57 = .ok (.getfield 10, 3) := by decide +kernel
theorem dX4_which_60 : decode cX4_which 60 = .ok (.iload_n 1, 1) := by decide +kernel
theorem dX4_which_61 : decode cX4_which 61 = .ok (.iload_n 2, 1) := by decide +kernel
theorem dX4_which_62 : decode cX4_which 62 = .ok (.iconst 5, 1) := by decide +kernel
theorem dX4_which_63 : decode cX4_which 63 = .ok (.aload_n 0, 1) := by decide +kernel
theorem dX4_which_64 : decode cX4_which 64 = .ok (.getfield 41, 3) := by decide +kernel
theorem dX4_which_67 : decode cX4_which 67 = .ok (.aload_n 0, 1) := by decide +kernel
theorem dX4_which_68 : decode cX4_which 68 = .ok (.getfield 164, 3) := by decide +kernel
theorem dX4_which_71 : decode cX4_which 71 = .ok (.invokevirtual 337, 3) := by decide +kernel
theorem dX4_which_74 : decode cX4_which 74 = .ok (.ireturn, 1) := by decide +kernel
theorem dX4_which_75 : decode cX4_which 75 = .ok (.aload_n 0, 1) := by decide +kernel
theorem dX4_which_76 : decode cX4_which 76 = .ok (.getfield 10, 3) := by decide +kernel
theorem dX4_which_79 : decode cX4_which 79 = .ok (.iload_n 1, 1) := by decide +kernel
theorem dX4_which_80 : decode cX4_which 80 = .ok (.iload_n 2, 1) := by decide +kernel
theorem dX4_which_81 : decode cX4_which 81 = .ok (.bipush 9, 2) := by decide +kernel
theorem dX4_which_83 : decode cX4_which 83 = .ok (.aload_n 0, 1) := by decide +kernel
theorem dX4_which_84 : decode cX4_which 84 = .ok (.getfield 41, 3) := by decide +kernel
theorem dX4_which_87 : decode cX4_which 87 = .ok (.aload_n 0, 1) := by decide +kernel
theorem dX4_which_88 : decode cX4_which 88 = .ok (.getfield 164, 3) := by decide +kernel
theorem dX4_which_91 : decode cX4_which 91 = .ok (.invokevirtual 337, 3) := by decide +kernel
theorem dX4_which_94 : decode cX4_which 94 = .ok (.ireturn, 1) := by decide +kernel
theorem dX4_which_95 : decode cX4_which 95 = .ok (.aload_n 0, 1) := by decide +kernel
theorem dX4_which_96 : decode cX4_which 96 = .ok (.getfield 10, 3) := by decide +kernel
theorem dX4_which_99 : decode cX4_which 99 = .ok (.iload_n 1, 1) := by decide +kernel
theorem dX4_which_100 : decode cX4_which 100 = .ok (.iload_n 2, 1) := by decide +kernel
theorem dX4_which_101 : decode cX4_which 101 = .ok (.iconst 5, 1) := by decide +kernel
theorem dX4_which_102 : decode cX4_which 102 = .ok (.aload_n 0, 1) := by decide +kernel
theorem dX4_which_103 : decode cX4_which 103 = .ok (.getfield 41, 3) := by decide +kernel
theorem dX4_which_106 : decode cX4_which 106 = .ok (.aload_n 0, 1) := by decide +kernel
theorem dX4_which_107 : decode cX4_which 107 = .ok (.getfield 164, 3) := by decide +kernel
theorem dX4_which_110 : decode cX4_which 110 = .ok (.invokevirtual 337, 3) := by decide +kernel
theorem dX4_which_113 : decode cX4_which 113 = .ok (.ireturn, 1) := by decide +kernel
set_option maxRecDepth 20000 in
theorem ggX4_inLowestTerms_X4_commonDivisor : GoodIn wsX4_inLowestTerms wsX4_commonDivisor := goodIn_r _ [5] (by decide +kernel) (by decide +kernel)
set_option maxRecDepth 20000 in
theorem gX4_inLowestTerms_X4_commonDivisor : GoodIn wsX4_inLowestTerms (va_wsS RX4 341 yX4_commonDivisor wsX4_commonDivisor) := goodIn_app (goodIn_of _ (by decide +kernel)) ggX4_inLowestTerms_X4_commonDivisor
theorem dX4_inLowestTerms_0 : decode cX4_inLowestTerms 0 = .ok (.lload_n 0, 1) := by decide +kernel
theorem dX4_inLowestTerms_1 : decode cX4_inLowestTerms 1 = .ok (.lload_n 2, 1) := by decide +kernel
theorem dX4_inLowestTerms_2 : decode cX4_inLowestTerms 2 = .ok (.invokestatic 341, 3) := by decide +kernel
theorem dX4_inLowestTerms_5 : decode cX4_inLowestTerms 5 = .ok (.lstore 5, 2) := by decide +kernel
theorem dX4_inLowestTerms_7 : decode cX4_inLowestTerms 7 = .ok (.lload 5, 2) := by decide +kernel
theorem dX4_inLowestTerms_9 : decode cX4_inLowestTerms 9 = .ok (.lconst 1, 1) := by decide +kernel
theorem dX4_inLowestTerms_10 : decode cX4_inLowestTerms 10 = .ok (.lcmp, 1) := by decide +kernel
theorem dX4_inLowestTerms_11 : decode cX4_inLowestTerms 11 = .ok (.ifCond .ge 7, 3) := by decide +kernel
theorem dX4_inLowestTerms_14 : decode cX4_inLowestTerms 14 = .ok (.ldc2_w 345, 3) := by decide +kernel
theorem dX4_inLowestTerms_17 : decode cX4_inLowestTerms 17 = .ok (.lreturn, 1) := by decide +kernel
theorem dX4_inLowestTerms_18 : decode cX4_inLowestTerms 18 = .ok (.iload 4, 2) := by decide +kernel
theorem dX4_inLowestTerms_20 : decode cX4_inLowestTerms 20 = .ok (.ifCond .ne 7, 3) := by decide +kernel
theorem dX4_inLowestTerms_23 : decode cX4_inLowestTerms 23 = .ok (.lload_n 0, 1) := by decide +kernel
theorem dX4_inLowestTerms_24 : decode cX4_inLowestTerms 24 = .ok (.goto 4, 3) := by decide +kernel
theorem dX4_inLowestTerms_27 : decode cX4_inLowestTerms 27 = .ok (.lload_n 2, 1) := by decide +kernel
theorem dX4_inLowestTerms_28 : decode cX4_inLowestTerms 28 = .ok (.lload 5, 2) := by decide +kernel
theorem dX4_inLowestTerms_30 : decode cX4_inLowestTerms 30 = .ok (.ldiv, 1) := by decide +kernel
theorem dX4_inLowestTerms_31 : decode cX4_inLowestTerms 31 = .ok (.lreturn, 1) := by decide +kernel
theorem dX4_commonDivisor_0 : decode cX4_commonDivisor 0 = .ok (.iconst 0, 1) := by decide +kernel
theorem dX4_commonDivisor_1 : decode cX4_commonDivisor 1 = .ok (.istore 4, 2) := by decide +kernel
theorem dX4_commonDivisor_3 : decode cX4_commonDivisor 3 = .ok (.iload 4, 2) := by decide +kernel
theorem dX4_commonDivisor_5 : decode cX4_commonDivisor 5 = .ok (.sipush 128, 3) := by decide +kernel
theorem dX4_commonDivisor_8 : decode cX4_commonDivisor 8 = .ok (.if_icmp .ge 25, 3) := by decide +kernel
theorem dX4_commonDivisor_11 : decode cX4_commonDivisor 11 = .ok (.lload_n 2, 1) := by decide +kernel
theorem dX4_commonDivisor_12 : decode cX4_commonDivisor 12 = .ok (.lconst 0, 1) := by decide +kernel
theorem dX4_commonDivisor_13 : decode cX4_commonDivisor 13 = .ok (.lcmp, 1) := by decide +kernel
theorem dX4_commonDivisor_14 : decode cX4_commonDivisor 14 = .ok (.ifCond .eq 19, 3) := by decide +kernel
theorem dX4_commonDivisor_17 : decode cX4_commonDivisor 17 = .ok (.lload_n 0, 1) := by decide +kernel
theorem dX4_commonDivisor_18 : decode cX4_commonDivisor 18 = .ok (.lload_n 2, 1) := by decide +kernel
theorem dX4_commonDivisor_19 : decode cX4_commonDivisor 19 = .ok (.lrem, 1) := by decide +kernel
theorem dX4_commonDivisor_20 : decode cX4_commonDivisor 20 = .ok (.lstore 5, 2) := by decide +kernel
theorem dX4_commonDivisor_22 : decode cX4_commonDivisor 22 = .ok (.lload_n 2, 1) := by decide +kernel
theorem dX4_commonDivisor_23 : decode cX4_commonDivisor 23 = .ok (.lstore_n 0, 1) := by decide +kernel
theorem dX4_commonDivisor_24 : decode cX4_commonDivisor 24 = .ok (.lload 5, 2) := by decide +kernel
theorem dX4_commonDivisor_26 : decode cX4_commonDivisor 26 = .ok (.lstore_n 2, 1) := by decide +kernel
theorem dX4_commonDivisor_27 : decode cX4_commonDivisor 27 = .ok (.iinc 4 1, 3) := by decide +kernel
theorem dX4_commonDivisor_30 : decode cX4_commonDivisor 30 = .ok (.goto (-27), 3) := by decide +kernel
theorem dX4_commonDivisor_33 : decode cX4_commonDivisor 33 = .ok (.lload_n 0, 1) := by decide +kernel
theorem dX4_commonDivisor_34 : decode cX4_commonDivisor 34 = .ok (.lreturn, 1) := by decide +kernel
theorem dX5_init_0 : decode cX5_init 0 = .ok (.aload_n 0, 1) := by decide +kernel
theorem dX5_init_1 : decode cX5_init 1 = .ok (.invokespecial 1, 3) := by decide +kernel
theorem dX5_init_4 : decode cX5_init 4 = .ok (.aload_n 0, 1) := by decide +kernel
theorem dX5_init_5 : decode cX5_init 5 = .ok (.bipush 7, 2) := by decide +kernel
theorem dX5_init_7 : decode cX5_init 7 = .ok (.newarray .int, 2) := by decide +kernel
theorem dX5_init_9 : decode cX5_init 9 = .ok (.putfield 7, 3) := by decide +kernel
theorem dX5_init_12 : decode cX5_init 12 = .ok (.aload_n 0, 1) := by decide +kernel
theorem dX5_init_13 : decode cX5_init 13 = .ok (.bipush 7, 2) := by decide +kernel
theorem dX5_init_15 : decode cX5_init 15 = .ok (.newarray .int, 2) := by decide +kernel
theorem dX5_init_17 : decode cX5_init 17 = .ok (.putfield 13, 3) := by decide +kernel
theorem dX5_init_20 : decode cX5_init 20 = .ok (.aload_n 0, 1) := by decide +kernel
theorem dX5_init_21 : decode cX5_init 21 = .ok (.bipush 7, 2) := by decide +kernel
theorem dX5_init_23 : decode cX5_init 23 = .ok (.newarray .int, 2) := by decide +kernel
theorem dX5_init_25 : decode cX5_init 25 = .ok (.putfield 16, 3) := by decide +kernel
theorem dX5_init_28 : decode cX5_init 28 = .ok (.aload_n 0, 1) := by decide +kernel
theorem dX5_init_29 : decode cX5_init 29 = .ok (.bipush 7, 2) := by decide +kernel
theorem dX5_init_31 : decode cX5_init 31 = .ok (.newarray .int, 2) := by decide +kernel
theorem dX5_init_33 : decode cX5_init 33 = .ok (.putfield 19, 3) := by decide +kernel
theorem dX5_init_36 : decode cX5_init 36 = .ok (.aload_n 0, 1) := by decide +kernel
theorem dX5_init_37 : decode cX5_init 37 = .ok (.bipush 7, 2) := by decide +kernel
theorem dX5_init_39 : decode cX5_init 39 = .ok (.newarray .int, 2) := by decide +kernel
theorem dX5_init_41 : decode cX5_init 41 = .ok (.putfield 22, 3) := by decide +kernel
theorem dX5_init_44 : decode cX5_init 44 = .ok (.aload_n 0, 1) := by decide +kernel
theorem dX5_init_45 : decode cX5_init 45 = .ok (.bipush 7, 2) := by decide +kernel
theorem dX5_init_47 : decode cX5_init 47 = .ok (.newarray .int, 2) := by decide +kernel
theorem dX5_init_49 : decode cX5_init 49 = .ok (.putfield 25, 3) := by decide +kernel
theorem dX5_init_52 : decode cX5_init 52 = .ok (.aload_n 0, 1) := by decide +kernel
theorem dX5_init_53 : decode cX5_init 53 = .ok (.bipush 96, 2) := by decide +kernel
theorem dX5_init_55 : decode cX5_init 55 = .ok (.newarray .int, 2) := by decide +kernel
theorem dX5_init_57 : decode cX5_init 57 = .ok (.putfield 28, 3) := by decide +kernel
theorem dX5_init_60 : decode cX5_init 60 = .ok (.aload_n 0, 1) := by decide +kernel
theorem dX5_init_61 : decode cX5_init 61 = .ok (.bipush 48, 2) := by decide +kernel
theorem dX5_init_63 : decode cX5_init 63 = .ok (.newarray .int, 2) := by decide +kernel
theorem dX5_init_65 : decode cX5_init 65 = .ok (.putfield 31, 3) := by decide +kernel
theorem dX5_init_68 : decode cX5_init 68 = .ok (.aload_n 0, 1) := by decide +kernel
theorem dX5_init_69 : decode cX5_init 69 = .ok (.bipush 48, 2) := by decide +kernel
theorem dX5_init_71 : decode cX5_init 71 = .ok (.newarray .int, 2) := by decide +kernel
theorem dX5_init_73 : decode cX5_init 73 = .ok (.putfield 34, 3) := by decide +kernel
theorem dX5_init_76 : decode cX5_init 76 = .ok (.aload_n 0, 1) := by decide +kernel
theorem dX5_init_77 : decode cX5_init 77 = .ok (.sipush 144, 3) := by decide +kernel
theorem dX5_init_80 : decode cX5_init 80 = .ok (.newarray .int, 2) := by decide +kernel
theorem dX5_init_82 : decode cX5_init 82 = .ok (.putfield 37, 3) := by decide +kernel
theorem dX5_init_85 : decode cX5_init 85 = .ok (.aload_n 0, 1) := by decide +kernel
theorem dX5_init_86 : decode cX5_init 86 = .ok (.sipush 451, 3) := by decide +kernel
theorem dX5_init_89 : decode cX5_init 89 = .ok (.newarray .int, 2) := by decide +kernel
theorem dX5_init_91 : decode cX5_init 91 = .ok (.putfield 40, 3) := by decide +kernel
theorem dX5_init_94 : decode cX5_init 94 = .ok (.aload_n 0, 1) := by decide +kernel
theorem dX5_init_95 : decode cX5_init 95 = .ok (.bipush 7, 2) := by decide +kernel
theorem dX5_init_97 : decode cX5_init 97 = .ok (.newarray .int, 2) := by decide +kernel
theorem dX5_init_99 : decode cX5_init 99 = .ok (.putfield 43, 3) := by decide +kernel
theorem dX5_init_102 : decode cX5_init 102 = .ok (.aload_n 0, 1) := by decide +kernel
theorem dX5_init_103 : decode cX5_init 103 = .ok (.bipush 7, 2) := by decide +kernel
theorem dX5_init_105 : decode cX5_init 105 = .ok (.newarray .int, 2) := by decide +kernel
theorem dX5_init_107 : decode cX5_init 107 = .ok (.putfield 46, 3) := by decide +kernel
theorem dX5_init_110 : decode cX5_init 110 = .ok (.aload_n 0, 1) := by decide +kernel
theorem dX5_init_111 : decode cX5_init 111 = .ok (.bipush 12, 2) := by decide +kernel
theorem dX5_init_113 : decode cX5_init 113 = .ok (.newarray .int, 2) := by decide +kernel
theorem dX5_init_115 : decode cX5_init 115 = .ok (.putfield 49, 3) := by decide +kernel
theorem dX5_init_118 : decode cX5_init 118 = .ok (.aload_n 0, 1) := by decide +kernel
theorem dX5_init_119 : decode cX5_init 119 = .ok (.bipush 8, 2) := by decide +kernel
theorem dX5_init_121 : decode cX5_init 121 = .ok (.newarray .int, 2) := by decide +kernel
theorem dX5_init_123 : decode cX5_init 123 = .ok (.putfield 52, 3) := by decide +kernel
theorem dX5_init_126 : decode cX5_init 126 = .ok (.aload_n 0, 1) := by decide +kernel
theorem dX5_init_127 : decode cX5_init 127 = .ok (.bipush 15, 2) := by decide +kernel
theorem dX5_init_129 : decode cX5_init 129 = .ok (.putfield 55, 3) := by decide +kernel
theorem dX5_init_132 : decode cX5_init 132 = .ok (.aload_n 0, 1) := by decide +kernel
theorem dX5_init_133 : decode cX5_init 133 = .ok (.iconst 1, 1) := by decide +kernel
theorem dX5_init_134 : decode cX5_init 134 = .ok (.putfield 59, 3) := by decide +kernel
theorem dX5_init_137 : decode cX5_init 137 = .ok (.aload_n 0, 1) := by decide +kernel
theorem dX5_init_138 : decode cX5_init 138 = .ok (.bipush 8, 2) := by decide +kernel
theorem dX5_init_140 : decode cX5_init 140 = .ok (.putfield 62, 3) := by decide +kernel
theorem dX5_init_143 : decode cX5_init 143 = .ok (.return_, 1) := by decide +kernel
theorem dX5_no_0 : decode cX5_no 0 = .ok (.aload_n 0, 1) := by decide +kernel
theorem dX5_no_1 : decode cX5_no 1 = .ok (.getfield 7, 3) := by decide +kernel
theorem dX5_no_4 : decode cX5_no 4 = .ok (.iload_n 1, 1) := by decide +kernel
theorem dX5_no_5 : decode cX5_no 5 = .ok (.ineg, 1) := by decide +kernel
theorem dX5_no_6 : decode cX5_no 6 = .ok (.dup2, 1) := by decide +kernel
theorem dX5_no_7 : decode cX5_no 7 = .ok (.iaload, 1) := by decide +kernel
theorem dX5_no_8 : decode cX5_no 8 = .ok (.iconst 1, 1) := by decide +kernel
theorem dX5_no_9 : decode cX5_no 9 = .ok (.iadd, 1) := by decide +kernel
theorem dX5_no_10 : decode cX5_no 10 = .ok (.iastore, 1) := by decide +kernel
theorem dX5_no_11 : decode cX5_no 11 = .ok (.iload_n 1, 1) := by decide +kernel
theorem dX5_no_12 : decode cX5_no 12 = .ok (.ireturn, 1) := by decide +kernel
theorem dX5_lowestOf_0 : decode cX5_lowestOf 0 = .ok (.aload_n 0, 1) := by decide +kernel
theorem dX5_lowestOf_1 : decode cX5_lowestOf 1 = .ok (.getfield 7, 3) := by decide +kernel
theorem dX5_lowestOf_4 : decode cX5_lowestOf 4 = .ok (.iload_n 1, 1) := by decide +kernel
theorem dX5_lowestOf_5 : decode cX5_lowestOf 5 = .ok (.ineg, 1) := by decide +kernel
theorem dX5_lowestOf_6 : decode cX5_lowestOf 6 = .ok (.dup2, 1) := by decide +kernel
theorem dX5_lowestOf_7 : decode cX5_lowestOf 7 = .ok (.iaload, 1) := by decide +kernel
theorem dX5_lowestOf_8 : decode cX5_lowestOf 8 = .ok (.iconst 1, 1) := by decide +kernel
theorem dX5_lowestOf_9 : decode cX5_lowestOf 9 = .ok (.iadd, 1) := by decide +kernel
theorem dX5_lowestOf_10 : decode cX5_lowestOf 10 = .ok (.iastore, 1) := by decide +kernel
theorem dX5_lowestOf_11 : decode cX5_lowestOf 11 = .ok (.ldc2_w 65, 3) := by decide +kernel
theorem dX5_lowestOf_14 : decode cX5_lowestOf 14 = .ok (.iload_n 1, 1) := by decide +kernel
theorem dX5_lowestOf_15 : decode cX5_lowestOf 15 = .ok (.i2l, 1) := by decide +kernel
theorem dX5_lowestOf_16 : decode cX5_lowestOf 16 = .ok (.lsub, 1) := by decide +kernel
theorem dX5_lowestOf_17 : decode cX5_lowestOf 17 = .ok (.lreturn, 1) := by decide +kernel
theorem dX5_isIn_0 : decode cX5_isIn 0 = .ok (.iload_n 0, 1) := by decide +kernel
theorem dX5_isIn_1 : decode cX5_isIn 1 = .ok (.iload_n 1, 1) := by decide +kernel
theorem dX5_isIn_2 : decode cX5_isIn 2 = .ok (.if_icmp .lt 12, 3) := by decide +kernel
theorem dX5_isIn_5 : decode cX5_isIn 5 = .ok (.iload_n 0, 1) := by decide +kernel
theorem dX5_isIn_6 : decode cX5_isIn 6 = .ok (.iload_n 2, 1) := by decide +kernel
theorem dX5_isIn_7 : decode cX5_isIn 7 = .ok (.if_icmp .gt 7, 3) := by decide +kernel
theorem dX5_isIn_10 : decode cX5_isIn 10 = .ok (.iconst 1, 1) := by decide +kernel
theorem dX5_isIn_11 : decode cX5_isIn 11 = .ok (.goto 4, 3) := by decide +kernel
theorem dX5_isIn_14 : decode cX5_isIn 14 = .ok (.iconst 0, 1) := by decide +kernel
theorem dX5_isIn_15 : decode cX5_isIn 15 = .ok (.ireturn, 1) := by decide +kernel
theorem dX5_bound_0 : decode cX5_bound 0 = .ok (.iload_n 0, 1) := by decide +kernel
theorem dX5_bound_1 : decode cX5_bound 1 = .ok (.iload_n 1, 1) := by decide +kernel
theorem dX5_bound_2 : decode cX5_bound 2 = .ok (.if_icmp .ge 8, 3) := by decide +kernel
theorem dX5_bound_5 : decode cX5_bound 5 = .ok (.bipush (-4), 2) := by decide +kernel
theorem dX5_bound_7 : decode cX5_bound 7 = .ok (.goto 14, 3) := by decide +kernel
theorem dX5_bound_10 : decode cX5_bound 10 = .ok (.iload_n 0, 1) := by decide +kernel
theorem dX5_bound_11 : decode cX5_bound 11 = .ok (.iload_n 2, 1) := by decide +kernel
theorem dX5_bound_12 : decode cX5_bound 12 = .ok (.if_icmp .le 8, 3) := by decide +kernel
theorem dX5_bound_15 : decode cX5_bound 15 = .ok (.bipush (-6), 2) := by decide +kernel
theorem dX5_bound_17 : decode cX5_bound 17 = .ok (.goto 4, 3) := by decide +kernel
theorem dX5_bound_20 : decode cX5_bound 20 = .ok (.iconst 0, 1) := by decide +kernel
theorem dX5_bound_21 : decode cX5_bound 21 = .ok (.ireturn, 1) := by decide +kernel
theorem dX5_held_0 : decode cX5_held 0 = .ok (.iload_n 0, 1) := by decide +kernel
theorem dX5_held_1 : decode cX5_held 1 = .ok (.iload_n 1, 1) := by decide +kernel
theorem dX5_held_2 : decode cX5_held 2 = .ok (.if_icmp .ge 7, 3) := by decide +kernel
theorem dX5_held_5 : decode cX5_held 5 = .ok (.iload_n 1, 1) := by decide +kernel
theorem dX5_held_6 : decode cX5_held 6 = .ok (.goto 13, 3) := by decide +kernel
theorem dX5_held_9 : decode cX5_held 9 = .ok (.iload_n 0, 1) := by decide +kernel
theorem dX5_held_10 : decode cX5_held 10 = .ok (.iload_n 2, 1) := by decide +kernel
theorem dX5_held_11 : decode cX5_held 11 = .ok (.if_icmp .le 7, 3) := by decide +kernel
theorem dX5_held_14 : decode cX5_held 14 = .ok (.iload_n 2, 1) := by decide +kernel
theorem dX5_held_15 : decode cX5_held 15 = .ok (.goto 4, 3) := by decide +kernel
theorem dX5_held_18 : decode cX5_held 18 = .ok (.iload_n 0, 1) := by decide +kernel
theorem dX5_held_19 : decode cX5_held 19 = .ok (.ireturn, 1) := by decide +kernel
theorem dX5_has_0 : decode cX5_has 0 = .ok (.iload_n 0, 1) := by decide +kernel
theorem dX5_has_1 : decode cX5_has 1 = .ok (.iload_n 1, 1) := by decide +kernel
theorem dX5_has_2 : decode cX5_has 2 = .ok (.ishr, 1) := by decide +kernel
theorem dX5_has_3 : decode cX5_has 3 = .ok (.iconst 1, 1) := by decide +kernel
theorem dX5_has_4 : decode cX5_has 4 = .ok (.iand, 1) := by decide +kernel
theorem dX5_has_5 : decode cX5_has 5 = .ok (.iconst 1, 1) := by decide +kernel
theorem dX5_has_6 : decode cX5_has 6 = .ok (.if_icmp .ne 7, 3) := by decide +kernel
theorem dX5_has_9 : decode cX5_has 9 = .ok (.iconst 1, 1) := by decide +kernel
theorem dX5_has_10 : decode cX5_has 10 = .ok (.goto 4, 3) := by decide +kernel
theorem dX5_has_13 : decode cX5_has 13 = .ok (.iconst 0, 1) := by decide +kernel
theorem dX5_has_14 : decode cX5_has 14 = .ok (.ireturn, 1) := by decide +kernel
theorem dX5_bits_0 : decode cX5_bits 0 = .ok (.iconst 0, 1) := by decide +kernel
theorem dX5_bits_1 : decode cX5_bits 1 = .ok (.istore_n 1, 1) := by decide +kernel
theorem dX5_bits_2 : decode cX5_bits 2 = .ok (.iconst 0, 1) := by decide +kernel
theorem dX5_bits_3 : decode cX5_bits 3 = .ok (.istore_n 2, 1) := by decide +kernel
theorem dX5_bits_4 : decode cX5_bits 4 = .ok (.iload_n 2, 1) := by decide +kernel
theorem dX5_bits_5 : decode cX5_bits 5 = .ok (.bipush 31, 2) := by decide +kernel
theorem dX5_bits_7 : decode cX5_bits 7 = .ok (.if_icmp .ge 17, 3) := by decide +kernel
theorem dX5_bits_10 : decode cX5_bits 10 = .ok (.iload_n 1, 1) := by decide +kernel
theorem dX5_bits_11 : decode cX5_bits 11 = .ok (.iload_n 0, 1) := by decide +kernel
theorem dX5_bits_12 : decode cX5_bits 12 = .ok (.iload_n 2, 1) := by decide +kernel
theorem dX5_bits_13 : decode cX5_bits 13 = .ok (.ishr, 1) := by decide +kernel
theorem dX5_bits_14 : decode cX5_bits 14 = .ok (.iconst 1, 1) := by decide +kernel
theorem dX5_bits_15 : decode cX5_bits 15 = .ok (.iand, 1) := by decide +kernel
theorem dX5_bits_16 : decode cX5_bits 16 = .ok (.iadd, 1) := by decide +kernel
theorem dX5_bits_17 : decode cX5_bits 17 = .ok (.istore_n 1, 1) := by decide +kernel
theorem dX5_bits_18 : decode cX5_bits 18 = .ok (.iinc 2 1, 3) := by decide +kernel
theorem dX5_bits_21 : decode cX5_bits 21 = .ok (.goto (-17), 3) := by decide +kernel
theorem dX5_bits_24 : decode cX5_bits 24 = .ok (.iload_n 1, 1) := by decide +kernel
theorem dX5_bits_25 : decode cX5_bits 25 = .ok (.ireturn, 1) := by decide +kernel
theorem dX5_far_0 : decode cX5_far 0 = .ok (.iload_n 0, 1) := by decide +kernel
theorem dX5_far_1 : decode cX5_far 1 = .ok (.iload_n 1, 1) := by decide +kernel
theorem dX5_far_2 : decode cX5_far 2 = .ok (.if_icmp .le 9, 3) := by decide +kernel
theorem dX5_far_5 : decode cX5_far 5 = .ok (.iload_n 0, 1) := by decide +kernel
theorem dX5_far_6 : decode cX5_far 6 = .ok (.iload_n 1, 1) := by decide +kernel
theorem dX5_far_7 : decode cX5_far 7 = .ok (.isub, 1) := by decide +kernel
theorem dX5_far_8 : decode cX5_far 8 = .ok (.goto 6, 3) := by decide +kernel
theorem dX5_far_11 : decode cX5_far 11 = .ok (.iload_n 1, 1) := by decide +kernel
theorem dX5_far_12 : decode cX5_far 12 = .ok (.iload_n 0, 1) := by decide +kernel
theorem dX5_far_13 : decode cX5_far 13 = .ok (.isub, 1) := by decide +kernel
theorem dX5_far_14 : decode cX5_far 14 = .ok (.ireturn, 1) := by decide +kernel
theorem dX5_isShore_0 : decode cX5_isShore 0 = .ok (.iload_n 1, 1) := by decide +kernel
theorem dX5_isShore_1 : decode cX5_isShore 1 = .ok (.ifCond .lt 15, 3) := by decide +kernel
theorem dX5_isShore_4 : decode cX5_isShore 4 = .ok (.iload_n 1, 1) := by decide +kernel
theorem dX5_isShore_5 : decode cX5_isShore 5 = .ok (.aload_n 0, 1) := by decide +kernel
theorem dX5_isShore_6 : decode cX5_isShore 6 = .ok (.getfield 67, 3) := by decide +kernel
theorem dX5_isShore_9 : decode cX5_isShore 9 = .ok (.if_icmp .ge 7, 3) := by decide +kernel
theorem dX5_isShore_12 : decode cX5_isShore 12 = .ok (.iconst 1, 1) := by decide +kernel
theorem dX5_isShore_13 : decode cX5_isShore 13 = .ok (.goto 4, 3) := by decide +kernel
theorem dX5_isShore_16 : decode cX5_isShore 16 = .ok (.iconst 0, 1) := by decide +kernel
theorem dX5_isShore_17 : decode cX5_isShore 17 = .ok (.ireturn, 1) := by decide +kernel
theorem dX5_isPlace_0 : decode cX5_isPlace 0 = .ok (.iload_n 0, 1) := by decide +kernel
theorem dX5_isPlace_1 : decode cX5_isPlace 1 = .ok (.ifCond .lt 13, 3) := by decide +kernel
theorem dX5_isPlace_4 : decode cX5_isPlace 4 = .ok (.iload_n 0, 1) := by decide +kernel
theorem dX5_isPlace_5 : decode cX5_isPlace 5 = .ok (.bipush 30, 2) := by decide +kernel
theorem dX5_isPlace_7 : decode cX5_isPlace 7 = .ok (.if_icmp .gt 7, 3) := by decide +kernel
theorem dX5_isPlace_10 : decode cX5_isPlace 10 = .ok (.iconst 1, 1) := by decide +kernel
theorem dX5_isPlace_11 : decode cX5_isPlace 11 = .ok (.goto 4, 3) := by decide +kernel
theorem dX5_isPlace_14 : decode cX5_isPlace 14 = .ok (.iconst 0, 1) := by decide +kernel
theorem dX5_isPlace_15 : decode cX5_isPlace 15 = .ok (.ireturn, 1) := by decide +kernel
theorem dX5_shoreAt_0 : decode cX5_shoreAt 0 = .ok (.iconst 0, 1) := by decide +kernel
theorem dX5_shoreAt_1 : decode cX5_shoreAt 1 = .ok (.istore_n 2, 1) := by decide +kernel
theorem dX5_shoreAt_2 : decode cX5_shoreAt 2 = .ok (.iload_n 2, 1) := by decide +kernel
theorem dX5_shoreAt_3 : decode cX5_shoreAt 3 = .ok (.aload_n 0, 1) := by decide +kernel
theorem dX5_shoreAt_4 : decode cX5_shoreAt 4 = .ok (.getfield 67, 3) := by decide +kernel
theorem dX5_shoreAt_7 : decode cX5_shoreAt 7 = .ok (.if_icmp .ge 21, 3) := by decide +kernel
theorem dX5_shoreAt_10 : decode cX5_shoreAt 10 = .ok (.aload_n 0, 1) := by decide +kernel
theorem dX5_shoreAt_11 : decode cX5_shoreAt 11 = .ok (.getfield 19, 3) := by decide +kernel
theorem dX5_shoreAt_14 : decode cX5_shoreAt 14 = .ok (.iload_n 2, 1) := by decide +kernel
theorem dX5_shoreAt_15 : decode cX5_shoreAt 15 = .ok (.iaload, 1) := by decide +kernel
theorem dX5_shoreAt_16 : decode cX5_shoreAt 16 = .ok (.iload_n 1, 1) := by decide +kernel
theorem dX5_shoreAt_17 : decode cX5_shoreAt 17 = .ok (.if_icmp .ne 5, 3) := by decide +kernel
theorem dX5_shoreAt_20 : decode cX5_shoreAt 20 = .ok (.iload_n 2, 1) := by decide +kernel
theorem dX5_shoreAt_21 : decode cX5_shoreAt 21 = .ok (.ireturn, 1) := by decide +kernel
theorem dX5_shoreAt_22 : decode cX5_shoreAt 22 = .ok (.iinc 2 1, 3) := by decide +kernel
theorem dX5_shoreAt_25 : decode cX5_shoreAt 25 = .ok (.goto (-23), 3) := by decide +kernel
theorem dX5_shoreAt_28 : decode cX5_shoreAt 28 = .ok (.bipush (-9), 2) := by decide +kernel
theorem dX5_shoreAt_30 : decode cX5_shoreAt 30 = .ok (.ireturn, 1) := by decide +kernel
set_option maxRecDepth 20000 in
theorem ggX5_feed_X5_bound : GoodIn wsX5_feed wsX5_bound := goodIn_r _ [6] (by decide +kernel) (by decide +kernel)
set_option maxRecDepth 20000 in
theorem gX5_feed_X5_bound : GoodIn wsX5_feed (va_wsS RX5 70 yX5_bound wsX5_bound) := goodIn_app (goodIn_of _ (by decide +kernel)) ggX5_feed_X5_bound
set_option maxRecDepth 20000 in
theorem ggX5_feed_X5_no : GoodIn wsX5_feed wsX5_no := goodIn_r _ [10, 11, 12, 13, 14, 15, 16, 17, 18, 19, 20, 21, 22, 23, 24, 25, 26, 27, 28, 29, 30, 31, 32, 33, 34, 35, 36, 37, 38, 39, 40, 41, 42, 43, 44] (by decide +kernel) (by decide +kernel)
set_option maxRecDepth 20000 in
theorem gX5_feed_X5_no : GoodIn wsX5_feed (wsV RX5 77 RX5 yX5_no wsX5_no) := goodIn_app (goodIn_of _ (by decide +kernel)) ggX5_feed_X5_no
theorem dX5_feed_0 : decode cX5_feed 0 = .ok (.iload_n 1, 1) := by decide +kernel
theorem dX5_feed_1 : decode cX5_feed 1 = .ok (.iconst 0, 1) := by decide +kernel
theorem dX5_feed_2 : decode cX5_feed 2 = .ok (.sipush 255, 3) := by decide +kernel
theorem dX5_feed_5 : decode cX5_feed 5 = .ok (.invokestatic 70, 3) := by decide +kernel
theorem dX5_feed_8 : decode cX5_feed 8 = .ok (.istore_n 2, 1) := by decide +kernel
theorem dX5_feed_9 : decode cX5_feed 9 = .ok (.iload_n 2, 1) := by decide +kernel
theorem dX5_feed_10 : decode cX5_feed 10 = .ok (.ifCond .ne 15, 3) := by decide +kernel
theorem dX5_feed_13 : decode cX5_feed 13 = .ok (.aload_n 0, 1) := by decide +kernel
theorem dX5_feed_14 : decode cX5_feed 14 = .ok (.getfield 74, 3) := by decide +kernel
theorem dX5_feed_17 : decode cX5_feed 17 = .ok (.bipush 96, 2) := by decide +kernel
theorem dX5_feed_19 : decode cX5_feed 19 = .ok (.if_icmp .ne 6, 3) := by decide +kernel
theorem dX5_feed_22 : decode cX5_feed 22 = .ok (.bipush (-6), 2) := by decide +kernel
theorem dX5_feed_24 : decode cX5_feed 24 = .ok (.istore_n 2, 1) := by decide +kernel
theorem dX5_feed_25 : decode cX5_feed 25 = .ok (.iload_n 2, 1) := by decide +kernel
theorem dX5_feed_26 : decode cX5_feed 26 = .ok (.ifCond .eq 9, 3) := by decide +kernel
theorem dX5_feed_29 : decode cX5_feed 29 = .ok (.aload_n 0, 1) := by decide +kernel
theorem dX5_feed_30 : decode cX5_feed 30 = .ok (.iload_n 2, 1) := by decide +kernel
theorem dX5_feed_31 : decode cX5_feed 31 = .ok (.invokevirtual 77, 3) := by decide +kernel
theorem dX5_feed_34 : decode cX5_feed 34 = .ok (.ireturn, 1) := by decide +kernel
theorem dX5_feed_35 : decode cX5_feed 35 = .ok (.aload_n 0, 1) := by decide +kernel
theorem dX5_feed_36 : decode cX5_feed 36 = .ok (.getfield 28, 3) := by decide +kernel
theorem dX5_feed_39 : decode cX5_feed 39 = .ok (.aload_n 0, 1) := by decide +kernel
theorem dX5_feed_40 : decode cX5_feed 40 = .ok (.getfield 74, 3) := by decide +kernel
theorem dX5_feed_43 : decode cX5_feed 43 = .ok (.iload_n 1, 1) := by decide +kernel
theorem dX5_feed_44 : decode cX5_feed 44 = .ok (.iastore, 1) := by decide +kernel
theorem dX5_feed_45 : decode cX5_feed 45 = .ok (.aload_n 0, 1) := by decide +kernel
theorem dX5_feed_46 : decode cX5_feed 46 = .ok (.dup, 1) := by decide +kernel
theorem dX5_feed_47 : decode cX5_feed 47 = .ok (.getfield 74, 3) := by decide +kernel
theorem dX5_feed_50 : decode cX5_feed 50 = .ok (.iconst 1, 1) := by decide +kernel
theorem dX5_feed_51 : decode cX5_feed 51 = .ok (.iadd, 1) := by decide +kernel
theorem dX5_feed_52 : decode cX5_feed 52 = .ok (.putfield 74, 3) := by decide +kernel
theorem dX5_feed_55 : decode cX5_feed 55 = .ok (.aload_n 0, 1) := by decide +kernel
theorem dX5_feed_56 : decode cX5_feed 56 = .ok (.getfield 74, 3) := by decide +kernel
theorem dX5_feed_59 : decode cX5_feed 59 = .ok (.ireturn, 1) := by decide +kernel
theorem dX5_next_0 : decode cX5_next 0 = .ok (.aload_n 0, 1) := by decide +kernel
theorem dX5_next_1 : decode cX5_next 1 = .ok (.getfield 81, 3) := by decide +kernel
theorem dX5_next_4 : decode cX5_next 4 = .ok (.aload_n 0, 1) := by decide +kernel
theorem dX5_next_5 : decode cX5_next 5 = .ok (.getfield 74, 3) := by decide +kernel
theorem dX5_next_8 : decode cX5_next 8 = .ok (.if_icmp .ge 15, 3) := by decide +kernel
theorem dX5_next_11 : decode cX5_next 11 = .ok (.aload_n 0, 1) := by decide +kernel
theorem dX5_next_12 : decode cX5_next 12 = .ok (.getfield 28, 3) := by decide +kernel
theorem dX5_next_15 : decode cX5_next 15 = .ok (.aload_n 0, 1) := by decide +kernel
theorem dX5_next_16 : decode cX5_next 16 = .ok (.getfield 81, 3) := by decide +kernel
theorem dX5_next_19 : decode cX5_next 19 = .ok (.iaload, 1) := by decide +kernel
theorem dX5_next_20 : decode cX5_next 20 = .ok (.goto 4, 3) := by decide +kernel
theorem dX5_next_23 : decode cX5_next 23 = .ok (.iconst (-1), 1) := by decide +kernel
theorem dX5_next_24 : decode cX5_next 24 = .ok (.ireturn, 1) := by decide +kernel
set_option maxRecDepth 20000 in
theorem ggX5_readsDigits_X5_next : GoodIn wsX5_readsDigits wsX5_next := goodIn_r _ [7, 1, 8, 9, 13, 14, 15, 16, 17, 18, 19, 20, 21, 22, 23, 24, 25, 26, 27, 28, 29, 30, 31, 32, 33, 34, 35, 36, 37, 38, 39, 40, 41, 42, 43, 44, 45] (by decide +kernel) (by decide +kernel)
set_option maxRecDepth 20000 in
theorem gX5_readsDigits_X5_next : GoodIn wsX5_readsDigits (wsV RX5 84 RX5 yX5_next wsX5_next) := goodIn_app (goodIn_of _ (by decide +kernel)) ggX5_readsDigits_X5_next
set_option maxRecDepth 20000 in
theorem ggX5_readsDigits_X5_isIn : GoodIn wsX5_readsDigits wsX5_isIn := goodIn_r _ [12] (by decide +kernel) (by decide +kernel)
set_option maxRecDepth 20000 in
theorem gX5_readsDigits_X5_isIn : GoodIn wsX5_readsDigits (va_wsS RX5 88 yX5_isIn wsX5_isIn) := goodIn_app (goodIn_of _ (by decide +kernel)) ggX5_readsDigits_X5_isIn
theorem dX5_readsDigits_0 : decode cX5_readsDigits 0 = .ok (.iconst 0, 1) := by decide +kernel
theorem dX5_readsDigits_1 : decode cX5_readsDigits 1 = .ok (.istore_n 3, 1) := by decide +kernel
theorem dX5_readsDigits_2 : decode cX5_readsDigits 2 = .ok (.iconst 0, 1) := by decide +kernel
theorem dX5_readsDigits_3 : decode cX5_readsDigits 3 = .ok (.istore 4, 2) := by decide +kernel
theorem dX5_readsDigits_5 : decode cX5_readsDigits 5 = .ok (.iload 4, 2) := by decide +kernel
theorem dX5_readsDigits_7 : decode cX5_readsDigits 7 = .ok (.iload_n 2, 1) := by decide +kernel
theorem dX5_readsDigits_8 : decode cX5_readsDigits 8 = .ok (.if_icmp .ge 48, 3) := by decide +kernel
theorem dX5_readsDigits_11 : decode cX5_readsDigits 11 = .ok (.aload_n 0, 1) := by decide +kernel
theorem dX5_readsDigits_12 : decode cX5_readsDigits 12 = .ok (.invokevirtual 84, 3) := by decide +kernel
theorem dX5_readsDigits_15 : decode cX5_readsDigits 15 = .ok (.bipush 48, 2) := by decide +kernel
theorem dX5_readsDigits_17 : decode cX5_readsDigits 17 = .ok (.bipush 57, 2) := by decide +kernel
theorem dX5_readsDigits_19 : decode cX5_readsDigits 19 = .ok (.invokestatic 88, 3) := by decide +kernel
theorem dX5_readsDigits_22 : decode cX5_readsDigits 22 = .ok (.ifCond .ne 5, 3) := by decide +kernel
theorem dX5_readsDigits_25 : decode cX5_readsDigits 25 = .ok (.iconst 0, 1) := by decide +kernel
theorem dX5_readsDigits_26 : decode cX5_readsDigits 26 = .ok (.ireturn, 1) := by decide +kernel
theorem dX5_readsDigits_27 : decode cX5_readsDigits 27 = .ok (.bipush 10, 2) := by decide +kernel
theorem dX5_readsDigits_29 : decode cX5_readsDigits 29 = .ok (.iload_n 3, 1) := by decide +kernel
theorem dX5_readsDigits_30 : decode cX5_readsDigits 30 = .ok (.imul, 1) := by decide +kernel
theorem dX5_readsDigits_31 : decode cX5_readsDigits 31 = .ok (.aload_n 0, 1) := by decide +kernel
theorem dX5_readsDigits_32 : decode cX5_readsDigits 32 = .ok (.invokevirtual 84, 3) := by decide +kernel
theorem dX5_readsDigits_35 : decode cX5_readsDigits 35 = .ok (.iadd, 1) := by decide +kernel
theorem dX5_readsDigits_36 : decode cX5_readsDigits 36 = .ok (.bipush 48, 2) := by decide +kernel
theorem dX5_readsDigits_38 : decode cX5_readsDigits 38 = .ok (.isub, 1) := by decide +kernel
theorem dX5_readsDigits_39 : decode cX5_readsDigits 39 = .ok (.istore_n 3, 1) := by decide +kernel
theorem dX5_readsDigits_40 : decode cX5_readsDigits 40 = .ok (.aload_n 0, 1) := by decide +kernel
theorem dX5_readsDigits_41 : decode cX5_readsDigits 41 = .ok (.dup, 1) := by decide +kernel
theorem dX5_readsDigits_42 : decode cX5_readsDigits 42 = .ok (.getfield 81, 3) := by decide +kernel
theorem dX5_readsDigits_45 : decode cX5_readsDigits 45 = .ok (.iconst 1, 1) := by decide +kernel
theorem dX5_readsDigits_46 : decode cX5_readsDigits 46 = .ok (.iadd, 1) := by decide +kernel
theorem dX5_readsDigits_47 : decode cX5_readsDigits 47 = .ok (.putfield 81, 3) := by decide +kernel
theorem dX5_readsDigits_50 : decode cX5_readsDigits 50 = .ok (.iinc 4 1, 3) := by decide +kernel
theorem dX5_readsDigits_53 : decode cX5_readsDigits 53 = .ok (.goto (-48), 3) := by decide +kernel
theorem dX5_readsDigits_56 : decode cX5_readsDigits 56 = .ok (.aload_n 0, 1) := by decide +kernel
theorem dX5_readsDigits_57 : decode cX5_readsDigits 57 = .ok (.getfield 37, 3) := by decide +kernel
theorem dX5_readsDigits_60 : decode cX5_readsDigits 60 = .ok (.iload_n 1, 1) := by decide +kernel
theorem dX5_readsDigits_61 : decode cX5_readsDigits 61 = .ok (.iload_n 3, 1) := by decide +kernel
theorem dX5_readsDigits_62 : decode cX5_readsDigits 62 = .ok (.iastore, 1) := by decide +kernel
theorem dX5_readsDigits_63 : decode cX5_readsDigits 63 = .ok (.iconst 1, 1) := by decide +kernel
theorem dX5_readsDigits_64 : decode cX5_readsDigits 64 = .ok (.ireturn, 1) := by decide +kernel
set_option maxRecDepth 20000 in
theorem ggX5_readsAll_X5_readsDigits : GoodIn wsX5_readsAll wsX5_readsDigits := goodIn_r _ [5, 6, 7, 8, 9, 10, 4, 11, 12, 13, 14, 15, 16, 17, 18, 19, 20, 21, 22, 23, 24, 25, 26, 27, 28, 29, 30, 31, 32, 33, 34, 35, 36, 37, 38, 39, 40, 41, 42, 43, 44, 45, 46, 47, 48, 49] (by decide +kernel) (by decide +kernel)
set_option maxRecDepth 20000 in
theorem gX5_readsAll_X5_readsDigits : GoodIn wsX5_readsAll (wsV RX5 92 RX5 yX5_readsDigits wsX5_readsDigits) := goodIn_app (goodIn_of _ (by decide +kernel)) ggX5_readsAll_X5_readsDigits
theorem dX5_readsAll_0 : decode cX5_readsAll 0 = .ok (.iload_n 1, 1) := by decide +kernel
theorem dX5_readsAll_1 : decode cX5_readsAll 1 = .ok (.tableswitch 113 112 118 #[80, 106, 113, 43, 113, 113, 106], 43) := by decide +kernel
theorem dX5_readsAll_44 : decode cX5_readsAll 44 = .ok (.aload_n 0, 1) := by decide +kernel
theorem dX5_readsAll_45 : decode cX5_readsAll 45 = .ok (.iload_n 2, 1) := by decide +kernel
theorem dX5_readsAll_46 : decode cX5_readsAll 46 = .ok (.iconst 1, 1) := by decide +kernel
theorem dX5_readsAll_47 : decode cX5_readsAll 47 = .ok (.invokevirtual 92, 3) := by decide +kernel
theorem dX5_readsAll_50 : decode cX5_readsAll 50 = .ok (.ifCond .eq 29, 3) := by decide +kernel
theorem dX5_readsAll_53 : decode cX5_readsAll 53 = .ok (.aload_n 0, 1) := by decide +kernel
theorem dX5_readsAll_54 : decode cX5_readsAll 54 = .ok (.iload_n 2, 1) := by decide +kernel
theorem dX5_readsAll_55 : decode cX5_readsAll 55 = .ok (.iconst 1, 1) := by decide +kernel
theorem dX5_readsAll_56 : decode cX5_readsAll 56 = .ok (.iadd, 1) := by decide +kernel
theorem dX5_readsAll_57 : decode cX5_readsAll 57 = .ok (.iconst 1, 1) := by decide +kernel
theorem dX5_readsAll_58 : decode cX5_readsAll 58 = .ok (.invokevirtual 92, 3) := by decide +kernel
theorem dX5_readsAll_61 : decode cX5_readsAll 61 = .ok (.ifCond .eq 18, 3) := by decide +kernel
theorem dX5_readsAll_64 : decode cX5_readsAll 64 = .ok (.aload_n 0, 1) := by decide +kernel
theorem dX5_readsAll_65 : decode cX5_readsAll 65 = .ok (.iload_n 2, 1) := by decide +kernel
theorem dX5_readsAll_66 : decode cX5_readsAll 66 = .ok (.iconst 2, 1) := by decide +kernel
theorem dX5_readsAll_67 : decode cX5_readsAll 67 = .ok (.iadd, 1) := by decide +kernel
theorem dX5_readsAll_68 : decode cX5_readsAll 68 = .ok (.iconst 2, 1) := by decide +kernel
theorem dX5_readsAll_69 : decode cX5_readsAll 69 = .ok (.invokevirtual 92, 3) := by decide +kernel
theorem dX5_readsAll_72 : decode cX5_readsAll 72 = .ok (.ifCond .eq 7, 3) := by decide +kernel
theorem dX5_readsAll_75 : decode cX5_readsAll 75 = .ok (.iconst 1, 1) := by decide +kernel
theorem dX5_readsAll_76 : decode cX5_readsAll 76 = .ok (.goto 4, 3) := by decide +kernel
theorem dX5_readsAll_79 : decode cX5_readsAll 79 = .ok (.iconst 0, 1) := by decide +kernel
theorem dX5_readsAll_80 : decode cX5_readsAll 80 = .ok (.ireturn, 1) := by decide +kernel
theorem dX5_readsAll_81 : decode cX5_readsAll 81 = .ok (.aload_n 0, 1) := by decide +kernel
theorem dX5_readsAll_82 : decode cX5_readsAll 82 = .ok (.iload_n 2, 1) := by decide +kernel
theorem dX5_readsAll_83 : decode cX5_readsAll 83 = .ok (.iconst 1, 1) := by decide +kernel
theorem dX5_readsAll_84 : decode cX5_readsAll 84 = .ok (.invokevirtual 92, 3) := by decide +kernel
theorem dX5_readsAll_87 : decode cX5_readsAll 87 = .ok (.ifCond .eq 18, 3) := by decide +kernel
theorem dX5_readsAll_90 : decode cX5_readsAll 90 = .ok (.aload_n 0, 1) := by decide +kernel
theorem dX5_readsAll_91 : decode cX5_readsAll 91 = .ok (.iload_n 2, 1) := by decide +kernel
theorem dX5_readsAll_92 : decode cX5_readsAll 92 = .ok (.iconst 1, 1) := by decide +kernel
theorem dX5_readsAll_93 : decode cX5_readsAll 93 = .ok (.iadd, 1) := by decide +kernel
theorem dX5_readsAll_94 : decode cX5_readsAll 94 = .ok (.iconst 2, 1) := by decide +kernel
theorem dX5_readsAll_95 : decode cX5_readsAll 95 = .ok (.invokevirtual 92, 3) := by decide +kernel
theorem dX5_readsAll_98 : decode cX5_readsAll 98 = .ok (.ifCond .eq 7, 3) := by decide +kernel
theorem dX5_readsAll_101 : decode cX5_readsAll 101 = .ok (.iconst 1, 1) := by decide +kernel
theorem dX5_readsAll_102 : decode cX5_readsAll 102 = .ok (.goto 4, 3) := by decide +kernel
theorem dX5_readsAll_105 : decode cX5_readsAll 105 = .ok (.iconst 0, 1) := by decide +kernel
theorem dX5_readsAll_106 : decode cX5_readsAll 106 = .ok (.ireturn, 1) := by decide +kernel
theorem dX5_readsAll_107 : decode cX5_readsAll 107 = .ok (.aload_n 0, 1) := by decide +kernel
theorem dX5_readsAll_108 : decode cX5_readsAll 108 = .ok (.iload_n 2, 1) := by decide +kernel
theorem dX5_readsAll_109 : decode cX5_readsAll 109 = .ok (.iconst 1, 1) := by decide +kernel
theorem dX5_readsAll_110 : decode cX5_readsAll 110 = .ok (.invokevirtual 92, 3) := by decide +kernel
theorem dX5_readsAll_113 : decode cX5_readsAll 113 = .ok (.ireturn, 1) := by decide +kernel
theorem dX5_readsAll_114 : decode cX5_readsAll 114 = .ok (.aload_n 0, 1) := by decide +kernel
theorem dX5_readsAll_115 : decode cX5_readsAll 115 = .ok (.iload_n 2, 1) := by decide +kernel
theorem dX5_readsAll_116 : decode cX5_readsAll 116 = .ok (.iconst 2, 1) := by decide +kernel
theorem dX5_readsAll_117 : decode cX5_readsAll 117 = .ok (.invokevirtual 92, 3) := by decide +kernel
theorem dX5_readsAll_120 : decode cX5_readsAll 120 = .ok (.ireturn, 1) := by decide +kernel
set_option maxRecDepth 20000 in
theorem ggX5_statement_X5_next : GoodIn wsX5_statement wsX5_next := goodIn_r _ [9, 4, 10, 11, 24, 25, 26, 27, 28, 29, 30, 31, 32, 33, 34, 35, 36, 37, 38, 39, 40, 41, 42, 43, 44, 45, 46, 47, 48, 49, 50, 51, 52, 53, 54, 55, 56] (by decide +kernel) (by decide +kernel)
set_option maxRecDepth 20000 in
theorem gX5_statement_X5_next : GoodIn wsX5_statement (wsV RX5 84 RX5 yX5_next wsX5_next) := goodIn_app (goodIn_of _ (by decide +kernel)) ggX5_statement_X5_next
set_option maxRecDepth 20000 in
theorem ggX5_statement_X5_readsAll : GoodIn wsX5_statement wsX5_readsAll := goodIn_r _ [15, 16, 17, 18, 8, 19, 4, 20, 5, 6, 7, 9, 10, 11, 21, 22, 23, 24, 25, 26, 27, 28, 29, 30, 31, 32, 33, 34, 35, 36, 37, 38, 39, 40, 41, 42, 43, 44, 45, 46, 47, 48, 49, 50, 51, 52, 53, 54, 55, 56] (by decide +kernel) (by decide +kernel)
set_option maxRecDepth 20000 in
theorem gX5_statement_X5_readsAll : GoodIn wsX5_statement (wsV RX5 99 RX5 yX5_readsAll wsX5_readsAll) := goodIn_app (goodIn_of _ (by decide +kernel)) ggX5_statement_X5_readsAll
theorem dX5_statement_0 : decode cX5_statement 0 = .ok (.aload_n 0, 1) := by decide +kernel
theorem dX5_statement_1 : decode cX5_statement 1 = .ok (.invokevirtual 84, 3) := by decide +kernel
theorem dX5_statement_4 : decode cX5_statement 4 = .ok (.istore_n 1, 1) := by decide +kernel
theorem dX5_statement_5 : decode cX5_statement 5 = .ok (.iload_n 1, 1) := by decide +kernel
theorem dX5_statement_6 : decode cX5_statement 6 = .ok (.bipush 115, 2) := by decide +kernel
theorem dX5_statement_8 : decode cX5_statement 8 = .ok (.if_icmp .eq 35, 3) := by decide +kernel
theorem dX5_statement_11 : decode cX5_statement 11 = .ok (.iload_n 1, 1) := by decide +kernel
theorem dX5_statement_12 : decode cX5_statement 12 = .ok (.bipush 112, 2) := by decide +kernel
theorem dX5_statement_14 : decode cX5_statement 14 = .ok (.if_icmp .eq 29, 3) := by decide +kernel
theorem dX5_statement_17 : decode cX5_statement 17 = .ok (.iload_n 1, 1) := by decide +kernel
theorem dX5_statement_18 : decode cX5_statement 18 = .ok (.bipush 113, 2) := by decide +kernel
theorem dX5_statement_20 : decode cX5_statement 20 = .ok (.if_icmp .eq 23, 3) := by decide +kernel
theorem dX5_statement_23 : decode cX5_statement 23 = .ok (.iload_n 1, 1) := by decide +kernel
