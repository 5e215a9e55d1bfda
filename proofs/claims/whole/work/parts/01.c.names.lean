theorem dX0_init_0 : decode cX0_init 0 = .ok (.aload_n 0, 1) := by decide +kernel
theorem dX0_init_1 : decode cX0_init 1 = .ok (.invokespecial 3, 3) := by decide +kernel
theorem dX0_init_4 : decode cX0_init 4 = .ok (.aload_n 0, 1) := by decide +kernel
theorem dX0_init_5 : decode cX0_init 5 = .ok (.bipush 7, 2) := by decide +kernel
theorem dX0_init_7 : decode cX0_init 7 = .ok (.newarray .int, 2) := by decide +kernel
theorem dX0_init_9 : decode cX0_init 9 = .ok (.putfield 9, 3) := by decide +kernel
theorem dX0_init_12 : decode cX0_init 12 = .ok (.aload_n 0, 1) := by decide +kernel
theorem dX0_init_13 : decode cX0_init 13 = .ok (.bipush 7, 2) := by decide +kernel
theorem dX0_init_15 : decode cX0_init 15 = .ok (.newarray .int, 2) := by decide +kernel
theorem dX0_init_17 : decode cX0_init 17 = .ok (.putfield 15, 3) := by decide +kernel
theorem dX0_init_20 : decode cX0_init 20 = .ok (.aload_n 0, 1) := by decide +kernel
theorem dX0_init_21 : decode cX0_init 21 = .ok (.bipush 7, 2) := by decide +kernel
theorem dX0_init_23 : decode cX0_init 23 = .ok (.newarray .int, 2) := by decide +kernel
theorem dX0_init_25 : decode cX0_init 25 = .ok (.putfield 18, 3) := by decide +kernel
theorem dX0_init_28 : decode cX0_init 28 = .ok (.aload_n 0, 1) := by decide +kernel
theorem dX0_init_29 : decode cX0_init 29 = .ok (.bipush 7, 2) := by decide +kernel
theorem dX0_init_31 : decode cX0_init 31 = .ok (.newarray .int, 2) := by decide +kernel
theorem dX0_init_33 : decode cX0_init 33 = .ok (.putfield 21, 3) := by decide +kernel
theorem dX0_init_36 : decode cX0_init 36 = .ok (.aload_n 0, 1) := by decide +kernel
theorem dX0_init_37 : decode cX0_init 37 = .ok (.bipush 7, 2) := by decide +kernel
theorem dX0_init_39 : decode cX0_init 39 = .ok (.newarray .int, 2) := by decide +kernel
theorem dX0_init_41 : decode cX0_init 41 = .ok (.putfield 24, 3) := by decide +kernel
theorem dX0_init_44 : decode cX0_init 44 = .ok (.aload_n 0, 1) := by decide +kernel
theorem dX0_init_45 : decode cX0_init 45 = .ok (.bipush 15, 2) := by decide +kernel
theorem dX0_init_47 : decode cX0_init 47 = .ok (.putfield 27, 3) := by decide +kernel
theorem dX0_init_50 : decode cX0_init 50 = .ok (.aload_n 0, 1) := by decide +kernel
theorem dX0_init_51 : decode cX0_init 51 = .ok (.iconst 1, 1) := by decide +kernel
theorem dX0_init_52 : decode cX0_init 52 = .ok (.putfield 31, 3) := by decide +kernel
theorem dX0_init_55 : decode cX0_init 55 = .ok (.aload_n 0, 1) := by decide +kernel
theorem dX0_init_56 : decode cX0_init 56 = .ok (.bipush 8, 2) := by decide +kernel
theorem dX0_init_58 : decode cX0_init 58 = .ok (.putfield 34, 3) := by decide +kernel
theorem dX0_init_61 : decode cX0_init 61 = .ok (.return_, 1) := by decide +kernel
theorem dX0_become_0 : decode cX0_become 0 = .ok (.aload_n 1, 1) := by decide +kernel
theorem dX0_become_1 : decode cX0_become 1 = .ok (.getfield 9, 3) := by decide +kernel
theorem dX0_become_4 : decode cX0_become 4 = .ok (.iconst 0, 1) := by decide +kernel
theorem dX0_become_5 : decode cX0_become 5 = .ok (.aload_n 0, 1) := by decide +kernel
theorem dX0_become_6 : decode cX0_become 6 = .ok (.getfield 9, 3) := by decide +kernel
theorem dX0_become_9 : decode cX0_become 9 = .ok (.iconst 0, 1) := by decide +kernel
theorem dX0_become_10 : decode cX0_become 10 = .ok (.bipush 7, 2) := by decide +kernel
theorem dX0_become_12 : decode cX0_become 12 = .ok (.invokestatic 37, 3) := by decide +kernel
theorem dX0_become_15 : decode cX0_become 15 = .ok (.aload_n 1, 1) := by decide +kernel
theorem dX0_become_16 : decode cX0_become 16 = .ok (.getfield 15, 3) := by decide +kernel
theorem dX0_become_19 : decode cX0_become 19 = .ok (.iconst 0, 1) := by decide +kernel
theorem dX0_become_20 : decode cX0_become 20 = .ok (.aload_n 0, 1) := by decide +kernel
theorem dX0_become_21 : decode cX0_become 21 = .ok (.getfield 15, 3) := by decide +kernel
theorem dX0_become_24 : decode cX0_become 24 = .ok (.iconst 0, 1) := by decide +kernel
theorem dX0_become_25 : decode cX0_become 25 = .ok (.bipush 7, 2) := by decide +kernel
theorem dX0_become_27 : decode cX0_become 27 = .ok (.invokestatic 37, 3) := by decide +kernel
theorem dX0_become_30 : decode cX0_become 30 = .ok (.aload_n 1, 1) := by decide +kernel
theorem dX0_become_31 : decode cX0_become 31 = .ok (.getfield 18, 3) := by decide +kernel
theorem dX0_become_34 : decode cX0_become 34 = .ok (.iconst 0, 1) := by decide +kernel
theorem dX0_become_35 : decode cX0_become 35 = .ok (.aload_n 0, 1) := by decide +kernel
theorem dX0_become_36 : decode cX0_become 36 = .ok (.getfield 18, 3) := by decide +kernel
theorem dX0_become_39 : decode cX0_become 39 = .ok (.iconst 0, 1) := by decide +kernel
theorem dX0_become_40 : decode cX0_become 40 = .ok (.bipush 7, 2) := by decide +kernel
theorem dX0_become_42 : decode cX0_become 42 = .ok (.invokestatic 37, 3) := by decide +kernel
theorem dX0_become_45 : decode cX0_become 45 = .ok (.aload_n 1, 1) := by decide +kernel
theorem dX0_become_46 : decode cX0_become 46 = .ok (.getfield 21, 3) := by decide +kernel
theorem dX0_become_49 : decode cX0_become 49 = .ok (.iconst 0, 1) := by decide +kernel
theorem dX0_become_50 : decode cX0_become 50 = .ok (.aload_n 0, 1) := by decide +kernel
theorem dX0_become_51 : decode cX0_become 51 = .ok (.getfield 21, 3) := by decide +kernel
theorem dX0_become_54 : decode cX0_become 54 = .ok (.iconst 0, 1) := by decide +kernel
theorem dX0_become_55 : decode cX0_become 55 = .ok (.bipush 7, 2) := by decide +kernel
theorem dX0_become_57 : decode cX0_become 57 = .ok (.invokestatic 37, 3) := by decide +kernel
theorem dX0_become_60 : decode cX0_become 60 = .ok (.aload_n 1, 1) := by decide +kernel
theorem dX0_become_61 : decode cX0_become 61 = .ok (.getfield 24, 3) := by decide +kernel
theorem dX0_become_64 : decode cX0_become 64 = .ok (.iconst 0, 1) := by decide +kernel
theorem dX0_become_65 : decode cX0_become 65 = .ok (.aload_n 0, 1) := by decide +kernel
theorem dX0_become_66 : decode cX0_become 66 = .ok (.getfield 24, 3) := by decide +kernel
theorem dX0_become_69 : decode cX0_become 69 = .ok (.iconst 0, 1) := by decide +kernel
theorem dX0_become_70 : decode cX0_become 70 = .ok (.bipush 7, 2) := by decide +kernel
theorem dX0_become_72 : decode cX0_become 72 = .ok (.invokestatic 37, 3) := by decide +kernel
theorem dX0_become_75 : decode cX0_become 75 = .ok (.aload_n 0, 1) := by decide +kernel
theorem dX0_become_76 : decode cX0_become 76 = .ok (.aload_n 1, 1) := by decide +kernel
theorem dX0_become_77 : decode cX0_become 77 = .ok (.getfield 43, 3) := by decide +kernel
theorem dX0_become_80 : decode cX0_become 80 = .ok (.putfield 43, 3) := by decide +kernel
theorem dX0_become_83 : decode cX0_become 83 = .ok (.aload_n 0, 1) := by decide +kernel
theorem dX0_become_84 : decode cX0_become 84 = .ok (.aload_n 1, 1) := by decide +kernel
theorem dX0_become_85 : decode cX0_become 85 = .ok (.getfield 46, 3) := by decide +kernel
theorem dX0_become_88 : decode cX0_become 88 = .ok (.putfield 46, 3) := by decide +kernel
theorem dX0_become_91 : decode cX0_become 91 = .ok (.aload_n 0, 1) := by decide +kernel
theorem dX0_become_92 : decode cX0_become 92 = .ok (.aload_n 1, 1) := by decide +kernel
theorem dX0_become_93 : decode cX0_become 93 = .ok (.getfield 27, 3) := by decide +kernel
theorem dX0_become_96 : decode cX0_become 96 = .ok (.putfield 27, 3) := by decide +kernel
theorem dX0_become_99 : decode cX0_become 99 = .ok (.aload_n 0, 1) := by decide +kernel
theorem dX0_become_100 : decode cX0_become 100 = .ok (.aload_n 1, 1) := by decide +kernel
theorem dX0_become_101 : decode cX0_become 101 = .ok (.getfield 31, 3) := by decide +kernel
theorem dX0_become_104 : decode cX0_become 104 = .ok (.putfield 31, 3) := by decide +kernel
theorem dX0_become_107 : decode cX0_become 107 = .ok (.aload_n 0, 1) := by decide +kernel
theorem dX0_become_108 : decode cX0_become 108 = .ok (.aload_n 1, 1) := by decide +kernel
theorem dX0_become_109 : decode cX0_become 109 = .ok (.getfield 34, 3) := by decide +kernel
theorem dX0_become_112 : decode cX0_become 112 = .ok (.putfield 34, 3) := by decide +kernel
theorem dX0_become_115 : decode cX0_become 115 = .ok (.aload_n 0, 1) := by decide +kernel
theorem dX0_become_116 : decode cX0_become 116 = .ok (.aload_n 1, 1) := by decide +kernel
theorem dX0_become_117 : decode cX0_become 117 = .ok (.getfield 49, 3) := by decide +kernel
theorem dX0_become_120 : decode cX0_become 120 = .ok (.putfield 49, 3) := by decide +kernel
theorem dX0_become_123 : decode cX0_become 123 = .ok (.return_, 1) := by decide +kernel
set_option maxRecDepth 20000 in
theorem ggX0_refusalOfShore_X0_shoreAt : GoodIn wsX0_refusalOfShore wsX0_shoreAt := goodIn_r _ [6, 1, 7, 8, 9, 10, 11, 12, 13, 14, 15, 16, 17, 18] (by decide +kernel) (by decide +kernel)
set_option maxRecDepth 20000 in
theorem gX0_refusalOfShore_X0_shoreAt : GoodIn wsX0_refusalOfShore (wsV RX0 52 RX0 yX0_shoreAt wsX0_shoreAt) := goodIn_app (goodIn_of _ (by decide +kernel)) ggX0_refusalOfShore_X0_shoreAt
theorem dX0_refusalOfShore_0 : decode cX0_refusalOfShore 0 = .ok (.iload_n 1, 1) := by decide +kernel
theorem dX0_refusalOfShore_1 : decode cX0_refusalOfShore 1 = .ok (.ifCond .lt 8, 3) := by decide +kernel
theorem dX0_refusalOfShore_4 : decode cX0_refusalOfShore 4 = .ok (.iload_n 1, 1) := by decide +kernel
theorem dX0_refusalOfShore_5 : decode cX0_refusalOfShore 5 = .ok (.iconst 5, 1) := by decide +kernel
theorem dX0_refusalOfShore_6 : decode cX0_refusalOfShore 6 = .ok (.if_icmp .le 6, 3) := by decide +kernel
theorem dX0_refusalOfShore_9 : decode cX0_refusalOfShore 9 = .ok (.bipush (-2), 2) := by decide +kernel
theorem dX0_refusalOfShore_11 : decode cX0_refusalOfShore 11 = .ok (.ireturn, 1) := by decide +kernel
theorem dX0_refusalOfShore_12 : decode cX0_refusalOfShore 12 = .ok (.iload_n 2, 1) := by decide +kernel
theorem dX0_refusalOfShore_13 : decode cX0_refusalOfShore 13 = .ok (.ifCond .ge 6, 3) := by decide +kernel
theorem dX0_refusalOfShore_16 : decode cX0_refusalOfShore 16 = .ok (.bipush (-4), 2) := by decide +kernel
theorem dX0_refusalOfShore_18 : decode cX0_refusalOfShore 18 = .ok (.ireturn, 1) := by decide +kernel
theorem dX0_refusalOfShore_19 : decode cX0_refusalOfShore 19 = .ok (.iload_n 2, 1) := by decide +kernel
theorem dX0_refusalOfShore_20 : decode cX0_refusalOfShore 20 = .ok (.bipush 9, 2) := by decide +kernel
theorem dX0_refusalOfShore_22 : decode cX0_refusalOfShore 22 = .ok (.if_icmp .gt 12, 3) := by decide +kernel
theorem dX0_refusalOfShore_25 : decode cX0_refusalOfShore 25 = .ok (.aload_n 0, 1) := by decide +kernel
theorem dX0_refusalOfShore_26 : decode cX0_refusalOfShore 26 = .ok (.getfield 46, 3) := by decide +kernel
theorem dX0_refusalOfShore_29 : decode cX0_refusalOfShore 29 = .ok (.bipush 7, 2) := by decide +kernel
theorem dX0_refusalOfShore_31 : decode cX0_refusalOfShore 31 = .ok (.if_icmp .lt 6, 3) := by decide +kernel
theorem dX0_refusalOfShore_34 : decode cX0_refusalOfShore 34 = .ok (.bipush (-6), 2) := by decide +kernel
theorem dX0_refusalOfShore_36 : decode cX0_refusalOfShore 36 = .ok (.ireturn, 1) := by decide +kernel
theorem dX0_refusalOfShore_37 : decode cX0_refusalOfShore 37 = .ok (.iload_n 3, 1) := by decide +kernel
theorem dX0_refusalOfShore_38 : decode cX0_refusalOfShore 38 = .ok (.ifCond .lt 9, 3) := by decide +kernel
theorem dX0_refusalOfShore_41 : decode cX0_refusalOfShore 41 = .ok (.iload_n 3, 1) := by decide +kernel
theorem dX0_refusalOfShore_42 : decode cX0_refusalOfShore 42 = .ok (.bipush 30, 2) := by decide +kernel
theorem dX0_refusalOfShore_44 : decode cX0_refusalOfShore 44 = .ok (.if_icmp .le 5, 3) := by decide +kernel
theorem dX0_refusalOfShore_47 : decode cX0_refusalOfShore 47 = .ok (.iconst (-1), 1) := by decide +kernel
theorem dX0_refusalOfShore_48 : decode cX0_refusalOfShore 48 = .ok (.ireturn, 1) := by decide +kernel
theorem dX0_refusalOfShore_49 : decode cX0_refusalOfShore 49 = .ok (.aload_n 0, 1) := by decide +kernel
theorem dX0_refusalOfShore_50 : decode cX0_refusalOfShore 50 = .ok (.iload_n 3, 1) := by decide +kernel
theorem dX0_refusalOfShore_51 : decode cX0_refusalOfShore 51 = .ok (.invokevirtual 52, 3) := by decide +kernel
theorem dX0_refusalOfShore_54 : decode cX0_refusalOfShore 54 = .ok (.bipush (-9), 2) := by decide +kernel
theorem dX0_refusalOfShore_56 : decode cX0_refusalOfShore 56 = .ok (.if_icmp .eq 8, 3) := by decide +kernel
theorem dX0_refusalOfShore_59 : decode cX0_refusalOfShore 59 = .ok (.bipush (-3), 2) := by decide +kernel
theorem dX0_refusalOfShore_61 : decode cX0_refusalOfShore 61 = .ok (.goto 4, 3) := by decide +kernel
theorem dX0_refusalOfShore_64 : decode cX0_refusalOfShore 64 = .ok (.iconst 0, 1) := by decide +kernel
theorem dX0_refusalOfShore_65 : decode cX0_refusalOfShore 65 = .ok (.ireturn, 1) := by decide +kernel
set_option maxRecDepth 20000 in
theorem ggX0_refusalOfPowder_X4_nobody : GoodIn wsX0_refusalOfPowder wsX4_nobody := goodIn_r _ [4] (by decide +kernel) (by decide +kernel)
set_option maxRecDepth 20000 in
theorem gX0_refusalOfPowder_X4_nobody_n56 : GoodIn wsX0_refusalOfPowder (wsX4_nobody) := ggX0_refusalOfPowder_X4_nobody
set_option maxRecDepth 20000 in
theorem ggX0_refusalOfPowder_X4_outside : GoodIn wsX0_refusalOfPowder wsX4_outside := goodIn_r _ [6, 7, 8, 3, 9] (by decide +kernel) (by decide +kernel)
set_option maxRecDepth 20000 in
theorem gX0_refusalOfPowder_X4_outside_n60 : GoodIn wsX0_refusalOfPowder (wsX4_outside) := ggX0_refusalOfPowder_X4_outside
set_option maxRecDepth 20000 in
theorem ggX0_refusalOfPowder_X4_firstOf : GoodIn wsX0_refusalOfPowder wsX4_firstOf := goodIn_r _ [11] (by decide +kernel) (by decide +kernel)
set_option maxRecDepth 20000 in
theorem gX0_refusalOfPowder_X4_firstOf_n64 : GoodIn wsX0_refusalOfPowder (wsX4_firstOf) := ggX0_refusalOfPowder_X4_firstOf
theorem dX0_refusalOfPowder_0 : decode cX0_refusalOfPowder 0 = .ok (.iload_n 1, 1) := by decide +kernel
theorem dX0_refusalOfPowder_1 : decode cX0_refusalOfPowder 1 = .ok (.aload_n 0, 1) := by decide +kernel
theorem dX0_refusalOfPowder_2 : decode cX0_refusalOfPowder 2 = .ok (.getfield 46, 3) := by decide +kernel
theorem dX0_refusalOfPowder_5 : decode cX0_refusalOfPowder 5 = .ok (.invokestatic 56, 3) := by decide +kernel
theorem dX0_refusalOfPowder_8 : decode cX0_refusalOfPowder 8 = .ok (.iload_n 2, 1) := by decide +kernel
theorem dX0_refusalOfPowder_9 : decode cX0_refusalOfPowder 9 = .ok (.iconst 0, 1) := by decide +kernel
theorem dX0_refusalOfPowder_10 : decode cX0_refusalOfPowder 10 = .ok (.bipush 99, 2) := by decide +kernel
theorem dX0_refusalOfPowder_12 : decode cX0_refusalOfPowder 12 = .ok (.invokestatic 60, 3) := by decide +kernel
theorem dX0_refusalOfPowder_15 : decode cX0_refusalOfPowder 15 = .ok (.invokestatic 64, 3) := by decide +kernel
theorem dX0_refusalOfPowder_18 : decode cX0_refusalOfPowder 18 = .ok (.ireturn, 1) := by decide +kernel
set_option maxRecDepth 20000 in
theorem ggX0_refusalOfIsle_X4_outside : GoodIn wsX0_refusalOfIsle wsX4_outside := goodIn_r _ [3, 4, 5, 2, 6] (by decide +kernel) (by decide +kernel)
set_option maxRecDepth 20000 in
theorem gX0_refusalOfIsle_X4_outside_n60 : GoodIn wsX0_refusalOfIsle (wsX4_outside) := ggX0_refusalOfIsle_X4_outside
set_option maxRecDepth 20000 in
theorem ggX0_refusalOfIsle_X4_unknown : GoodIn wsX0_refusalOfIsle wsX4_unknown := goodIn_r _ [8] (by decide +kernel) (by decide +kernel)
set_option maxRecDepth 20000 in
theorem gX0_refusalOfIsle_X4_unknown_n67 : GoodIn wsX0_refusalOfIsle (wsX4_unknown) := ggX0_refusalOfIsle_X4_unknown
set_option maxRecDepth 20000 in
theorem ggX0_refusalOfIsle_X4_firstOf : GoodIn wsX0_refusalOfIsle wsX4_firstOf := goodIn_r _ [10] (by decide +kernel) (by decide +kernel)
set_option maxRecDepth 20000 in
theorem gX0_refusalOfIsle_X4_firstOf_n64 : GoodIn wsX0_refusalOfIsle (wsX4_firstOf) := ggX0_refusalOfIsle_X4_firstOf
theorem dX0_refusalOfIsle_0 : decode cX0_refusalOfIsle 0 = .ok (.iload_n 1, 1) := by decide +kernel
theorem dX0_refusalOfIsle_1 : decode cX0_refusalOfIsle 1 = .ok (.ifCond .ne 13, 3) := by decide +kernel
theorem dX0_refusalOfIsle_4 : decode cX0_refusalOfIsle 4 = .ok (.iload_n 2, 1) := by decide +kernel
theorem dX0_refusalOfIsle_5 : decode cX0_refusalOfIsle 5 = .ok (.iconst 0, 1) := by decide +kernel
theorem dX0_refusalOfIsle_6 : decode cX0_refusalOfIsle 6 = .ok (.bipush 30, 2) := by decide +kernel
theorem dX0_refusalOfIsle_8 : decode cX0_refusalOfIsle 8 = .ok (.invokestatic 60, 3) := by decide +kernel
theorem dX0_refusalOfIsle_11 : decode cX0_refusalOfIsle 11 = .ok (.goto 9, 3) := by decide +kernel
theorem dX0_refusalOfIsle_14 : decode cX0_refusalOfIsle 14 = .ok (.iload_n 2, 1) := by decide +kernel
theorem dX0_refusalOfIsle_15 : decode cX0_refusalOfIsle 15 = .ok (.iconst 1, 1) := by decide +kernel
theorem dX0_refusalOfIsle_16 : decode cX0_refusalOfIsle 16 = .ok (.iconst 5, 1) := by decide +kernel
theorem dX0_refusalOfIsle_17 : decode cX0_refusalOfIsle 17 = .ok (.invokestatic 60, 3) := by decide +kernel
theorem dX0_refusalOfIsle_20 : decode cX0_refusalOfIsle 20 = .ok (.istore_n 3, 1) := by decide +kernel
theorem dX0_refusalOfIsle_21 : decode cX0_refusalOfIsle 21 = .ok (.iload_n 1, 1) := by decide +kernel
theorem dX0_refusalOfIsle_22 : decode cX0_refusalOfIsle 22 = .ok (.iconst 1, 1) := by decide +kernel
theorem dX0_refusalOfIsle_23 : decode cX0_refusalOfIsle 23 = .ok (.invokestatic 67, 3) := by decide +kernel
theorem dX0_refusalOfIsle_26 : decode cX0_refusalOfIsle 26 = .ok (.iload_n 3, 1) := by decide +kernel
theorem dX0_refusalOfIsle_27 : decode cX0_refusalOfIsle 27 = .ok (.invokestatic 64, 3) := by decide +kernel
theorem dX0_refusalOfIsle_30 : decode cX0_refusalOfIsle 30 = .ok (.ireturn, 1) := by decide +kernel
set_option maxRecDepth 20000 in
theorem ggX0_refusalOfHours_X4_outside : GoodIn wsX0_refusalOfHours wsX4_outside := goodIn_r _ [5, 6, 7, 4, 8] (by decide +kernel) (by decide +kernel)
set_option maxRecDepth 20000 in
theorem gX0_refusalOfHours_X4_outside_n60 : GoodIn wsX0_refusalOfHours (wsX4_outside) := ggX0_refusalOfHours_X4_outside
theorem dX0_refusalOfHours_0 : decode cX0_refusalOfHours 0 = .ok (.iload_n 1, 1) := by decide +kernel
theorem dX0_refusalOfHours_1 : decode cX0_refusalOfHours 1 = .ok (.iconst 1, 1) := by decide +kernel
theorem dX0_refusalOfHours_2 : decode cX0_refusalOfHours 2 = .ok (.bipush 99, 2) := by decide +kernel
theorem dX0_refusalOfHours_4 : decode cX0_refusalOfHours 4 = .ok (.invokestatic 60, 3) := by decide +kernel
theorem dX0_refusalOfHours_7 : decode cX0_refusalOfHours 7 = .ok (.istore_n 2, 1) := by decide +kernel
theorem dX0_refusalOfHours_8 : decode cX0_refusalOfHours 8 = .ok (.iload_n 2, 1) := by decide +kernel
theorem dX0_refusalOfHours_9 : decode cX0_refusalOfHours 9 = .ok (.ifCond .eq 5, 3) := by decide +kernel
theorem dX0_refusalOfHours_12 : decode cX0_refusalOfHours 12 = .ok (.iload_n 2, 1) := by decide +kernel
theorem dX0_refusalOfHours_13 : decode cX0_refusalOfHours 13 = .ok (.ireturn, 1) := by decide +kernel
theorem dX0_refusalOfHours_14 : decode cX0_refusalOfHours 14 = .ok (.aload_n 0, 1) := by decide +kernel
theorem dX0_refusalOfHours_15 : decode cX0_refusalOfHours 15 = .ok (.getfield 49, 3) := by decide +kernel
theorem dX0_refusalOfHours_18 : decode cX0_refusalOfHours 18 = .ok (.aload_n 0, 1) := by decide +kernel
theorem dX0_refusalOfHours_19 : decode cX0_refusalOfHours 19 = .ok (.getfield 34, 3) := by decide +kernel
theorem dX0_refusalOfHours_22 : decode cX0_refusalOfHours 22 = .ok (.iload_n 1, 1) := by decide +kernel
theorem dX0_refusalOfHours_23 : decode cX0_refusalOfHours 23 = .ok (.iadd, 1) := by decide +kernel
theorem dX0_refusalOfHours_24 : decode cX0_refusalOfHours 24 = .ok (.bipush 24, 2) := by decide +kernel
theorem dX0_refusalOfHours_26 : decode cX0_refusalOfHours 26 = .ok (.idiv, 1) := by decide +kernel
theorem dX0_refusalOfHours_27 : decode cX0_refusalOfHours 27 = .ok (.iadd, 1) := by decide +kernel
theorem dX0_refusalOfHours_28 : decode cX0_refusalOfHours 28 = .ok (.sipush 999, 3) := by decide +kernel
theorem dX0_refusalOfHours_31 : decode cX0_refusalOfHours 31 = .ok (.if_icmp .le 8, 3) := by decide +kernel
theorem dX0_refusalOfHours_34 : decode cX0_refusalOfHours 34 = .ok (.bipush (-6), 2) := by decide +kernel
theorem dX0_refusalOfHours_36 : decode cX0_refusalOfHours 36 = .ok (.goto 4, 3) := by decide +kernel
theorem dX0_refusalOfHours_39 : decode cX0_refusalOfHours 39 = .ok (.iconst 0, 1) := by decide +kernel
theorem dX0_refusalOfHours_40 : decode cX0_refusalOfHours 40 = .ok (.ireturn, 1) := by decide +kernel
theorem dX0_add_0 : decode cX0_add 0 = .ok (.aload_n 0, 1) := by decide +kernel
theorem dX0_add_1 : decode cX0_add 1 = .ok (.getfield 46, 3) := by decide +kernel
theorem dX0_add_4 : decode cX0_add 4 = .ok (.bipush 7, 2) := by decide +kernel
theorem dX0_add_6 : decode cX0_add 6 = .ok (.if_icmp .ge 64, 3) := by decide +kernel
theorem dX0_add_9 : decode cX0_add 9 = .ok (.aload_n 0, 1) := by decide +kernel
theorem dX0_add_10 : decode cX0_add 10 = .ok (.getfield 9, 3) := by decide +kernel
theorem dX0_add_13 : decode cX0_add 13 = .ok (.aload_n 0, 1) := by decide +kernel
theorem dX0_add_14 : decode cX0_add 14 = .ok (.getfield 46, 3) := by decide +kernel
theorem dX0_add_17 : decode cX0_add 17 = .ok (.iload_n 1, 1) := by decide +kernel
theorem dX0_add_18 : decode cX0_add 18 = .ok (.iastore, 1) := by decide +kernel
theorem dX0_add_19 : decode cX0_add 19 = .ok (.aload_n 0, 1) := by decide +kernel
theorem dX0_add_20 : decode cX0_add 20 = .ok (.getfield 15, 3) := by decide +kernel
theorem dX0_add_23 : decode cX0_add 23 = .ok (.aload_n 0, 1) := by decide +kernel
theorem dX0_add_24 : decode cX0_add 24 = .ok (.getfield 46, 3) := by decide +kernel
theorem dX0_add_27 : decode cX0_add 27 = .ok (.iload_n 2, 1) := by decide +kernel
theorem dX0_add_28 : decode cX0_add 28 = .ok (.iastore, 1) := by decide +kernel
theorem dX0_add_29 : decode cX0_add 29 = .ok (.aload_n 0, 1) := by decide +kernel
theorem dX0_add_30 : decode cX0_add 30 = .ok (.getfield 18, 3) := by decide +kernel
theorem dX0_add_33 : decode cX0_add 33 = .ok (.aload_n 0, 1) := by decide +kernel
theorem dX0_add_34 : decode cX0_add 34 = .ok (.getfield 46, 3) := by decide +kernel
theorem dX0_add_37 : decode cX0_add 37 = .ok (.iload_n 3, 1) := by decide +kernel
theorem dX0_add_38 : decode cX0_add 38 = .ok (.iastore, 1) := by decide +kernel
theorem dX0_add_39 : decode cX0_add 39 = .ok (.aload_n 0, 1) := by decide +kernel
theorem dX0_add_40 : decode cX0_add 40 = .ok (.getfield 21, 3) := by decide +kernel
theorem dX0_add_43 : decode cX0_add 43 = .ok (.aload_n 0, 1) := by decide +kernel
theorem dX0_add_44 : decode cX0_add 44 = .ok (.getfield 46, 3) := by decide +kernel
theorem dX0_add_47 : decode cX0_add 47 = .ok (.bipush 9, 2) := by decide +kernel
theorem dX0_add_49 : decode cX0_add 49 = .ok (.iastore, 1) := by decide +kernel
theorem dX0_add_50 : decode cX0_add 50 = .ok (.aload_n 0, 1) := by decide +kernel
theorem dX0_add_51 : decode cX0_add 51 = .ok (.getfield 24, 3) := by decide +kernel
theorem dX0_add_54 : decode cX0_add 54 = .ok (.aload_n 0, 1) := by decide +kernel
theorem dX0_add_55 : decode cX0_add 55 = .ok (.getfield 46, 3) := by decide +kernel
theorem dX0_add_58 : decode cX0_add 58 = .ok (.iconst 0, 1) := by decide +kernel
theorem dX0_add_59 : decode cX0_add 59 = .ok (.iastore, 1) := by decide +kernel
theorem dX0_add_60 : decode cX0_add 60 = .ok (.aload_n 0, 1) := by decide +kernel
theorem dX0_add_61 : decode cX0_add 61 = .ok (.dup, 1) := by decide +kernel
theorem dX0_add_62 : decode cX0_add 62 = .ok (.getfield 46, 3) := by decide +kernel
theorem dX0_add_65 : decode cX0_add 65 = .ok (.iconst 1, 1) := by decide +kernel
theorem dX0_add_66 : decode cX0_add 66 = .ok (.iadd, 1) := by decide +kernel
theorem dX0_add_67 : decode cX0_add 67 = .ok (.putfield 46, 3) := by decide +kernel
theorem dX0_add_70 : decode cX0_add 70 = .ok (.return_, 1) := by decide +kernel
theorem dX0_setPowder_0 : decode cX0_setPowder 0 = .ok (.aload_n 0, 1) := by decide +kernel
theorem dX0_setPowder_1 : decode cX0_setPowder 1 = .ok (.getfield 21, 3) := by decide +kernel
theorem dX0_setPowder_4 : decode cX0_setPowder 4 = .ok (.iload_n 1, 1) := by decide +kernel
theorem dX0_setPowder_5 : decode cX0_setPowder 5 = .ok (.iload_n 2, 1) := by decide +kernel
theorem dX0_setPowder_6 : decode cX0_setPowder 6 = .ok (.iastore, 1) := by decide +kernel
theorem dX0_setPowder_7 : decode cX0_setPowder 7 = .ok (.return_, 1) := by decide +kernel
theorem dX0_turnQuiet_0 : decode cX0_turnQuiet 0 = .ok (.aload_n 0, 1) := by decide +kernel
theorem dX0_turnQuiet_1 : decode cX0_turnQuiet 1 = .ok (.dup, 1) := by decide +kernel
theorem dX0_turnQuiet_2 : decode cX0_turnQuiet 2 = .ok (.getfield 43, 3) := by decide +kernel
theorem dX0_turnQuiet_5 : decode cX0_turnQuiet 5 = .ok (.iconst 1, 1) := by decide +kernel
theorem dX0_turnQuiet_6 : decode cX0_turnQuiet 6 = .ok (.iload_n 1, 1) := by decide +kernel
theorem dX0_turnQuiet_7 : decode cX0_turnQuiet 7 = .ok (.ishl, 1) := by decide +kernel
theorem dX0_turnQuiet_8 : decode cX0_turnQuiet 8 = .ok (.ixor, 1) := by decide +kernel
theorem dX0_turnQuiet_9 : decode cX0_turnQuiet 9 = .ok (.putfield 43, 3) := by decide +kernel
theorem dX0_turnQuiet_12 : decode cX0_turnQuiet 12 = .ok (.return_, 1) := by decide +kernel
theorem dX0_setQuiet_0 : decode cX0_setQuiet 0 = .ok (.aload_n 0, 1) := by decide +kernel
theorem dX0_setQuiet_1 : decode cX0_setQuiet 1 = .ok (.iload_n 2, 1) := by decide +kernel
theorem dX0_setQuiet_2 : decode cX0_setQuiet 2 = .ok (.ifCond .eq 14, 3) := by decide +kernel
theorem dX0_setQuiet_5 : decode cX0_setQuiet 5 = .ok (.aload_n 0, 1) := by decide +kernel
theorem dX0_setQuiet_6 : decode cX0_setQuiet 6 = .ok (.getfield 43, 3) := by decide +kernel
theorem dX0_setQuiet_9 : decode cX0_setQuiet 9 = .ok (.iconst 1, 1) := by decide +kernel
theorem dX0_setQuiet_10 : decode cX0_setQuiet 10 = .ok (.iload_n 1, 1) := by decide +kernel
theorem dX0_setQuiet_11 : decode cX0_setQuiet 11 = .ok (.ishl, 1) := by decide +kernel
theorem dX0_setQuiet_12 : decode cX0_setQuiet 12 = .ok (.ior, 1) := by decide +kernel
theorem dX0_setQuiet_13 : decode cX0_setQuiet 13 = .ok (.goto 13, 3) := by decide +kernel
theorem dX0_setQuiet_16 : decode cX0_setQuiet 16 = .ok (.aload_n 0, 1) := by decide +kernel
theorem dX0_setQuiet_17 : decode cX0_setQuiet 17 = .ok (.getfield 43, 3) := by decide +kernel
theorem dX0_setQuiet_20 : decode cX0_setQuiet 20 = .ok (.iconst 1, 1) := by decide +kernel
theorem dX0_setQuiet_21 : decode cX0_setQuiet 21 = .ok (.iload_n 1, 1) := by decide +kernel
theorem dX0_setQuiet_22 : decode cX0_setQuiet 22 = .ok (.ishl, 1) := by decide +kernel
theorem dX0_setQuiet_23 : decode cX0_setQuiet 23 = .ok (.iconst (-1), 1) := by decide +kernel
theorem dX0_setQuiet_24 : decode cX0_setQuiet 24 = .ok (.ixor, 1) := by decide +kernel
theorem dX0_setQuiet_25 : decode cX0_setQuiet 25 = .ok (.iand, 1) := by decide +kernel
theorem dX0_setQuiet_26 : decode cX0_setQuiet 26 = .ok (.putfield 43, 3) := by decide +kernel
theorem dX0_setQuiet_29 : decode cX0_setQuiet 29 = .ok (.return_, 1) := by decide +kernel
theorem dX0_setIsle_0 : decode cX0_setIsle 0 = .ok (.iload_n 1, 1) := by decide +kernel
theorem dX0_setIsle_1 : decode cX0_setIsle 1 = .ok (.ifCond .ne 11, 3) := by decide +kernel
theorem dX0_setIsle_4 : decode cX0_setIsle 4 = .ok (.aload_n 0, 1) := by decide +kernel
theorem dX0_setIsle_5 : decode cX0_setIsle 5 = .ok (.iload_n 2, 1) := by decide +kernel
theorem dX0_setIsle_6 : decode cX0_setIsle 6 = .ok (.putfield 27, 3) := by decide +kernel
theorem dX0_setIsle_9 : decode cX0_setIsle 9 = .ok (.goto 8, 3) := by decide +kernel
theorem dX0_setIsle_12 : decode cX0_setIsle 12 = .ok (.aload_n 0, 1) := by decide +kernel
theorem dX0_setIsle_13 : decode cX0_setIsle 13 = .ok (.iload_n 2, 1) := by decide +kernel
theorem dX0_setIsle_14 : decode cX0_setIsle 14 = .ok (.putfield 31, 3) := by decide +kernel
theorem dX0_setIsle_17 : decode cX0_setIsle 17 = .ok (.return_, 1) := by decide +kernel
theorem dX0_shoreAt_0 : decode cX0_shoreAt 0 = .ok (.iconst 0, 1) := by decide +kernel
theorem dX0_shoreAt_1 : decode cX0_shoreAt 1 = .ok (.istore_n 2, 1) := by decide +kernel
theorem dX0_shoreAt_2 : decode cX0_shoreAt 2 = .ok (.iload_n 2, 1) := by decide +kernel
theorem dX0_shoreAt_3 : decode cX0_shoreAt 3 = .ok (.aload_n 0, 1) := by decide +kernel
theorem dX0_shoreAt_4 : decode cX0_shoreAt 4 = .ok (.getfield 46, 3) := by decide +kernel
theorem dX0_shoreAt_7 : decode cX0_shoreAt 7 = .ok (.if_icmp .ge 21, 3) := by decide +kernel
theorem dX0_shoreAt_10 : decode cX0_shoreAt 10 = .ok (.aload_n 0, 1) := by decide +kernel
theorem dX0_shoreAt_11 : decode cX0_shoreAt 11 = .ok (.getfield 18, 3) := by decide +kernel
theorem dX0_shoreAt_14 : decode cX0_shoreAt 14 = .ok (.iload_n 2, 1) := by decide +kernel
theorem dX0_shoreAt_15 : decode cX0_shoreAt 15 = .ok (.iaload, 1) := by decide +kernel
theorem dX0_shoreAt_16 : decode cX0_shoreAt 16 = .ok (.iload_n 1, 1) := by decide +kernel
theorem dX0_shoreAt_17 : decode cX0_shoreAt 17 = .ok (.if_icmp .ne 5, 3) := by decide +kernel
theorem dX0_shoreAt_20 : decode cX0_shoreAt 20 = .ok (.iload_n 2, 1) := by decide +kernel
theorem dX0_shoreAt_21 : decode cX0_shoreAt 21 = .ok (.ireturn, 1) := by decide +kernel
theorem dX0_shoreAt_22 : decode cX0_shoreAt 22 = .ok (.iinc 2 1, 3) := by decide +kernel
theorem dX0_shoreAt_25 : decode cX0_shoreAt 25 = .ok (.goto (-23), 3) := by decide +kernel
theorem dX0_shoreAt_28 : decode cX0_shoreAt 28 = .ok (.bipush (-9), 2) := by decide +kernel
theorem dX0_shoreAt_30 : decode cX0_shoreAt 30 = .ok (.ireturn, 1) := by decide +kernel
set_option maxRecDepth 20000 in
theorem ggX0_owner_X0_shoreAt : GoodIn wsX0_owner wsX0_shoreAt := goodIn_r _ [6, 7, 8, 9, 10, 11, 12, 13, 14, 15, 16, 17, 18, 19] (by decide +kernel) (by decide +kernel)
set_option maxRecDepth 20000 in
theorem gX0_owner_X0_shoreAt : GoodIn wsX0_owner (wsV RX0 52 RX0 yX0_shoreAt wsX0_shoreAt) := goodIn_app (goodIn_of _ (by decide +kernel)) ggX0_owner_X0_shoreAt
theorem dX0_owner_0 : decode cX0_owner 0 = .ok (.aload_n 0, 1) := by decide +kernel
theorem dX0_owner_1 : decode cX0_owner 1 = .ok (.aload_n 0, 1) := by decide +kernel
theorem dX0_owner_2 : decode cX0_owner 2 = .ok (.getfield 27, 3) := by decide +kernel
theorem dX0_owner_5 : decode cX0_owner 5 = .ok (.invokevirtual 52, 3) := by decide +kernel
theorem dX0_owner_8 : decode cX0_owner 8 = .ok (.ireturn, 1) := by decide +kernel
theorem dX0_hasIsle_0 : decode cX0_hasIsle 0 = .ok (.aload_n 0, 1) := by decide +kernel
theorem dX0_hasIsle_1 : decode cX0_hasIsle 1 = .ok (.getfield 18, 3) := by decide +kernel
theorem dX0_hasIsle_4 : decode cX0_hasIsle 4 = .ok (.iload_n 1, 1) := by decide +kernel
theorem dX0_hasIsle_5 : decode cX0_hasIsle 5 = .ok (.iaload, 1) := by decide +kernel
theorem dX0_hasIsle_6 : decode cX0_hasIsle 6 = .ok (.aload_n 0, 1) := by decide +kernel
theorem dX0_hasIsle_7 : decode cX0_hasIsle 7 = .ok (.getfield 27, 3) := by decide +kernel
theorem dX0_hasIsle_10 : decode cX0_hasIsle 10 = .ok (.if_icmp .ne 7, 3) := by decide +kernel
theorem dX0_hasIsle_13 : decode cX0_hasIsle 13 = .ok (.iconst 1, 1) := by decide +kernel
theorem dX0_hasIsle_14 : decode cX0_hasIsle 14 = .ok (.goto 4, 3) := by decide +kernel
theorem dX0_hasIsle_17 : decode cX0_hasIsle 17 = .ok (.iconst 0, 1) := by decide +kernel
theorem dX0_hasIsle_18 : decode cX0_hasIsle 18 = .ok (.ireturn, 1) := by decide +kernel
theorem dX0_isQuiet_0 : decode cX0_isQuiet 0 = .ok (.aload_n 0, 1) := by decide +kernel
theorem dX0_isQuiet_1 : decode cX0_isQuiet 1 = .ok (.getfield 43, 3) := by decide +kernel
theorem dX0_isQuiet_4 : decode cX0_isQuiet 4 = .ok (.iload_n 1, 1) := by decide +kernel
theorem dX0_isQuiet_5 : decode cX0_isQuiet 5 = .ok (.ishr, 1) := by decide +kernel
theorem dX0_isQuiet_6 : decode cX0_isQuiet 6 = .ok (.iconst 1, 1) := by decide +kernel
theorem dX0_isQuiet_7 : decode cX0_isQuiet 7 = .ok (.iand, 1) := by decide +kernel
theorem dX0_isQuiet_8 : decode cX0_isQuiet 8 = .ok (.iconst 1, 1) := by decide +kernel
theorem dX0_isQuiet_9 : decode cX0_isQuiet 9 = .ok (.if_icmp .ne 7, 3) := by decide +kernel
theorem dX0_isQuiet_12 : decode cX0_isQuiet 12 = .ok (.iconst 1, 1) := by decide +kernel
theorem dX0_isQuiet_13 : decode cX0_isQuiet 13 = .ok (.goto 4, 3) := by decide +kernel
theorem dX0_isQuiet_16 : decode cX0_isQuiet 16 = .ok (.iconst 0, 1) := by decide +kernel
theorem dX0_isQuiet_17 : decode cX0_isQuiet 17 = .ok (.ireturn, 1) := by decide +kernel
theorem dX0_distanceTo_0 : decode cX0_distanceTo 0 = .ok (.aload_n 0, 1) := by decide +kernel
theorem dX0_distanceTo_1 : decode cX0_distanceTo 1 = .ok (.getfield 18, 3) := by decide +kernel
theorem dX0_distanceTo_4 : decode cX0_distanceTo 4 = .ok (.iload_n 1, 1) := by decide +kernel
theorem dX0_distanceTo_5 : decode cX0_distanceTo 5 = .ok (.iaload, 1) := by decide +kernel
theorem dX0_distanceTo_6 : decode cX0_distanceTo 6 = .ok (.aload_n 0, 1) := by decide +kernel
theorem dX0_distanceTo_7 : decode cX0_distanceTo 7 = .ok (.getfield 27, 3) := by decide +kernel
theorem dX0_distanceTo_10 : decode cX0_distanceTo 10 = .ok (.isub, 1) := by decide +kernel
theorem dX0_distanceTo_11 : decode cX0_distanceTo 11 = .ok (.invokestatic 70, 3) := by decide +kernel
theorem dX0_distanceTo_14 : decode cX0_distanceTo 14 = .ok (.ireturn, 1) := by decide +kernel
set_option maxRecDepth 20000 in
theorem ggX0_nearestShore_X0_distanceTo : GoodIn wsX0_nearestShore wsX0_distanceTo := goodIn_r _ [6, 7, 8, 9, 10, 11, 12, 13, 14, 15, 16, 17, 18, 19, 20, 21, 22, 23] (by decide +kernel) (by decide +kernel)
set_option maxRecDepth 20000 in
theorem gX0_nearestShore_X0_distanceTo : GoodIn wsX0_nearestShore (wsV RX0 75 RX0 yX0_distanceTo wsX0_distanceTo) := goodIn_app (goodIn_of _ (by decide +kernel)) ggX0_nearestShore_X0_distanceTo
theorem dX0_nearestShore_0 : decode cX0_nearestShore 0 = .ok (.bipush (-9), 2) := by decide +kernel
theorem dX0_nearestShore_2 : decode cX0_nearestShore 2 = .ok (.istore_n 1, 1) := by decide +kernel
theorem dX0_nearestShore_3 : decode cX0_nearestShore 3 = .ok (.iconst 0, 1) := by decide +kernel
theorem dX0_nearestShore_4 : decode cX0_nearestShore 4 = .ok (.istore_n 2, 1) := by decide +kernel
theorem dX0_nearestShore_5 : decode cX0_nearestShore 5 = .ok (.iload_n 2, 1) := by decide +kernel
theorem dX0_nearestShore_6 : decode cX0_nearestShore 6 = .ok (.aload_n 0, 1) := by decide +kernel
theorem dX0_nearestShore_7 : decode cX0_nearestShore 7 = .ok (.getfield 46, 3) := by decide +kernel
theorem dX0_nearestShore_10 : decode cX0_nearestShore 10 = .ok (.if_icmp .ge 30, 3) := by decide +kernel
theorem dX0_nearestShore_13 : decode cX0_nearestShore 13 = .ok (.iload_n 1, 1) := by decide +kernel
theorem dX0_nearestShore_14 : decode cX0_nearestShore 14 = .ok (.bipush (-9), 2) := by decide +kernel
theorem dX0_nearestShore_16 : decode cX0_nearestShore 16 = .ok (.if_icmp .eq 16, 3) := by decide +kernel
theorem dX0_nearestShore_19 : decode cX0_nearestShore 19 = .ok (.aload_n 0, 1) := by decide +kernel
theorem dX0_nearestShore_20 : decode cX0_nearestShore 20 = .ok (.iload_n 2, 1) := by decide +kernel
theorem dX0_nearestShore_21 : decode cX0_nearestShore 21 = .ok (.invokevirtual 75, 3) := by decide +kernel
theorem dX0_nearestShore_24 : decode cX0_nearestShore 24 = .ok (.aload_n 0, 1) := by decide +kernel
theorem dX0_nearestShore_25 : decode cX0_nearestShore 25 = .ok (.iload_n 1, 1) := by decide +kernel
theorem dX0_nearestShore_26 : decode cX0_nearestShore 26 = .ok (.invokevirtual 75, 3) := by decide +kernel
theorem dX0_nearestShore_29 : decode cX0_nearestShore 29 = .ok (.if_icmp .ge 5, 3) := by decide +kernel
theorem dX0_nearestShore_32 : decode cX0_nearestShore 32 = .ok (.iload_n 2, 1) := by decide +kernel
theorem dX0_nearestShore_33 : decode cX0_nearestShore 33 = .ok (.istore_n 1, 1) := by decide +kernel
theorem dX0_nearestShore_34 : decode cX0_nearestShore 34 = .ok (.iinc 2 1, 3) := by decide +kernel
theorem dX0_nearestShore_37 : decode cX0_nearestShore 37 = .ok (.goto (-32), 3) := by decide +kernel
theorem dX0_nearestShore_40 : decode cX0_nearestShore 40 = .ok (.iload_n 1, 1) := by decide +kernel
theorem dX0_nearestShore_41 : decode cX0_nearestShore 41 = .ok (.ireturn, 1) := by decide +kernel
theorem dX0_placesTogether_0 : decode cX0_placesTogether 0 = .ok (.iconst 0, 1) := by decide +kernel
theorem dX0_placesTogether_1 : decode cX0_placesTogether 1 = .ok (.istore_n 1, 1) := by decide +kernel
theorem dX0_placesTogether_2 : decode cX0_placesTogether 2 = .ok (.iconst 0, 1) := by decide +kernel
theorem dX0_placesTogether_3 : decode cX0_placesTogether 3 = .ok (.istore_n 2, 1) := by decide +kernel
theorem dX0_placesTogether_4 : decode cX0_placesTogether 4 = .ok (.iload_n 2, 1) := by decide +kernel
theorem dX0_placesTogether_5 : decode cX0_placesTogether 5 = .ok (.aload_n 0, 1) := by decide +kernel
theorem dX0_placesTogether_6 : decode cX0_placesTogether 6 = .ok (.getfield 46, 3) := by decide +kernel
theorem dX0_placesTogether_9 : decode cX0_placesTogether 9 = .ok (.if_icmp .ge 18, 3) := by decide +kernel
theorem dX0_placesTogether_12 : decode cX0_placesTogether 12 = .ok (.iload_n 1, 1) := by decide +kernel
theorem dX0_placesTogether_13 : decode cX0_placesTogether 13 = .ok (.aload_n 0, 1) := by decide +kernel
theorem dX0_placesTogether_14 : decode cX0_placesTogether 14 = .ok (.getfield 18, 3) := by decide +kernel
theorem dX0_placesTogether_17 : decode cX0_placesTogether 17 = .ok (.iload_n 2, 1) := by decide +kernel
theorem dX0_placesTogether_18 : decode cX0_placesTogether 18 = .ok (.iaload, 1) := by decide +kernel
theorem dX0_placesTogether_19 : decode cX0_placesTogether 19 = .ok (.iadd, 1) := by decide +kernel
theorem dX0_placesTogether_20 : decode cX0_placesTogether 20 = .ok (.istore_n 1, 1) := by decide +kernel
theorem dX0_placesTogether_21 : decode cX0_placesTogether 21 = .ok (.iinc 2 1, 3) := by decide +kernel
theorem dX0_placesTogether_24 : decode cX0_placesTogether 24 = .ok (.goto (-20), 3) := by decide +kernel
theorem dX0_placesTogether_27 : decode cX0_placesTogether 27 = .ok (.iload_n 1, 1) := by decide +kernel
theorem dX0_placesTogether_28 : decode cX0_placesTogether 28 = .ok (.ireturn, 1) := by decide +kernel
set_option maxRecDepth 20000 in
theorem ggX0_gapFrom_X0_shoreAt : GoodIn wsX0_gapFrom wsX0_shoreAt := goodIn_r _ [5, 6, 7, 8, 9, 10, 11, 12, 13, 14, 15, 16, 17, 18] (by decide +kernel) (by decide +kernel)
set_option maxRecDepth 20000 in
theorem gX0_gapFrom_X0_shoreAt : GoodIn wsX0_gapFrom (wsV RX0 52 RX0 yX0_shoreAt wsX0_shoreAt) := goodIn_app (goodIn_of _ (by decide +kernel)) ggX0_gapFrom_X0_shoreAt
theorem dX0_gapFrom_0 : decode cX0_gapFrom 0 = .ok (.aload_n 0, 1) := by decide +kernel
theorem dX0_gapFrom_1 : decode cX0_gapFrom 1 = .ok (.iload_n 1, 1) := by decide +kernel
theorem dX0_gapFrom_2 : decode cX0_gapFrom 2 = .ok (.invokevirtual 52, 3) := by decide +kernel
theorem dX0_gapFrom_5 : decode cX0_gapFrom 5 = .ok (.bipush (-9), 2) := by decide +kernel
theorem dX0_gapFrom_7 : decode cX0_gapFrom 7 = .ok (.if_icmp .ne 5, 3) := by decide +kernel
theorem dX0_gapFrom_10 : decode cX0_gapFrom 10 = .ok (.iconst 0, 1) := by decide +kernel
theorem dX0_gapFrom_11 : decode cX0_gapFrom 11 = .ok (.ireturn, 1) := by decide +kernel
theorem dX0_gapFrom_12 : decode cX0_gapFrom 12 = .ok (.iload_n 1, 1) := by decide +kernel
theorem dX0_gapFrom_13 : decode cX0_gapFrom 13 = .ok (.iconst 1, 1) := by decide +kernel
theorem dX0_gapFrom_14 : decode cX0_gapFrom 14 = .ok (.iadd, 1) := by decide +kernel
theorem dX0_gapFrom_15 : decode cX0_gapFrom 15 = .ok (.istore_n 2, 1) := by decide +kernel
theorem dX0_gapFrom_16 : decode cX0_gapFrom 16 = .ok (.iload_n 2, 1) := by decide +kernel
theorem dX0_gapFrom_17 : decode cX0_gapFrom 17 = .ok (.bipush 30, 2) := by decide +kernel
theorem dX0_gapFrom_19 : decode cX0_gapFrom 19 = .ok (.if_icmp .gt 23, 3) := by decide +kernel
theorem dX0_gapFrom_22 : decode cX0_gapFrom 22 = .ok (.aload_n 0, 1) := by decide +kernel
theorem dX0_gapFrom_23 : decode cX0_gapFrom 23 = .ok (.iload_n 2, 1) := by decide +kernel
theorem dX0_gapFrom_24 : decode cX0_gapFrom 24 = .ok (.invokevirtual 52, 3) := by decide +kernel
theorem dX0_gapFrom_27 : decode cX0_gapFrom 27 = .ok (.bipush (-9), 2) := by decide +kernel
theorem dX0_gapFrom_29 : decode cX0_gapFrom 29 = .ok (.if_icmp .eq 7, 3) := by decide +kernel
theorem dX0_gapFrom_32 : decode cX0_gapFrom 32 = .ok (.iload_n 2, 1) := by decide +kernel
theorem dX0_gapFrom_33 : decode cX0_gapFrom 33 = .ok (.iload_n 1, 1) := by decide +kernel
theorem dX0_gapFrom_34 : decode cX0_gapFrom 34 = .ok (.isub, 1) := by decide +kernel
theorem dX0_gapFrom_35 : decode cX0_gapFrom 35 = .ok (.ireturn, 1) := by decide +kernel
theorem dX0_gapFrom_36 : decode cX0_gapFrom 36 = .ok (.iinc 2 1, 3) := by decide +kernel
theorem dX0_gapFrom_39 : decode cX0_gapFrom 39 = .ok (.goto (-23), 3) := by decide +kernel
theorem dX0_gapFrom_42 : decode cX0_gapFrom 42 = .ok (.iconst 0, 1) := by decide +kernel
theorem dX0_gapFrom_43 : decode cX0_gapFrom 43 = .ok (.ireturn, 1) := by decide +kernel
set_option maxRecDepth 20000 in
theorem ggX0_widestGap_X0_gapFrom : GoodIn wsX0_widestGap wsX0_gapFrom := goodIn_r _ [5, 6, 7, 8, 4, 9, 10, 11, 12, 13, 14, 15, 16, 17, 18, 19, 20, 21, 22] (by decide +kernel) (by decide +kernel)
set_option maxRecDepth 20000 in
theorem gX0_widestGap_X0_gapFrom : GoodIn wsX0_widestGap (wsV RX0 78 RX0 yX0_gapFrom wsX0_gapFrom) := goodIn_app (goodIn_of _ (by decide +kernel)) ggX0_widestGap_X0_gapFrom
theorem dX0_widestGap_0 : decode cX0_widestGap 0 = .ok (.bipush (-9), 2) := by decide +kernel
theorem dX0_widestGap_2 : decode cX0_widestGap 2 = .ok (.istore_n 1, 1) := by decide +kernel
theorem dX0_widestGap_3 : decode cX0_widestGap 3 = .ok (.iconst 0, 1) := by decide +kernel
theorem dX0_widestGap_4 : decode cX0_widestGap 4 = .ok (.istore_n 2, 1) := by decide +kernel
theorem dX0_widestGap_5 : decode cX0_widestGap 5 = .ok (.iconst 0, 1) := by decide +kernel
theorem dX0_widestGap_6 : decode cX0_widestGap 6 = .ok (.istore_n 3, 1) := by decide +kernel
theorem dX0_widestGap_7 : decode cX0_widestGap 7 = .ok (.iload_n 3, 1) := by decide +kernel
theorem dX0_widestGap_8 : decode cX0_widestGap 8 = .ok (.bipush 30, 2) := by decide +kernel
theorem dX0_widestGap_10 : decode cX0_widestGap 10 = .ok (.if_icmp .gt 26, 3) := by decide +kernel
theorem dX0_widestGap_13 : decode cX0_widestGap 13 = .ok (.aload_n 0, 1) := by decide +kernel
theorem dX0_widestGap_14 : decode cX0_widestGap 14 = .ok (.iload_n 3, 1) := by decide +kernel
theorem dX0_widestGap_15 : decode cX0_widestGap 15 = .ok (.invokevirtual 78, 3) := by decide +kernel
theorem dX0_widestGap_18 : decode cX0_widestGap 18 = .ok (.iload_n 2, 1) := by decide +kernel
theorem dX0_widestGap_19 : decode cX0_widestGap 19 = .ok (.if_icmp .le 11, 3) := by decide +kernel
theorem dX0_widestGap_22 : decode cX0_widestGap 22 = .ok (.iload_n 3, 1) := by decide +kernel
theorem dX0_widestGap_23 : decode cX0_widestGap 23 = .ok (.istore_n 1, 1) := by decide +kernel
theorem dX0_widestGap_24 : decode cX0_widestGap 24 = .ok (.aload_n 0, 1) := by decide +kernel
theorem dX0_widestGap_25 : decode cX0_widestGap 25 = .ok (.iload_n 3, 1) := by decide +kernel
theorem dX0_widestGap_26 : decode cX0_widestGap 26 = .ok (.invokevirtual 78, 3) := by decide +kernel
theorem dX0_widestGap_29 : decode cX0_widestGap 29 = .ok (.istore_n 2, 1) := by decide +kernel
theorem dX0_widestGap_30 : decode cX0_widestGap 30 = .ok (.iinc 3 1, 3) := by decide +kernel
theorem dX0_widestGap_33 : decode cX0_widestGap 33 = .ok (.goto (-26), 3) := by decide +kernel
theorem dX0_widestGap_36 : decode cX0_widestGap 36 = .ok (.iload_n 1, 1) := by decide +kernel
theorem dX0_widestGap_37 : decode cX0_widestGap 37 = .ok (.ireturn, 1) := by decide +kernel
theorem dX0_joyTogether_0 : decode cX0_joyTogether 0 = .ok (.iconst 0, 1) := by decide +kernel
theorem dX0_joyTogether_1 : decode cX0_joyTogether 1 = .ok (.istore_n 1, 1) := by decide +kernel
theorem dX0_joyTogether_2 : decode cX0_joyTogether 2 = .ok (.iconst 0, 1) := by decide +kernel
theorem dX0_joyTogether_3 : decode cX0_joyTogether 3 = .ok (.istore_n 2, 1) := by decide +kernel
theorem dX0_joyTogether_4 : decode cX0_joyTogether 4 = .ok (.iload_n 2, 1) := by decide +kernel
theorem dX0_joyTogether_5 : decode cX0_joyTogether 5 = .ok (.aload_n 0, 1) := by decide +kernel
theorem dX0_joyTogether_6 : decode cX0_joyTogether 6 = .ok (.getfield 46, 3) := by decide +kernel
theorem dX0_joyTogether_9 : decode cX0_joyTogether 9 = .ok (.if_icmp .ge 18, 3) := by decide +kernel
theorem dX0_joyTogether_12 : decode cX0_joyTogether 12 = .ok (.iload_n 1, 1) := by decide +kernel
theorem dX0_joyTogether_13 : decode cX0_joyTogether 13 = .ok (.aload_n 0, 1) := by decide +kernel
theorem dX0_joyTogether_14 : decode cX0_joyTogether 14 = .ok (.getfield 24, 3) := by decide +kernel
theorem dX0_joyTogether_17 : decode cX0_joyTogether 17 = .ok (.iload_n 2, 1) := by decide +kernel
theorem dX0_joyTogether_18 : decode cX0_joyTogether 18 = .ok (.iaload, 1) := by decide +kernel
theorem dX0_joyTogether_19 : decode cX0_joyTogether 19 = .ok (.iadd, 1) := by decide +kernel
theorem dX0_joyTogether_20 : decode cX0_joyTogether 20 = .ok (.istore_n 1, 1) := by decide +kernel
theorem dX0_joyTogether_21 : decode cX0_joyTogether 21 = .ok (.iinc 2 1, 3) := by decide +kernel
theorem dX0_joyTogether_24 : decode cX0_joyTogether 24 = .ok (.goto (-20), 3) := by decide +kernel
theorem dX0_joyTogether_27 : decode cX0_joyTogether 27 = .ok (.iload_n 1, 1) := by decide +kernel
theorem dX0_joyTogether_28 : decode cX0_joyTogether 28 = .ok (.ireturn, 1) := by decide +kernel
theorem dX0_joylessBits_0 : decode cX0_joylessBits 0 = .ok (.iconst 0, 1) := by decide +kernel
theorem dX0_joylessBits_1 : decode cX0_joylessBits 1 = .ok (.istore_n 1, 1) := by decide +kernel
theorem dX0_joylessBits_2 : decode cX0_joylessBits 2 = .ok (.iconst 0, 1) := by decide +kernel
theorem dX0_joylessBits_3 : decode cX0_joylessBits 3 = .ok (.istore_n 2, 1) := by decide +kernel
theorem dX0_joylessBits_4 : decode cX0_joylessBits 4 = .ok (.iload_n 2, 1) := by decide +kernel
theorem dX0_joylessBits_5 : decode cX0_joylessBits 5 = .ok (.aload_n 0, 1) := by decide +kernel
theorem dX0_joylessBits_6 : decode cX0_joylessBits 6 = .ok (.getfield 46, 3) := by decide +kernel
theorem dX0_joylessBits_9 : decode cX0_joylessBits 9 = .ok (.if_icmp .ge 24, 3) := by decide +kernel
theorem dX0_joylessBits_12 : decode cX0_joylessBits 12 = .ok (.aload_n 0, 1) := by decide +kernel
theorem dX0_joylessBits_13 : decode cX0_joylessBits 13 = .ok (.getfield 24, 3) := by decide +kernel
theorem dX0_joylessBits_16 : decode cX0_joylessBits 16 = .ok (.iload_n 2, 1) := by decide +kernel
theorem dX0_joylessBits_17 : decode cX0_joylessBits 17 = .ok (.iaload, 1) := by decide +kernel
theorem dX0_joylessBits_18 : decode cX0_joylessBits 18 = .ok (.ifCond .ne 9, 3) := by decide +kernel
theorem dX0_joylessBits_21 : decode cX0_joylessBits 21 = .ok (.iload_n 1, 1) := by decide +kernel
theorem dX0_joylessBits_22 : decode cX0_joylessBits 22 = .ok (.iconst 1, 1) := by decide +kernel
theorem dX0_joylessBits_23 : decode cX0_joylessBits 23 = .ok (.iload_n 2, 1) := by decide +kernel
theorem dX0_joylessBits_24 : decode cX0_joylessBits 24 = .ok (.ishl, 1) := by decide +kernel
theorem dX0_joylessBits_25 : decode cX0_joylessBits 25 = .ok (.ior, 1) := by decide +kernel
theorem dX0_joylessBits_26 : decode cX0_joylessBits 26 = .ok (.istore_n 1, 1) := by decide +kernel
theorem dX0_joylessBits_27 : decode cX0_joylessBits 27 = .ok (.iinc 2 1, 3) := by decide +kernel
theorem dX0_joylessBits_30 : decode cX0_joylessBits 30 = .ok (.goto (-26), 3) := by decide +kernel
theorem dX0_joylessBits_33 : decode cX0_joylessBits 33 = .ok (.iload_n 1, 1) := by decide +kernel
theorem dX0_joylessBits_34 : decode cX0_joylessBits 34 = .ok (.ireturn, 1) := by decide +kernel
theorem dX0_powderTogether_0 : decode cX0_powderTogether 0 = .ok (.iconst 0, 1) := by decide +kernel
theorem dX0_powderTogether_1 : decode cX0_powderTogether 1 = .ok (.istore_n 1, 1) := by decide +kernel
theorem dX0_powderTogether_2 : decode cX0_powderTogether 2 = .ok (.iconst 0, 1) := by decide +kernel
theorem dX0_powderTogether_3 : decode cX0_powderTogether 3 = .ok (.istore_n 2, 1) := by decide +kernel
theorem dX0_powderTogether_4 : decode cX0_powderTogether 4 = .ok (.iload_n 2, 1) := by decide +kernel
theorem dX0_powderTogether_5 : decode cX0_powderTogether 5 = .ok (.aload_n 0, 1) := by decide +kernel
theorem dX0_powderTogether_6 : decode cX0_powderTogether 6 = .ok (.getfield 46, 3) := by decide +kernel
theorem dX0_powderTogether_9 : decode cX0_powderTogether 9 = .ok (.if_icmp .ge 18, 3) := by decide +kernel
theorem dX0_powderTogether_12 : decode cX0_powderTogether 12 = .ok (.iload_n 1, 1) := by decide +kernel
theorem dX0_powderTogether_13 : decode cX0_powderTogether 13 = .ok (.aload_n 0, 1) := by decide +kernel
theorem dX0_powderTogether_14 : decode cX0_powderTogether 14 = .ok (.getfield 21, 3) := by decide +kernel
theorem dX0_powderTogether_17 : decode cX0_powderTogether 17 = .ok (.iload_n 2, 1) := by decide +kernel
theorem dX0_powderTogether_18 : decode cX0_powderTogether 18 = .ok (.iaload, 1) := by decide +kernel
theorem dX0_powderTogether_19 : decode cX0_powderTogether 19 = .ok (.iadd, 1) := by decide +kernel
theorem dX0_powderTogether_20 : decode cX0_powderTogether 20 = .ok (.istore_n 1, 1) := by decide +kernel
theorem dX0_powderTogether_21 : decode cX0_powderTogether 21 = .ok (.iinc 2 1, 3) := by decide +kernel
theorem dX0_powderTogether_24 : decode cX0_powderTogether 24 = .ok (.goto (-20), 3) := by decide +kernel
theorem dX0_powderTogether_27 : decode cX0_powderTogether 27 = .ok (.iload_n 1, 1) := by decide +kernel
theorem dX0_powderTogether_28 : decode cX0_powderTogether 28 = .ok (.ireturn, 1) := by decide +kernel
theorem dX0_loudOf_0 : decode cX0_loudOf 0 = .ok (.aload_n 0, 1) := by decide +kernel
theorem dX0_loudOf_1 : decode cX0_loudOf 1 = .ok (.getfield 15, 3) := by decide +kernel
theorem dX0_loudOf_4 : decode cX0_loudOf 4 = .ok (.iload_n 1, 1) := by decide +kernel
theorem dX0_loudOf_5 : decode cX0_loudOf 5 = .ok (.iaload, 1) := by decide +kernel
theorem dX0_loudOf_6 : decode cX0_loudOf 6 = .ok (.istore_n 3, 1) := by decide +kernel
theorem dX0_loudOf_7 : decode cX0_loudOf 7 = .ok (.iload_n 2, 1) := by decide +kernel
theorem dX0_loudOf_8 : decode cX0_loudOf 8 = .ok (.iconst 2, 1) := by decide +kernel
theorem dX0_loudOf_9 : decode cX0_loudOf 9 = .ok (.irem, 1) := by decide +kernel
theorem dX0_loudOf_10 : decode cX0_loudOf 10 = .ok (.ifCond .ne 9, 3) := by decide +kernel
theorem dX0_loudOf_13 : decode cX0_loudOf 13 = .ok (.iload_n 3, 1) := by decide +kernel
theorem dX0_loudOf_14 : decode cX0_loudOf 14 = .ok (.iconst 3, 1) := by decide +kernel
theorem dX0_loudOf_15 : decode cX0_loudOf 15 = .ok (.iadd, 1) := by decide +kernel
theorem dX0_loudOf_16 : decode cX0_loudOf 16 = .ok (.goto 4, 3) := by decide +kernel
theorem dX0_loudOf_19 : decode cX0_loudOf 19 = .ok (.iconst 0, 1) := by decide +kernel
theorem dX0_loudOf_20 : decode cX0_loudOf 20 = .ok (.istore 4, 2) := by decide +kernel
theorem dX0_loudOf_22 : decode cX0_loudOf 22 = .ok (.iload_n 2, 1) := by decide +kernel
theorem dX0_loudOf_23 : decode cX0_loudOf 23 = .ok (.bipush 9, 2) := by decide +kernel
theorem dX0_loudOf_25 : decode cX0_loudOf 25 = .ok (.if_icmp .lt 9, 3) := by decide +kernel
theorem dX0_loudOf_28 : decode cX0_loudOf 28 = .ok (.iload_n 2, 1) := by decide +kernel
theorem dX0_loudOf_29 : decode cX0_loudOf 29 = .ok (.bipush 11, 2) := by decide +kernel
theorem dX0_loudOf_31 : decode cX0_loudOf 31 = .ok (.if_icmp .le 15, 3) := by decide +kernel
theorem dX0_loudOf_34 : decode cX0_loudOf 34 = .ok (.iload_n 2, 1) := by decide +kernel
theorem dX0_loudOf_35 : decode cX0_loudOf 35 = .ok (.bipush 18, 2) := by decide +kernel
theorem dX0_loudOf_37 : decode cX0_loudOf 37 = .ok (.if_icmp .lt 13, 3) := by decide +kernel
theorem dX0_loudOf_40 : decode cX0_loudOf 40 = .ok (.iload_n 2, 1) := by decide +kernel
theorem dX0_loudOf_41 : decode cX0_loudOf 41 = .ok (.bipush 20, 2) := by decide +kernel
theorem dX0_loudOf_43 : decode cX0_loudOf 43 = .ok (.if_icmp .gt 7, 3) := by decide +kernel
theorem dX0_loudOf_46 : decode cX0_loudOf 46 = .ok (.iconst 1, 1) := by decide +kernel
theorem dX0_loudOf_47 : decode cX0_loudOf 47 = .ok (.goto 4, 3) := by decide +kernel
theorem dX0_loudOf_50 : decode cX0_loudOf 50 = .ok (.iconst 0, 1) := by decide +kernel
theorem dX0_loudOf_51 : decode cX0_loudOf 51 = .ok (.istore 5, 2) := by decide +kernel
theorem dX0_loudOf_53 : decode cX0_loudOf 53 = .ok (.aload_n 0, 1) := by decide +kernel
theorem dX0_loudOf_54 : decode cX0_loudOf 54 = .ok (.getfield 9, 3) := by decide +kernel
theorem dX0_loudOf_57 : decode cX0_loudOf 57 = .ok (.iload_n 1, 1) := by decide +kernel
theorem dX0_loudOf_58 : decode cX0_loudOf 58 = .ok (.iaload, 1) := by decide +kernel
theorem dX0_loudOf_59 : decode cX0_loudOf 59 = .ok (.tableswitch 75 0 4 #[33, 35, 38, 40, 55], 33) := by decide +kernel
theorem dX0_loudOf_92 : decode cX0_loudOf 92 = .ok (.iload_n 3, 1) := by decide +kernel
theorem dX0_loudOf_93 : decode cX0_loudOf 93 = .ok (.ireturn, 1) := by decide +kernel
theorem dX0_loudOf_94 : decode cX0_loudOf 94 = .ok (.iload 4, 2) := by decide +kernel
theorem dX0_loudOf_96 : decode cX0_loudOf 96 = .ok (.ireturn, 1) := by decide +kernel
theorem dX0_loudOf_97 : decode cX0_loudOf 97 = .ok (.iconst 4, 1) := by decide +kernel
theorem dX0_loudOf_98 : decode cX0_loudOf 98 = .ok (.ireturn, 1) := by decide +kernel
theorem dX0_loudOf_99 : decode cX0_loudOf 99 = .ok (.iload 5, 2) := by decide +kernel
theorem dX0_loudOf_101 : decode cX0_loudOf 101 = .ok (.ifCond .eq 10, 3) := by decide +kernel
theorem dX0_loudOf_104 : decode cX0_loudOf 104 = .ok (.iconst 2, 1) := by decide +kernel
theorem dX0_loudOf_105 : decode cX0_loudOf 105 = .ok (.iload 4, 2) := by decide +kernel
theorem dX0_loudOf_107 : decode cX0_loudOf 107 = .ok (.imul, 1) := by decide +kernel
theorem dX0_loudOf_108 : decode cX0_loudOf 108 = .ok (.goto 5, 3) := by decide +kernel
theorem dX0_loudOf_111 : decode cX0_loudOf 111 = .ok (.iload 4, 2) := by decide +kernel
theorem dX0_loudOf_113 : decode cX0_loudOf 113 = .ok (.ireturn, 1) := by decide +kernel
theorem dX0_loudOf_114 : decode cX0_loudOf 114 = .ok (.iload_n 2, 1) := by decide +kernel
theorem dX0_loudOf_115 : decode cX0_loudOf 115 = .ok (.iload_n 3, 1) := by decide +kernel
theorem dX0_loudOf_116 : decode cX0_loudOf 116 = .ok (.if_icmp .eq 11, 3) := by decide +kernel
theorem dX0_loudOf_119 : decode cX0_loudOf 119 = .ok (.iload_n 2, 1) := by decide +kernel
theorem dX0_loudOf_120 : decode cX0_loudOf 120 = .ok (.iload_n 3, 1) := by decide +kernel
theorem dX0_loudOf_121 : decode cX0_loudOf 121 = .ok (.bipush 12, 2) := by decide +kernel
theorem dX0_loudOf_123 : decode cX0_loudOf 123 = .ok (.iadd, 1) := by decide +kernel
theorem dX0_loudOf_124 : decode cX0_loudOf 124 = .ok (.if_icmp .ne 8, 3) := by decide +kernel
theorem dX0_loudOf_127 : decode cX0_loudOf 127 = .ok (.bipush 30, 2) := by decide +kernel
theorem dX0_loudOf_129 : decode cX0_loudOf 129 = .ok (.goto 4, 3) := by decide +kernel
theorem dX0_loudOf_132 : decode cX0_loudOf 132 = .ok (.iconst 0, 1) := by decide +kernel
theorem dX0_loudOf_133 : decode cX0_loudOf 133 = .ok (.ireturn, 1) := by decide +kernel
theorem dX0_loudOf_134 : decode cX0_loudOf 134 = .ok (.iconst 1, 1) := by decide +kernel
theorem dX0_loudOf_135 : decode cX0_loudOf 135 = .ok (.ireturn, 1) := by decide +kernel
theorem dX0_costOf_0 : decode cX0_costOf 0 = .ok (.aload_n 0, 1) := by decide +kernel
theorem dX0_costOf_1 : decode cX0_costOf 1 = .ok (.getfield 9, 3) := by decide +kernel
theorem dX0_costOf_4 : decode cX0_costOf 4 = .ok (.iload_n 1, 1) := by decide +kernel
theorem dX0_costOf_5 : decode cX0_costOf 5 = .ok (.iaload, 1) := by decide +kernel
theorem dX0_costOf_6 : decode cX0_costOf 6 = .ok (.tableswitch 49 1 4 #[30, 49, 30, 47], 30) := by decide +kernel
theorem dX0_costOf_36 : decode cX0_costOf 36 = .ok (.aload_n 0, 1) := by decide +kernel
theorem dX0_costOf_37 : decode cX0_costOf 37 = .ok (.getfield 15, 3) := by decide +kernel
theorem dX0_costOf_40 : decode cX0_costOf 40 = .ok (.iload_n 1, 1) := by decide +kernel
theorem dX0_costOf_41 : decode cX0_costOf 41 = .ok (.iaload, 1) := by decide +kernel
theorem dX0_costOf_42 : decode cX0_costOf 42 = .ok (.bipush 7, 2) := by decide +kernel
theorem dX0_costOf_44 : decode cX0_costOf 44 = .ok (.if_icmp .lt 7, 3) := by decide +kernel
theorem dX0_costOf_47 : decode cX0_costOf 47 = .ok (.iconst 1, 1) := by decide +kernel
theorem dX0_costOf_48 : decode cX0_costOf 48 = .ok (.goto 4, 3) := by decide +kernel
theorem dX0_costOf_51 : decode cX0_costOf 51 = .ok (.iconst 0, 1) := by decide +kernel
theorem dX0_costOf_52 : decode cX0_costOf 52 = .ok (.ireturn, 1) := by decide +kernel
theorem dX0_costOf_53 : decode cX0_costOf 53 = .ok (.iconst 5, 1) := by decide +kernel
theorem dX0_costOf_54 : decode cX0_costOf 54 = .ok (.ireturn, 1) := by decide +kernel
theorem dX0_costOf_55 : decode cX0_costOf 55 = .ok (.iconst 0, 1) := by decide +kernel
theorem dX0_costOf_56 : decode cX0_costOf 56 = .ok (.ireturn, 1) := by decide +kernel
set_option maxRecDepth 20000 in
theorem ggX0_noiseOf_X0_isQuiet : GoodIn wsX0_noiseOf wsX0_isQuiet := goodIn_r _ [6, 7, 24, 25, 26, 27, 28, 29, 30, 31, 32, 33, 34] (by decide +kernel) (by decide +kernel)
set_option maxRecDepth 20000 in
theorem gX0_noiseOf_X0_isQuiet : GoodIn wsX0_noiseOf (wsV RX0 81 RX0 yX0_isQuiet wsX0_isQuiet) := goodIn_app (goodIn_of _ (by decide +kernel)) ggX0_noiseOf_X0_isQuiet
set_option maxRecDepth 20000 in
theorem ggX0_noiseOf_X0_hasIsle : GoodIn wsX0_noiseOf wsX0_hasIsle := goodIn_r _ [11, 12, 13, 24, 25, 26, 27, 28, 29, 30, 31, 32, 33, 34] (by decide +kernel) (by decide +kernel)
set_option maxRecDepth 20000 in
theorem gX0_noiseOf_X0_hasIsle : GoodIn wsX0_noiseOf (wsV RX0 85 RX0 yX0_hasIsle wsX0_hasIsle) := goodIn_app (goodIn_of _ (by decide +kernel)) ggX0_noiseOf_X0_hasIsle
set_option maxRecDepth 20000 in
theorem ggX0_noiseOf_X0_costOf : GoodIn wsX0_noiseOf wsX0_costOf := goodIn_r _ [17, 18, 19, 24, 25, 26, 27, 28, 29, 30, 31, 32, 33, 34] (by decide +kernel) (by decide +kernel)
set_option maxRecDepth 20000 in
theorem gX0_noiseOf_X0_costOf : GoodIn wsX0_noiseOf (wsV RX0 88 RX0 yX0_costOf wsX0_costOf) := goodIn_app (goodIn_of _ (by decide +kernel)) ggX0_noiseOf_X0_costOf
set_option maxRecDepth 20000 in
theorem ggX0_noiseOf_X0_loudOf : GoodIn wsX0_noiseOf wsX0_loudOf := goodIn_r _ [23, 19, 18, 24, 25, 26, 27, 28, 29, 30, 31, 32, 33, 34] (by decide +kernel) (by decide +kernel)
set_option maxRecDepth 20000 in
theorem gX0_noiseOf_X0_loudOf : GoodIn wsX0_noiseOf (wsV RX0 91 RX0 yX0_loudOf wsX0_loudOf) := goodIn_app (goodIn_of _ (by decide +kernel)) ggX0_noiseOf_X0_loudOf
theorem dX0_noiseOf_0 : decode cX0_noiseOf 0 = .ok (.aload_n 0, 1) := by decide +kernel
theorem dX0_noiseOf_1 : decode cX0_noiseOf 1 = .ok (.iload_n 1, 1) := by decide +kernel
theorem dX0_noiseOf_2 : decode cX0_noiseOf 2 = .ok (.invokevirtual 81, 3) := by decide +kernel
theorem dX0_noiseOf_5 : decode cX0_noiseOf 5 = .ok (.ifCond .ne 25, 3) := by decide +kernel
theorem dX0_noiseOf_8 : decode cX0_noiseOf 8 = .ok (.aload_n 0, 1) := by decide +kernel
theorem dX0_noiseOf_9 : decode cX0_noiseOf 9 = .ok (.iload_n 1, 1) := by decide +kernel
theorem dX0_noiseOf_10 : decode cX0_noiseOf 10 = .ok (.invokevirtual 85, 3) := by decide +kernel
theorem dX0_noiseOf_13 : decode cX0_noiseOf 13 = .ok (.ifCond .ne 17, 3) := by decide +kernel
theorem dX0_noiseOf_16 : decode cX0_noiseOf 16 = .ok (.aload_n 0, 1) := by decide +kernel
theorem dX0_noiseOf_17 : decode cX0_noiseOf 17 = .ok (.getfield 21, 3) := by decide +kernel
theorem dX0_noiseOf_20 : decode cX0_noiseOf 20 = .ok (.iload_n 1, 1) := by decide +kernel
theorem dX0_noiseOf_21 : decode cX0_noiseOf 21 = .ok (.iaload, 1) := by decide +kernel
theorem dX0_noiseOf_22 : decode cX0_noiseOf 22 = .ok (.aload_n 0, 1) := by decide +kernel
theorem dX0_noiseOf_23 : decode cX0_noiseOf 23 = .ok (.iload_n 1, 1) := by decide +kernel
theorem dX0_noiseOf_24 : decode cX0_noiseOf 24 = .ok (.invokevirtual 88, 3) := by decide +kernel
theorem dX0_noiseOf_27 : decode cX0_noiseOf 27 = .ok (.if_icmp .ge 7, 3) := by decide +kernel
theorem dX0_noiseOf_30 : decode cX0_noiseOf 30 = .ok (.iconst 1, 1) := by decide +kernel
theorem dX0_noiseOf_31 : decode cX0_noiseOf 31 = .ok (.goto 4, 3) := by decide +kernel
theorem dX0_noiseOf_34 : decode cX0_noiseOf 34 = .ok (.iconst 0, 1) := by decide +kernel
theorem dX0_noiseOf_35 : decode cX0_noiseOf 35 = .ok (.istore_n 3, 1) := by decide +kernel
theorem dX0_noiseOf_36 : decode cX0_noiseOf 36 = .ok (.iload_n 3, 1) := by decide +kernel
theorem dX0_noiseOf_37 : decode cX0_noiseOf 37 = .ok (.ifCond .eq 7, 3) := by decide +kernel
theorem dX0_noiseOf_40 : decode cX0_noiseOf 40 = .ok (.iconst 0, 1) := by decide +kernel
theorem dX0_noiseOf_41 : decode cX0_noiseOf 41 = .ok (.goto 9, 3) := by decide +kernel
theorem dX0_noiseOf_44 : decode cX0_noiseOf 44 = .ok (.aload_n 0, 1) := by decide +kernel
theorem dX0_noiseOf_45 : decode cX0_noiseOf 45 = .ok (.iload_n 1, 1) := by decide +kernel
theorem dX0_noiseOf_46 : decode cX0_noiseOf 46 = .ok (.iload_n 2, 1) := by decide +kernel
theorem dX0_noiseOf_47 : decode cX0_noiseOf 47 = .ok (.invokevirtual 91, 3) := by decide +kernel
theorem dX0_noiseOf_50 : decode cX0_noiseOf 50 = .ok (.ireturn, 1) := by decide +kernel
set_option maxRecDepth 20000 in
theorem ggX0_noiseTogether_X0_noiseOf : GoodIn wsX0_noiseTogether wsX0_noiseOf := goodIn_r _ [6, 7, 8, 9, 10, 5, 11, 12, 13, 14, 15, 16, 17, 18, 19, 20, 21, 22, 23, 24, 25, 26, 27, 28, 29, 30, 31, 32, 33, 34, 35, 36, 37, 38, 39] (by decide +kernel) (by decide +kernel)
set_option maxRecDepth 20000 in
theorem gX0_noiseTogether_X0_noiseOf : GoodIn wsX0_noiseTogether (wsV RX0 94 RX0 yX0_noiseOf wsX0_noiseOf) := goodIn_app (goodIn_of _ (by decide +kernel)) ggX0_noiseTogether_X0_noiseOf
theorem dX0_noiseTogether_0 : decode cX0_noiseTogether 0 = .ok (.iconst 0, 1) := by decide +kernel
theorem dX0_noiseTogether_1 : decode cX0_noiseTogether 1 = .ok (.istore_n 2, 1) := by decide +kernel
theorem dX0_noiseTogether_2 : decode cX0_noiseTogether 2 = .ok (.iconst 0, 1) := by decide +kernel
theorem dX0_noiseTogether_3 : decode cX0_noiseTogether 3 = .ok (.istore_n 3, 1) := by decide +kernel
theorem dX0_noiseTogether_4 : decode cX0_noiseTogether 4 = .ok (.iload_n 3, 1) := by decide +kernel
theorem dX0_noiseTogether_5 : decode cX0_noiseTogether 5 = .ok (.aload_n 0, 1) := by decide +kernel
theorem dX0_noiseTogether_6 : decode cX0_noiseTogether 6 = .ok (.getfield 46, 3) := by decide +kernel
theorem dX0_noiseTogether_9 : decode cX0_noiseTogether 9 = .ok (.if_icmp .ge 18, 3) := by decide +kernel
theorem dX0_noiseTogether_12 : decode cX0_noiseTogether 12 = .ok (.iload_n 2, 1) := by decide +kernel
theorem dX0_noiseTogether_13 : decode cX0_noiseTogether 13 = .ok (.aload_n 0, 1) := by decide +kernel
theorem dX0_noiseTogether_14 : decode cX0_noiseTogether 14 = .ok (.iload_n 3, 1) := by decide +kernel
theorem dX0_noiseTogether_15 : decode cX0_noiseTogether 15 = .ok (.iload_n 1, 1) := by decide +kernel
theorem dX0_noiseTogether_16 : decode cX0_noiseTogether 16 = .ok (.invokevirtual 94, 3) := by decide +kernel
theorem dX0_noiseTogether_19 : decode cX0_noiseTogether 19 = .ok (.iadd, 1) := by decide +kernel
theorem dX0_noiseTogether_20 : decode cX0_noiseTogether 20 = .ok (.istore_n 2, 1) := by decide +kernel
theorem dX0_noiseTogether_21 : decode cX0_noiseTogether 21 = .ok (.iinc 3 1, 3) := by decide +kernel
theorem dX0_noiseTogether_24 : decode cX0_noiseTogether 24 = .ok (.goto (-20), 3) := by decide +kernel
theorem dX0_noiseTogether_27 : decode cX0_noiseTogether 27 = .ok (.iload_n 2, 1) := by decide +kernel
theorem dX0_noiseTogether_28 : decode cX0_noiseTogether 28 = .ok (.ireturn, 1) := by decide +kernel
set_option maxRecDepth 20000 in
theorem ggX0_loudestAt_X0_noiseOf : GoodIn wsX0_loudestAt wsX0_noiseOf := goodIn_r _ [6, 7, 8, 9, 10, 5, 11, 12, 13, 14, 15, 16, 17, 18, 19, 20, 21, 22, 23, 24, 25, 26, 27, 28, 37, 38, 39, 40, 41, 42, 43, 44, 45, 46, 47] (by decide +kernel) (by decide +kernel)
set_option maxRecDepth 20000 in
theorem gX0_loudestAt_X0_noiseOf : GoodIn wsX0_loudestAt (wsV RX0 94 RX0 yX0_noiseOf wsX0_noiseOf) := goodIn_app (goodIn_of _ (by decide +kernel)) ggX0_loudestAt_X0_noiseOf
set_option maxRecDepth 20000 in
theorem ggX0_loudestAt_X0_distanceTo : GoodIn wsX0_loudestAt wsX0_distanceTo := goodIn_r _ [32, 17, 18, 33, 34, 35, 36, 37, 38, 39, 40, 41, 42, 43, 44, 45, 46, 47] (by decide +kernel) (by decide +kernel)
set_option maxRecDepth 20000 in
theorem gX0_loudestAt_X0_distanceTo : GoodIn wsX0_loudestAt (wsV RX0 75 RX0 yX0_distanceTo wsX0_distanceTo) := goodIn_app (goodIn_of _ (by decide +kernel)) ggX0_loudestAt_X0_distanceTo
theorem dX0_loudestAt_0 : decode cX0_loudestAt 0 = .ok (.bipush (-9), 2) := by decide +kernel
theorem dX0_loudestAt_2 : decode cX0_loudestAt 2 = .ok (.istore_n 2, 1) := by decide +kernel
theorem dX0_loudestAt_3 : decode cX0_loudestAt 3 = .ok (.iconst 0, 1) := by decide +kernel
theorem dX0_loudestAt_4 : decode cX0_loudestAt 4 = .ok (.istore_n 3, 1) := by decide +kernel
theorem dX0_loudestAt_5 : decode cX0_loudestAt 5 = .ok (.iconst 0, 1) := by decide +kernel
theorem dX0_loudestAt_6 : decode cX0_loudestAt 6 = .ok (.istore 4, 2) := by decide +kernel
theorem dX0_loudestAt_8 : decode cX0_loudestAt 8 = .ok (.iload 4, 2) := by decide +kernel
theorem dX0_loudestAt_10 : decode cX0_loudestAt 10 = .ok (.aload_n 0, 1) := by decide +kernel
theorem dX0_loudestAt_11 : decode cX0_loudestAt 11 = .ok (.getfield 46, 3) := by decide +kernel
theorem dX0_loudestAt_14 : decode cX0_loudestAt 14 = .ok (.if_icmp .ge 68, 3) := by decide +kernel
theorem dX0_loudestAt_17 : decode cX0_loudestAt 17 = .ok (.aload_n 0, 1) := by decide +kernel
theorem dX0_loudestAt_18 : decode cX0_loudestAt 18 = .ok (.iload 4, 2) := by decide +kernel
theorem dX0_loudestAt_20 : decode cX0_loudestAt 20 = .ok (.iload_n 1, 1) := by decide +kernel
theorem dX0_loudestAt_21 : decode cX0_loudestAt 21 = .ok (.invokevirtual 94, 3) := by decide +kernel
theorem dX0_loudestAt_24 : decode cX0_loudestAt 24 = .ok (.istore 5, 2) := by decide +kernel
theorem dX0_loudestAt_26 : decode cX0_loudestAt 26 = .ok (.iload_n 2, 1) := by decide +kernel
theorem dX0_loudestAt_27 : decode cX0_loudestAt 27 = .ok (.bipush (-9), 2) := by decide +kernel
theorem dX0_loudestAt_29 : decode cX0_loudestAt 29 = .ok (.if_icmp .eq 13, 3) := by decide +kernel
theorem dX0_loudestAt_32 : decode cX0_loudestAt 32 = .ok (.iload 5, 2) := by decide +kernel
theorem dX0_loudestAt_34 : decode cX0_loudestAt 34 = .ok (.iload_n 3, 1) := by decide +kernel
theorem dX0_loudestAt_35 : decode cX0_loudestAt 35 = .ok (.if_icmp .ne 7, 3) := by decide +kernel
theorem dX0_loudestAt_38 : decode cX0_loudestAt 38 = .ok (.iconst 1, 1) := by decide +kernel
theorem dX0_loudestAt_39 : decode cX0_loudestAt 39 = .ok (.goto 4, 3) := by decide +kernel
theorem dX0_loudestAt_42 : decode cX0_loudestAt 42 = .ok (.iconst 0, 1) := by decide +kernel
theorem dX0_loudestAt_43 : decode cX0_loudestAt 43 = .ok (.istore 6, 2) := by decide +kernel
theorem dX0_loudestAt_45 : decode cX0_loudestAt 45 = .ok (.iload 5, 2) := by decide +kernel
theorem dX0_loudestAt_47 : decode cX0_loudestAt 47 = .ok (.iload_n 3, 1) := by decide +kernel
theorem dX0_loudestAt_48 : decode cX0_loudestAt 48 = .ok (.if_icmp .gt 22, 3) := by decide +kernel
theorem dX0_loudestAt_51 : decode cX0_loudestAt 51 = .ok (.iload 6, 2) := by decide +kernel
theorem dX0_loudestAt_53 : decode cX0_loudestAt 53 = .ok (.ifCond .eq 23, 3) := by decide +kernel
theorem dX0_loudestAt_56 : decode cX0_loudestAt 56 = .ok (.aload_n 0, 1) := by decide +kernel
theorem dX0_loudestAt_57 : decode cX0_loudestAt 57 = .ok (.iload 4, 2) := by decide +kernel
theorem dX0_loudestAt_59 : decode cX0_loudestAt 59 = .ok (.invokevirtual 75, 3) := by decide +kernel
theorem dX0_loudestAt_62 : decode cX0_loudestAt 62 = .ok (.aload_n 0, 1) := by decide +kernel
theorem dX0_loudestAt_63 : decode cX0_loudestAt 63 = .ok (.iload_n 2, 1) := by decide +kernel
theorem dX0_loudestAt_64 : decode cX0_loudestAt 64 = .ok (.invokevirtual 75, 3) := by decide +kernel
theorem dX0_loudestAt_67 : decode cX0_loudestAt 67 = .ok (.if_icmp .ge 9, 3) := by decide +kernel
theorem dX0_loudestAt_70 : decode cX0_loudestAt 70 = .ok (.iload 4, 2) := by decide +kernel
theorem dX0_loudestAt_72 : decode cX0_loudestAt 72 = .ok (.istore_n 2, 1) := by decide +kernel
theorem dX0_loudestAt_73 : decode cX0_loudestAt 73 = .ok (.iload 5, 2) := by decide +kernel
theorem dX0_loudestAt_75 : decode cX0_loudestAt 75 = .ok (.istore_n 3, 1) := by decide +kernel
theorem dX0_loudestAt_76 : decode cX0_loudestAt 76 = .ok (.iinc 4 1, 3) := by decide +kernel
theorem dX0_loudestAt_79 : decode cX0_loudestAt 79 = .ok (.goto (-71), 3) := by decide +kernel
theorem dX0_loudestAt_82 : decode cX0_loudestAt 82 = .ok (.iload_n 2, 1) := by decide +kernel
theorem dX0_loudestAt_83 : decode cX0_loudestAt 83 = .ok (.ireturn, 1) := by decide +kernel
set_option maxRecDepth 20000 in
theorem ggX0_loudestHour_X0_noiseTogether : GoodIn wsX0_loudestHour wsX0_noiseTogether := goodIn_r _ [5, 6, 7, 8, 9, 4, 10, 11, 12, 13, 14, 15, 16, 17, 18, 19, 20, 21, 22, 23, 24, 25, 26, 27, 28, 29, 30, 31, 32, 33, 34, 35, 36, 37, 38, 39, 40, 41, 42, 43] (by decide +kernel) (by decide +kernel)
set_option maxRecDepth 20000 in
theorem gX0_loudestHour_X0_noiseTogether : GoodIn wsX0_loudestHour (wsV RX0 97 RX0 yX0_noiseTogether wsX0_noiseTogether) := goodIn_app (goodIn_of _ (by decide +kernel)) ggX0_loudestHour_X0_noiseTogether
theorem dX0_loudestHour_0 : decode cX0_loudestHour 0 = .ok (.iconst 0, 1) := by decide +kernel
theorem dX0_loudestHour_1 : decode cX0_loudestHour 1 = .ok (.istore_n 1, 1) := by decide +kernel
theorem dX0_loudestHour_2 : decode cX0_loudestHour 2 = .ok (.iconst 1, 1) := by decide +kernel
theorem dX0_loudestHour_3 : decode cX0_loudestHour 3 = .ok (.istore_n 2, 1) := by decide +kernel
theorem dX0_loudestHour_4 : decode cX0_loudestHour 4 = .ok (.iload_n 2, 1) := by decide +kernel
theorem dX0_loudestHour_5 : decode cX0_loudestHour 5 = .ok (.bipush 23, 2) := by decide +kernel
theorem dX0_loudestHour_7 : decode cX0_loudestHour 7 = .ok (.if_icmp .gt 24, 3) := by decide +kernel
theorem dX0_loudestHour_10 : decode cX0_loudestHour 10 = .ok (.aload_n 0, 1) := by decide +kernel
theorem dX0_loudestHour_11 : decode cX0_loudestHour 11 = .ok (.iload_n 2, 1) := by decide +kernel
theorem dX0_loudestHour_12 : decode cX0_loudestHour 12 = .ok (.invokevirtual 97, 3) := by decide +kernel
theorem dX0_loudestHour_15 : decode cX0_loudestHour 15 = .ok (.aload_n 0, 1) := by decide +kernel
theorem dX0_loudestHour_16 : decode cX0_loudestHour 16 = .ok (.iload_n 1, 1) := by decide +kernel
theorem dX0_loudestHour_17 : decode cX0_loudestHour 17 = .ok (.invokevirtual 97, 3) := by decide +kernel
theorem dX0_loudestHour_20 : decode cX0_loudestHour 20 = .ok (.if_icmp .le 5, 3) := by decide +kernel
theorem dX0_loudestHour_23 : decode cX0_loudestHour 23 = .ok (.iload_n 2, 1) := by decide +kernel
theorem dX0_loudestHour_24 : decode cX0_loudestHour 24 = .ok (.istore_n 1, 1) := by decide +kernel
theorem dX0_loudestHour_25 : decode cX0_loudestHour 25 = .ok (.iinc 2 1, 3) := by decide +kernel
theorem dX0_loudestHour_28 : decode cX0_loudestHour 28 = .ok (.goto (-24), 3) := by decide +kernel
theorem dX0_loudestHour_31 : decode cX0_loudestHour 31 = .ok (.iload_n 1, 1) := by decide +kernel
theorem dX0_loudestHour_32 : decode cX0_loudestHour 32 = .ok (.ireturn, 1) := by decide +kernel
set_option maxRecDepth 20000 in
theorem ggX0_calmBits_X0_noiseTogether : GoodIn wsX0_calmBits wsX0_noiseTogether := goodIn_r _ [5, 6, 7, 8, 9, 4, 10, 11, 12, 13, 14, 15, 16, 17, 18, 19, 20, 21, 22, 23, 24, 25, 26, 27, 28, 29, 30, 31, 32, 33, 34, 35, 36, 37, 38, 39, 40, 41, 42, 43] (by decide +kernel) (by decide +kernel)
set_option maxRecDepth 20000 in
theorem gX0_calmBits_X0_noiseTogether : GoodIn wsX0_calmBits (wsV RX0 97 RX0 yX0_noiseTogether wsX0_noiseTogether) := goodIn_app (goodIn_of _ (by decide +kernel)) ggX0_calmBits_X0_noiseTogether
theorem dX0_calmBits_0 : decode cX0_calmBits 0 = .ok (.iconst 0, 1) := by decide +kernel
theorem dX0_calmBits_1 : decode cX0_calmBits 1 = .ok (.istore_n 1, 1) := by decide +kernel
theorem dX0_calmBits_2 : decode cX0_calmBits 2 = .ok (.iconst 0, 1) := by decide +kernel
theorem dX0_calmBits_3 : decode cX0_calmBits 3 = .ok (.istore_n 2, 1) := by decide +kernel
theorem dX0_calmBits_4 : decode cX0_calmBits 4 = .ok (.iload_n 2, 1) := by decide +kernel
theorem dX0_calmBits_5 : decode cX0_calmBits 5 = .ok (.bipush 23, 2) := by decide +kernel
theorem dX0_calmBits_7 : decode cX0_calmBits 7 = .ok (.if_icmp .gt 23, 3) := by decide +kernel
theorem dX0_calmBits_10 : decode cX0_calmBits 10 = .ok (.aload_n 0, 1) := by decide +kernel
theorem dX0_calmBits_11 : decode cX0_calmBits 11 = .ok (.iload_n 2, 1) := by decide +kernel
theorem dX0_calmBits_12 : decode cX0_calmBits 12 = .ok (.invokevirtual 97, 3) := by decide +kernel
theorem dX0_calmBits_15 : decode cX0_calmBits 15 = .ok (.ifCond .ne 9, 3) := by decide +kernel
theorem dX0_calmBits_18 : decode cX0_calmBits 18 = .ok (.iload_n 1, 1) := by decide +kernel
theorem dX0_calmBits_19 : decode cX0_calmBits 19 = .ok (.iconst 1, 1) := by decide +kernel
theorem dX0_calmBits_20 : decode cX0_calmBits 20 = .ok (.iload_n 2, 1) := by decide +kernel
theorem dX0_calmBits_21 : decode cX0_calmBits 21 = .ok (.ishl, 1) := by decide +kernel
theorem dX0_calmBits_22 : decode cX0_calmBits 22 = .ok (.ior, 1) := by decide +kernel
theorem dX0_calmBits_23 : decode cX0_calmBits 23 = .ok (.istore_n 1, 1) := by decide +kernel
theorem dX0_calmBits_24 : decode cX0_calmBits 24 = .ok (.iinc 2 1, 3) := by decide +kernel
theorem dX0_calmBits_27 : decode cX0_calmBits 27 = .ok (.goto (-23), 3) := by decide +kernel
theorem dX0_calmBits_30 : decode cX0_calmBits 30 = .ok (.iload_n 1, 1) := by decide +kernel
theorem dX0_calmBits_31 : decode cX0_calmBits 31 = .ok (.ireturn, 1) := by decide +kernel
set_option maxRecDepth 20000 in
theorem ggX0_passHours_X0_passHour : GoodIn wsX0_passHours wsX0_passHour := goodIn_r _ [5, 6, 7, 8, 9, 10, 11, 12, 13, 14, 15, 16, 4, 17, 18, 19, 20, 21, 22, 23, 24, 25, 26, 27, 28, 29, 30, 31, 32, 33, 34, 35, 36, 37, 38, 39, 40, 41, 42, 43, 44, 45, 46, 47, 48, 49, 50, 51, 52, 53, 54, 55, 56, 57, 58, 59, 60, 61, 62, 63, 64, 65, 66, 67, 68, 69, 70, 71, 72, 73, 74, 75, 76, 77, 78, 79, 80, 81, 82, 83, 84, 85] (by decide +kernel) (by decide +kernel)
set_option maxRecDepth 20000 in
theorem gX0_passHours_X0_passHour : GoodIn wsX0_passHours (wsV RX0 100 RX0 yX0_passHour wsX0_passHour) := goodIn_app (goodIn_of _ (by decide +kernel)) ggX0_passHours_X0_passHour
theorem dX0_passHours_0 : decode cX0_passHours 0 = .ok (.iconst 0, 1) := by decide +kernel
theorem dX0_passHours_1 : decode cX0_passHours 1 = .ok (.istore_n 2, 1) := by decide +kernel
theorem dX0_passHours_2 : decode cX0_passHours 2 = .ok (.iload_n 2, 1) := by decide +kernel
theorem dX0_passHours_3 : decode cX0_passHours 3 = .ok (.iload_n 1, 1) := by decide +kernel
theorem dX0_passHours_4 : decode cX0_passHours 4 = .ok (.if_icmp .ge 14, 3) := by decide +kernel
theorem dX0_passHours_7 : decode cX0_passHours 7 = .ok (.aload_n 0, 1) := by decide +kernel
theorem dX0_passHours_8 : decode cX0_passHours 8 = .ok (.iconst 0, 1) := by decide +kernel
theorem dX0_passHours_9 : decode cX0_passHours 9 = .ok (.invokevirtual 100, 3) := by decide +kernel
theorem dX0_passHours_12 : decode cX0_passHours 12 = .ok (.iinc 2 1, 3) := by decide +kernel
theorem dX0_passHours_15 : decode cX0_passHours 15 = .ok (.goto (-13), 3) := by decide +kernel
theorem dX0_passHours_18 : decode cX0_passHours 18 = .ok (.return_, 1) := by decide +kernel
set_option maxRecDepth 20000 in
theorem ggX0_passHour_X0_loudestAt : GoodIn wsX0_passHour wsX0_loudestAt := goodIn_r _ [13, 14, 15, 16, 17, 12, 18, 19, 20, 21, 22, 23, 24, 25, 26, 27, 28, 29, 2, 30, 31, 32, 33, 34, 35, 36, 37, 38, 39, 40, 41, 42, 43, 44, 45, 7, 46, 71, 72, 73, 74, 75, 76, 77, 78, 79, 80, 81] (by decide +kernel) (by decide +kernel)
set_option maxRecDepth 20000 in
theorem gX0_passHour_X0_loudestAt : GoodIn wsX0_passHour (wsV RX0 104 RX0 yX0_loudestAt wsX0_loudestAt) := goodIn_app (goodIn_of _ (by decide +kernel)) ggX0_passHour_X0_loudestAt
set_option maxRecDepth 20000 in
theorem ggX0_passHour_X0_spendPowder : GoodIn wsX0_passHour wsX0_spendPowder := goodIn_r _ [50, 14, 1, 19, 15, 16, 17, 12, 18, 20, 21, 22, 23, 24, 25, 26, 27, 28, 29, 2, 30, 31, 32, 33, 34, 35, 36, 37, 38, 39, 71, 72, 73, 74, 75, 76, 77, 78, 79, 80, 81] (by decide +kernel) (by decide +kernel)
set_option maxRecDepth 20000 in
theorem gX0_passHour_X0_spendPowder : GoodIn wsX0_passHour (wsV RX0 107 RX0 yX0_spendPowder wsX0_spendPowder) := goodIn_app (goodIn_of _ (by decide +kernel)) ggX0_passHour_X0_spendPowder
set_option maxRecDepth 20000 in
theorem ggX0_passHour_X0_placeAwayFrom : GoodIn wsX0_passHour wsX0_placeAwayFrom := goodIn_r _ [54, 29, 2, 55, 5, 6, 7, 8, 56, 57, 58, 71, 72, 73, 74, 75, 76, 77, 78, 79, 80, 81] (by decide +kernel) (by decide +kernel)
set_option maxRecDepth 20000 in
theorem gX0_passHour_X0_placeAwayFrom : GoodIn wsX0_passHour (wsV RX0 110 RX0 yX0_placeAwayFrom wsX0_placeAwayFrom) := goodIn_app (goodIn_of _ (by decide +kernel)) ggX0_passHour_X0_placeAwayFrom
set_option maxRecDepth 20000 in
theorem ggX0_passHour_X0_placeTowards : GoodIn wsX0_passHour wsX0_placeTowards := goodIn_r _ [62, 29, 2, 55, 5, 6, 7, 8, 56, 57, 58, 71, 72, 73, 74, 75, 76, 77, 78, 79, 80, 81] (by decide +kernel) (by decide +kernel)
set_option maxRecDepth 20000 in
theorem gX0_passHour_X0_placeTowards : GoodIn wsX0_passHour (wsV RX0 113 RX0 yX0_placeTowards wsX0_placeTowards) := goodIn_app (goodIn_of _ (by decide +kernel)) ggX0_passHour_X0_placeTowards
set_option maxRecDepth 20000 in
theorem ggX0_passHour_X0_owner : GoodIn wsX0_passHour wsX0_owner := goodIn_r _ [66, 2, 67, 68, 69, 12, 70, 14, 29, 71, 72, 73, 74, 75, 76, 77, 78, 79, 80, 81] (by decide +kernel) (by decide +kernel)
set_option maxRecDepth 20000 in
theorem gX0_passHour_X0_owner : GoodIn wsX0_passHour (wsV RX0 116 RX0 yX0_owner wsX0_owner) := goodIn_app (goodIn_of _ (by decide +kernel)) ggX0_passHour_X0_owner
theorem dX0_passHour_0 : decode cX0_passHour 0 = .ok (.aload_n 0, 1) := by decide +kernel
theorem dX0_passHour_1 : decode cX0_passHour 1 = .ok (.aload_n 0, 1) := by decide +kernel
theorem dX0_passHour_2 : decode cX0_passHour 2 = .ok (.getfield 34, 3) := by decide +kernel
theorem dX0_passHour_5 : decode cX0_passHour 5 = .ok (.invokevirtual 104, 3) := by decide +kernel
theorem dX0_passHour_8 : decode cX0_passHour 8 = .ok (.istore_n 2, 1) := by decide +kernel
theorem dX0_passHour_9 : decode cX0_passHour 9 = .ok (.aload_n 0, 1) := by decide +kernel
theorem dX0_passHour_10 : decode cX0_passHour 10 = .ok (.invokevirtual 107, 3) := by decide +kernel
theorem dX0_passHour_13 : decode cX0_passHour 13 = .ok (.iload_n 2, 1) := by decide +kernel
theorem dX0_passHour_14 : decode cX0_passHour 14 = .ok (.bipush (-9), 2) := by decide +kernel
theorem dX0_passHour_16 : decode cX0_passHour 16 = .ok (.if_icmp .eq 24, 3) := by decide +kernel
theorem dX0_passHour_19 : decode cX0_passHour 19 = .ok (.aload_n 0, 1) := by decide +kernel
theorem dX0_passHour_20 : decode cX0_passHour 20 = .ok (.iload_n 1, 1) := by decide +kernel
theorem dX0_passHour_21 : decode cX0_passHour 21 = .ok (.ifCond .eq 11, 3) := by decide +kernel
theorem dX0_passHour_24 : decode cX0_passHour 24 = .ok (.aload_n 0, 1) := by decide +kernel
theorem dX0_passHour_25 : decode cX0_passHour 25 = .ok (.iload_n 2, 1) := by decide +kernel
theorem dX0_passHour_26 : decode cX0_passHour 26 = .ok (.invokevirtual 110, 3) := by decide +kernel
theorem dX0_passHour_29 : decode cX0_passHour 29 = .ok (.goto 8, 3) := by decide +kernel
theorem dX0_passHour_32 : decode cX0_passHour 32 = .ok (.aload_n 0, 1) := by decide +kernel
theorem dX0_passHour_33 : decode cX0_passHour 33 = .ok (.iload_n 2, 1) := by decide +kernel
theorem dX0_passHour_34 : decode cX0_passHour 34 = .ok (.invokevirtual 113, 3) := by decide +kernel
theorem dX0_passHour_37 : decode cX0_passHour 37 = .ok (.putfield 27, 3) := by decide +kernel
theorem dX0_passHour_40 : decode cX0_passHour 40 = .ok (.aload_n 0, 1) := by decide +kernel
theorem dX0_passHour_41 : decode cX0_passHour 41 = .ok (.dup, 1) := by decide +kernel
theorem dX0_passHour_42 : decode cX0_passHour 42 = .ok (.getfield 34, 3) := by decide +kernel
theorem dX0_passHour_45 : decode cX0_passHour 45 = .ok (.iconst 1, 1) := by decide +kernel
theorem dX0_passHour_46 : decode cX0_passHour 46 = .ok (.iadd, 1) := by decide +kernel
theorem dX0_passHour_47 : decode cX0_passHour 47 = .ok (.putfield 34, 3) := by decide +kernel
theorem dX0_passHour_50 : decode cX0_passHour 50 = .ok (.aload_n 0, 1) := by decide +kernel
theorem dX0_passHour_51 : decode cX0_passHour 51 = .ok (.getfield 34, 3) := by decide +kernel
theorem dX0_passHour_54 : decode cX0_passHour 54 = .ok (.bipush 23, 2) := by decide +kernel
theorem dX0_passHour_56 : decode cX0_passHour 56 = .ok (.if_icmp .le 18, 3) := by decide +kernel
theorem dX0_passHour_59 : decode cX0_passHour 59 = .ok (.aload_n 0, 1) := by decide +kernel
theorem dX0_passHour_60 : decode cX0_passHour 60 = .ok (.iconst 0, 1) := by decide +kernel
theorem dX0_passHour_61 : decode cX0_passHour 61 = .ok (.putfield 34, 3) := by decide +kernel
theorem dX0_passHour_64 : decode cX0_passHour 64 = .ok (.aload_n 0, 1) := by decide +kernel
theorem dX0_passHour_65 : decode cX0_passHour 65 = .ok (.dup, 1) := by decide +kernel
theorem dX0_passHour_66 : decode cX0_passHour 66 = .ok (.getfield 49, 3) := by decide +kernel
theorem dX0_passHour_69 : decode cX0_passHour 69 = .ok (.iconst 1, 1) := by decide +kernel
theorem dX0_passHour_70 : decode cX0_passHour 70 = .ok (.iadd, 1) := by decide +kernel
theorem dX0_passHour_71 : decode cX0_passHour 71 = .ok (.putfield 49, 3) := by decide +kernel
theorem dX0_passHour_74 : decode cX0_passHour 74 = .ok (.aload_n 0, 1) := by decide +kernel
theorem dX0_passHour_75 : decode cX0_passHour 75 = .ok (.invokevirtual 116, 3) := by decide +kernel
theorem dX0_passHour_78 : decode cX0_passHour 78 = .ok (.istore_n 3, 1) := by decide +kernel
theorem dX0_passHour_79 : decode cX0_passHour 79 = .ok (.iload_n 3, 1) := by decide +kernel
theorem dX0_passHour_80 : decode cX0_passHour 80 = .ok (.bipush (-9), 2) := by decide +kernel
theorem dX0_passHour_82 : decode cX0_passHour 82 = .ok (.if_icmp .eq 23, 3) := by decide +kernel
theorem dX0_passHour_85 : decode cX0_passHour 85 = .ok (.aload_n 0, 1) := by decide +kernel
theorem dX0_passHour_86 : decode cX0_passHour 86 = .ok (.getfield 24, 3) := by decide +kernel
theorem dX0_passHour_89 : decode cX0_passHour 89 = .ok (.iload_n 3, 1) := by decide +kernel
theorem dX0_passHour_90 : decode cX0_passHour 90 = .ok (.sipush 999, 3) := by decide +kernel
theorem dX0_passHour_93 : decode cX0_passHour 93 = .ok (.aload_n 0, 1) := by decide +kernel
theorem dX0_passHour_94 : decode cX0_passHour 94 = .ok (.getfield 24, 3) := by decide +kernel
theorem dX0_passHour_97 : decode cX0_passHour 97 = .ok (.iload_n 3, 1) := by decide +kernel
theorem dX0_passHour_98 : decode cX0_passHour 98 = .ok (.iaload, 1) := by decide +kernel
theorem dX0_passHour_99 : decode cX0_passHour 99 = .ok (.iconst 1, 1) := by decide +kernel
theorem dX0_passHour_100 : decode cX0_passHour 100 = .ok (.iadd, 1) := by decide +kernel
theorem dX0_passHour_101 : decode cX0_passHour 101 = .ok (.invokestatic 120, 3) := by decide +kernel
theorem dX0_passHour_104 : decode cX0_passHour 104 = .ok (.iastore, 1) := by decide +kernel
theorem dX0_passHour_105 : decode cX0_passHour 105 = .ok (.return_, 1) := by decide +kernel
set_option maxRecDepth 20000 in
theorem ggX0_spendPowder_X0_noiseOf : GoodIn wsX0_spendPowder wsX0_noiseOf := goodIn_r _ [8, 3, 9, 10, 11, 7, 12, 13, 14, 15, 16, 17, 18, 19, 20, 21, 22, 23, 24, 25, 26, 27, 28, 29, 30, 31, 32, 33, 34, 35, 36, 37, 38, 39, 40] (by decide +kernel) (by decide +kernel)
set_option maxRecDepth 20000 in
theorem gX0_spendPowder_X0_noiseOf : GoodIn wsX0_spendPowder (wsV RX0 94 RX0 yX0_noiseOf wsX0_noiseOf) := goodIn_app (goodIn_of _ (by decide +kernel)) ggX0_spendPowder_X0_noiseOf
set_option maxRecDepth 20000 in
theorem ggX0_spendPowder_X0_costOf : GoodIn wsX0_spendPowder wsX0_costOf := goodIn_r _ [23, 24, 25, 30, 31, 32, 33, 34, 35, 36, 37, 38, 39, 40] (by decide +kernel) (by decide +kernel)
set_option maxRecDepth 20000 in
theorem gX0_spendPowder_X0_costOf : GoodIn wsX0_spendPowder (wsV RX0 88 RX0 yX0_costOf wsX0_costOf) := goodIn_app (goodIn_of _ (by decide +kernel)) ggX0_spendPowder_X0_costOf
theorem dX0_spendPowder_0 : decode cX0_spendPowder 0 = .ok (.iconst 0, 1) := by decide +kernel
theorem dX0_spendPowder_1 : decode cX0_spendPowder 1 = .ok (.istore_n 1, 1) := by decide +kernel
theorem dX0_spendPowder_2 : decode cX0_spendPowder 2 = .ok (.iload_n 1, 1) := by decide +kernel
theorem dX0_spendPowder_3 : decode cX0_spendPowder 3 = .ok (.aload_n 0, 1) := by decide +kernel
theorem dX0_spendPowder_4 : decode cX0_spendPowder 4 = .ok (.getfield 46, 3) := by decide +kernel
theorem dX0_spendPowder_7 : decode cX0_spendPowder 7 = .ok (.if_icmp .ge 35, 3) := by decide +kernel
theorem dX0_spendPowder_10 : decode cX0_spendPowder 10 = .ok (.aload_n 0, 1) := by decide +kernel
theorem dX0_spendPowder_11 : decode cX0_spendPowder 11 = .ok (.iload_n 1, 1) := by decide +kernel
theorem dX0_spendPowder_12 : decode cX0_spendPowder 12 = .ok (.aload_n 0, 1) := by decide +kernel
theorem dX0_spendPowder_13 : decode cX0_spendPowder 13 = .ok (.getfield 34, 3) := by decide +kernel
theorem dX0_spendPowder_16 : decode cX0_spendPowder 16 = .ok (.invokevirtual 94, 3) := by decide +kernel
theorem dX0_spendPowder_19 : decode cX0_spendPowder 19 = .ok (.ifCond .le 17, 3) := by decide +kernel
theorem dX0_spendPowder_22 : decode cX0_spendPowder 22 = .ok (.aload_n 0, 1) := by decide +kernel
theorem dX0_spendPowder_23 : decode cX0_spendPowder 23 = .ok (.getfield 21, 3) := by decide +kernel
theorem dX0_spendPowder_26 : decode cX0_spendPowder 26 = .ok (.iload_n 1, 1) := by decide +kernel
theorem dX0_spendPowder_27 : decode cX0_spendPowder 27 = .ok (.dup2, 1) := by decide +kernel
theorem dX0_spendPowder_28 : decode cX0_spendPowder 28 = .ok (.iaload, 1) := by decide +kernel
theorem dX0_spendPowder_29 : decode cX0_spendPowder 29 = .ok (.aload_n 0, 1) := by decide +kernel
theorem dX0_spendPowder_30 : decode cX0_spendPowder 30 = .ok (.iload_n 1, 1) := by decide +kernel
theorem dX0_spendPowder_31 : decode cX0_spendPowder 31 = .ok (.invokevirtual 88, 3) := by decide +kernel
theorem dX0_spendPowder_34 : decode cX0_spendPowder 34 = .ok (.isub, 1) := by decide +kernel
theorem dX0_spendPowder_35 : decode cX0_spendPowder 35 = .ok (.iastore, 1) := by decide +kernel
theorem dX0_spendPowder_36 : decode cX0_spendPowder 36 = .ok (.iinc 1 1, 3) := by decide +kernel
theorem dX0_spendPowder_39 : decode cX0_spendPowder 39 = .ok (.goto (-37), 3) := by decide +kernel
theorem dX0_spendPowder_42 : decode cX0_spendPowder 42 = .ok (.return_, 1) := by decide +kernel
theorem dX0_placeTowards_0 : decode cX0_placeTowards 0 = .ok (.aload_n 0, 1) := by decide +kernel
theorem dX0_placeTowards_1 : decode cX0_placeTowards 1 = .ok (.getfield 18, 3) := by decide +kernel
theorem dX0_placeTowards_4 : decode cX0_placeTowards 4 = .ok (.iload_n 1, 1) := by decide +kernel
theorem dX0_placeTowards_5 : decode cX0_placeTowards 5 = .ok (.iaload, 1) := by decide +kernel
theorem dX0_placeTowards_6 : decode cX0_placeTowards 6 = .ok (.aload_n 0, 1) := by decide +kernel
theorem dX0_placeTowards_7 : decode cX0_placeTowards 7 = .ok (.getfield 27, 3) := by decide +kernel
theorem dX0_placeTowards_10 : decode cX0_placeTowards 10 = .ok (.isub, 1) := by decide +kernel
theorem dX0_placeTowards_11 : decode cX0_placeTowards 11 = .ok (.istore_n 2, 1) := by decide +kernel
theorem dX0_placeTowards_12 : decode cX0_placeTowards 12 = .ok (.aload_n 0, 1) := by decide +kernel
theorem dX0_placeTowards_13 : decode cX0_placeTowards 13 = .ok (.getfield 27, 3) := by decide +kernel
theorem dX0_placeTowards_16 : decode cX0_placeTowards 16 = .ok (.aload_n 0, 1) := by decide +kernel
theorem dX0_placeTowards_17 : decode cX0_placeTowards 17 = .ok (.getfield 31, 3) := by decide +kernel
theorem dX0_placeTowards_20 : decode cX0_placeTowards 20 = .ok (.ineg, 1) := by decide +kernel
theorem dX0_placeTowards_21 : decode cX0_placeTowards 21 = .ok (.aload_n 0, 1) := by decide +kernel
theorem dX0_placeTowards_22 : decode cX0_placeTowards 22 = .ok (.getfield 31, 3) := by decide +kernel
theorem dX0_placeTowards_25 : decode cX0_placeTowards 25 = .ok (.iload_n 2, 1) := by decide +kernel
theorem dX0_placeTowards_26 : decode cX0_placeTowards 26 = .ok (.invokestatic 120, 3) := by decide +kernel
theorem dX0_placeTowards_29 : decode cX0_placeTowards 29 = .ok (.invokestatic 123, 3) := by decide +kernel
theorem dX0_placeTowards_32 : decode cX0_placeTowards 32 = .ok (.iadd, 1) := by decide +kernel
theorem dX0_placeTowards_33 : decode cX0_placeTowards 33 = .ok (.ireturn, 1) := by decide +kernel
theorem dX0_placeAwayFrom_0 : decode cX0_placeAwayFrom 0 = .ok (.aload_n 0, 1) := by decide +kernel
theorem dX0_placeAwayFrom_1 : decode cX0_placeAwayFrom 1 = .ok (.getfield 18, 3) := by decide +kernel
theorem dX0_placeAwayFrom_4 : decode cX0_placeAwayFrom 4 = .ok (.iload_n 1, 1) := by decide +kernel
theorem dX0_placeAwayFrom_5 : decode cX0_placeAwayFrom 5 = .ok (.iaload, 1) := by decide +kernel
theorem dX0_placeAwayFrom_6 : decode cX0_placeAwayFrom 6 = .ok (.aload_n 0, 1) := by decide +kernel
theorem dX0_placeAwayFrom_7 : decode cX0_placeAwayFrom 7 = .ok (.getfield 27, 3) := by decide +kernel
theorem dX0_placeAwayFrom_10 : decode cX0_placeAwayFrom 10 = .ok (.if_icmp .ge 10, 3) := by decide +kernel
theorem dX0_placeAwayFrom_13 : decode cX0_placeAwayFrom 13 = .ok (.aload_n 0, 1) := by decide +kernel
theorem dX0_placeAwayFrom_14 : decode cX0_placeAwayFrom 14 = .ok (.getfield 31, 3) := by decide +kernel
theorem dX0_placeAwayFrom_17 : decode cX0_placeAwayFrom 17 = .ok (.goto 8, 3) := by decide +kernel
theorem dX0_placeAwayFrom_20 : decode cX0_placeAwayFrom 20 = .ok (.aload_n 0, 1) := by decide +kernel
theorem dX0_placeAwayFrom_21 : decode cX0_placeAwayFrom 21 = .ok (.getfield 31, 3) := by decide +kernel
theorem dX0_placeAwayFrom_24 : decode cX0_placeAwayFrom 24 = .ok (.ineg, 1) := by decide +kernel
theorem dX0_placeAwayFrom_25 : decode cX0_placeAwayFrom 25 = .ok (.istore_n 2, 1) := by decide +kernel
theorem dX0_placeAwayFrom_26 : decode cX0_placeAwayFrom 26 = .ok (.iconst 0, 1) := by decide +kernel
theorem dX0_placeAwayFrom_27 : decode cX0_placeAwayFrom 27 = .ok (.bipush 30, 2) := by decide +kernel
theorem dX0_placeAwayFrom_29 : decode cX0_placeAwayFrom 29 = .ok (.aload_n 0, 1) := by decide +kernel
theorem dX0_placeAwayFrom_30 : decode cX0_placeAwayFrom 30 = .ok (.getfield 27, 3) := by decide +kernel
theorem dX0_placeAwayFrom_33 : decode cX0_placeAwayFrom 33 = .ok (.iload_n 2, 1) := by decide +kernel
theorem dX0_placeAwayFrom_34 : decode cX0_placeAwayFrom 34 = .ok (.iadd, 1) := by decide +kernel
theorem dX0_placeAwayFrom_35 : decode cX0_placeAwayFrom 35 = .ok (.invokestatic 120, 3) := by decide +kernel
theorem dX0_placeAwayFrom_38 : decode cX0_placeAwayFrom 38 = .ok (.invokestatic 123, 3) := by decide +kernel
theorem dX0_placeAwayFrom_41 : decode cX0_placeAwayFrom 41 = .ok (.ireturn, 1) := by decide +kernel
theorem dX1_init_0 : decode cX1_init 0 = .ok (.aload_n 0, 1) := by decide +kernel
theorem dX1_init_1 : decode cX1_init 1 = .ok (.invokespecial 3, 3) := by decide +kernel
theorem dX1_init_4 : decode cX1_init 4 = .ok (.aload_n 0, 1) := by decide +kernel
theorem dX1_init_5 : decode cX1_init 5 = .ok (.bipush 96, 2) := by decide +kernel
theorem dX1_init_7 : decode cX1_init 7 = .ok (.newarray .int, 2) := by decide +kernel
theorem dX1_init_9 : decode cX1_init 9 = .ok (.putfield 11, 3) := by decide +kernel
theorem dX1_init_12 : decode cX1_init 12 = .ok (.return_, 1) := by decide +kernel
theorem dX1_isFull_0 : decode cX1_isFull 0 = .ok (.aload_n 0, 1) := by decide +kernel
theorem dX1_isFull_1 : decode cX1_isFull 1 = .ok (.getfield 15, 3) := by decide +kernel
theorem dX1_isFull_4 : decode cX1_isFull 4 = .ok (.bipush 96, 2) := by decide +kernel
theorem dX1_isFull_6 : decode cX1_isFull 6 = .ok (.if_icmp .lt 7, 3) := by decide +kernel
theorem dX1_isFull_9 : decode cX1_isFull 9 = .ok (.iconst 1, 1) := by decide +kernel
theorem dX1_isFull_10 : decode cX1_isFull 10 = .ok (.goto 4, 3) := by decide +kernel
theorem dX1_isFull_13 : decode cX1_isFull 13 = .ok (.iconst 0, 1) := by decide +kernel
theorem dX1_isFull_14 : decode cX1_isFull 14 = .ok (.ireturn, 1) := by decide +kernel
set_option maxRecDepth 20000 in
theorem ggX1_write_X1_isFull : GoodIn wsX1_write wsX1_isFull := goodIn_r _ [7, 2, 8, 9] (by decide +kernel) (by decide +kernel)
set_option maxRecDepth 20000 in
theorem gX1_write_X1_isFull : GoodIn wsX1_write (wsV RX1 19 RX1 yX1_isFull wsX1_isFull) := goodIn_app (goodIn_of _ (by decide +kernel)) ggX1_write_X1_isFull
theorem dX1_write_0 : decode cX1_write 0 = .ok (.aload_n 0, 1) := by decide +kernel
theorem dX1_write_1 : decode cX1_write 1 = .ok (.invokevirtual 19, 3) := by decide +kernel
theorem dX1_write_4 : decode cX1_write 4 = .ok (.ifCond .ne 23, 3) := by decide +kernel
theorem dX1_write_7 : decode cX1_write 7 = .ok (.aload_n 0, 1) := by decide +kernel
theorem dX1_write_8 : decode cX1_write 8 = .ok (.getfield 11, 3) := by decide +kernel
theorem dX1_write_11 : decode cX1_write 11 = .ok (.aload_n 0, 1) := by decide +kernel
theorem dX1_write_12 : decode cX1_write 12 = .ok (.getfield 15, 3) := by decide +kernel
theorem dX1_write_15 : decode cX1_write 15 = .ok (.iload_n 1, 1) := by decide +kernel
theorem dX1_write_16 : decode cX1_write 16 = .ok (.iastore, 1) := by decide +kernel
theorem dX1_write_17 : decode cX1_write 17 = .ok (.aload_n 0, 1) := by decide +kernel
theorem dX1_write_18 : decode cX1_write 18 = .ok (.dup, 1) := by decide +kernel
theorem dX1_write_19 : decode cX1_write 19 = .ok (.getfield 15, 3) := by decide +kernel
theorem dX1_write_22 : decode cX1_write 22 = .ok (.iconst 1, 1) := by decide +kernel
theorem dX1_write_23 : decode cX1_write 23 = .ok (.iadd, 1) := by decide +kernel
theorem dX1_write_24 : decode cX1_write 24 = .ok (.putfield 15, 3) := by decide +kernel
theorem dX1_write_27 : decode cX1_write 27 = .ok (.aload_n 0, 1) := by decide +kernel
theorem dX1_write_28 : decode cX1_write 28 = .ok (.getfield 15, 3) := by decide +kernel
theorem dX1_write_31 : decode cX1_write 31 = .ok (.ireturn, 1) := by decide +kernel
theorem dX1_letterAt_0 : decode cX1_letterAt 0 = .ok (.iload_n 1, 1) := by decide +kernel
theorem dX1_letterAt_1 : decode cX1_letterAt 1 = .ok (.ifCond .lt 20, 3) := by decide +kernel
theorem dX1_letterAt_4 : decode cX1_letterAt 4 = .ok (.iload_n 1, 1) := by decide +kernel
theorem dX1_letterAt_5 : decode cX1_letterAt 5 = .ok (.aload_n 0, 1) := by decide +kernel
theorem dX1_letterAt_6 : decode cX1_letterAt 6 = .ok (.getfield 15, 3) := by decide +kernel
theorem dX1_letterAt_9 : decode cX1_letterAt 9 = .ok (.if_icmp .ge 12, 3) := by decide +kernel
theorem dX1_letterAt_12 : decode cX1_letterAt 12 = .ok (.aload_n 0, 1) := by decide +kernel
theorem dX1_letterAt_13 : decode cX1_letterAt 13 = .ok (.getfield 11, 3) := by decide +kernel
theorem dX1_letterAt_16 : decode cX1_letterAt 16 = .ok (.iload_n 1, 1) := by decide +kernel
theorem dX1_letterAt_17 : decode cX1_letterAt 17 = .ok (.iaload, 1) := by decide +kernel
theorem dX1_letterAt_18 : decode cX1_letterAt 18 = .ok (.goto 4, 3) := by decide +kernel
theorem dX1_letterAt_21 : decode cX1_letterAt 21 = .ok (.iconst (-1), 1) := by decide +kernel
theorem dX1_letterAt_22 : decode cX1_letterAt 22 = .ok (.ireturn, 1) := by decide +kernel
theorem dX1_digitsBehind_0 : decode cX1_digitsBehind 0 = .ok (.iload_n 0, 1) := by decide +kernel
theorem dX1_digitsBehind_1 : decode cX1_digitsBehind 1 = .ok (.tableswitch 87 104 118 #[85, 81, 87, 87, 87, 87, 87, 87, 77, 79, 87, 75, 87, 87, 83], 75) := by decide +kernel
theorem dX1_digitsBehind_76 : decode cX1_digitsBehind 76 = .ok (.iconst 4, 1) := by decide +kernel
theorem dX1_digitsBehind_77 : decode cX1_digitsBehind 77 = .ok (.ireturn, 1) := by decide +kernel
theorem dX1_digitsBehind_78 : decode cX1_digitsBehind 78 = .ok (.iconst 3, 1) := by decide +kernel
theorem dX1_digitsBehind_79 : decode cX1_digitsBehind 79 = .ok (.ireturn, 1) := by decide +kernel
theorem dX1_digitsBehind_80 : decode cX1_digitsBehind 80 = .ok (.iconst 1, 1) := by decide +kernel
theorem dX1_digitsBehind_81 : decode cX1_digitsBehind 81 = .ok (.ireturn, 1) := by decide +kernel
theorem dX1_digitsBehind_82 : decode cX1_digitsBehind 82 = .ok (.iconst 2, 1) := by decide +kernel
theorem dX1_digitsBehind_83 : decode cX1_digitsBehind 83 = .ok (.ireturn, 1) := by decide +kernel
theorem dX1_digitsBehind_84 : decode cX1_digitsBehind 84 = .ok (.iconst 1, 1) := by decide +kernel
theorem dX1_digitsBehind_85 : decode cX1_digitsBehind 85 = .ok (.ireturn, 1) := by decide +kernel
theorem dX1_digitsBehind_86 : decode cX1_digitsBehind 86 = .ok (.iconst 2, 1) := by decide +kernel
theorem dX1_digitsBehind_87 : decode cX1_digitsBehind 87 = .ok (.ireturn, 1) := by decide +kernel
theorem dX1_digitsBehind_88 : decode cX1_digitsBehind 88 = .ok (.iconst 0, 1) := by decide +kernel
theorem dX1_digitsBehind_89 : decode cX1_digitsBehind 89 = .ok (.ireturn, 1) := by decide +kernel
set_option maxRecDepth 20000 in
theorem ggX1_lengthAt_X1_letterAt : GoodIn wsX1_lengthAt wsX1_letterAt := goodIn_r _ [5, 6, 7, 11, 12] (by decide +kernel) (by decide +kernel)
set_option maxRecDepth 20000 in
theorem gX1_lengthAt_X1_letterAt : GoodIn wsX1_lengthAt (wsV RX1 23 RX1 yX1_letterAt wsX1_letterAt) := goodIn_app (goodIn_of _ (by decide +kernel)) ggX1_lengthAt_X1_letterAt
set_option maxRecDepth 20000 in
theorem ggX1_lengthAt_X1_digitsBehind : GoodIn wsX1_lengthAt wsX1_digitsBehind := goodIn_r _ [10] (by decide +kernel) (by decide +kernel)
set_option maxRecDepth 20000 in
theorem gX1_lengthAt_X1_digitsBehind : GoodIn wsX1_lengthAt (va_wsS RX1 27 yX1_digitsBehind wsX1_digitsBehind) := goodIn_app (goodIn_of _ (by decide +kernel)) ggX1_lengthAt_X1_digitsBehind
theorem dX1_lengthAt_0 : decode cX1_lengthAt 0 = .ok (.aload_n 0, 1) := by decide +kernel
theorem dX1_lengthAt_1 : decode cX1_lengthAt 1 = .ok (.iload_n 1, 1) := by decide +kernel
theorem dX1_lengthAt_2 : decode cX1_lengthAt 2 = .ok (.invokevirtual 23, 3) := by decide +kernel
theorem dX1_lengthAt_5 : decode cX1_lengthAt 5 = .ok (.invokestatic 27, 3) := by decide +kernel
theorem dX1_lengthAt_8 : decode cX1_lengthAt 8 = .ok (.iconst 2, 1) := by decide +kernel
theorem dX1_lengthAt_9 : decode cX1_lengthAt 9 = .ok (.iadd, 1) := by decide +kernel
theorem dX1_lengthAt_10 : decode cX1_lengthAt 10 = .ok (.ireturn, 1) := by decide +kernel
set_option maxRecDepth 20000 in
theorem ggX1_fault_X1_letterAt : GoodIn wsX1_fault wsX1_letterAt := goodIn_r _ [6, 1, 7, 11, 12] (by decide +kernel) (by decide +kernel)
set_option maxRecDepth 20000 in
theorem gX1_fault_X1_letterAt : GoodIn wsX1_fault (wsV RX1 23 RX1 yX1_letterAt wsX1_letterAt) := goodIn_app (goodIn_of _ (by decide +kernel)) ggX1_fault_X1_letterAt
set_option maxRecDepth 20000 in
theorem ggX1_fault_X1_digitsBehind : GoodIn wsX1_fault wsX1_digitsBehind := goodIn_r _ [10] (by decide +kernel) (by decide +kernel)
set_option maxRecDepth 20000 in
theorem gX1_fault_X1_digitsBehind : GoodIn wsX1_fault (va_wsS RX1 27 yX1_digitsBehind wsX1_digitsBehind) := goodIn_app (goodIn_of _ (by decide +kernel)) ggX1_fault_X1_digitsBehind
theorem dX1_fault_0 : decode cX1_fault 0 = .ok (.iconst 0, 1) := by decide +kernel
theorem dX1_fault_1 : decode cX1_fault 1 = .ok (.istore_n 1, 1) := by decide +kernel
theorem dX1_fault_2 : decode cX1_fault 2 = .ok (.aload_n 0, 1) := by decide +kernel
theorem dX1_fault_3 : decode cX1_fault 3 = .ok (.iload_n 1, 1) := by decide +kernel
theorem dX1_fault_4 : decode cX1_fault 4 = .ok (.invokevirtual 23, 3) := by decide +kernel
theorem dX1_fault_7 : decode cX1_fault 7 = .ok (.invokestatic 27, 3) := by decide +kernel
theorem dX1_fault_10 : decode cX1_fault 10 = .ok (.istore_n 2, 1) := by decide +kernel
theorem dX1_fault_11 : decode cX1_fault 11 = .ok (.iload_n 2, 1) := by decide +kernel
theorem dX1_fault_12 : decode cX1_fault 12 = .ok (.ifCond .ne 9, 3) := by decide +kernel
theorem dX1_fault_15 : decode cX1_fault 15 = .ok (.sipush (-1000), 3) := by decide +kernel
theorem dX1_fault_18 : decode cX1_fault 18 = .ok (.iload_n 1, 1) := by decide +kernel
theorem dX1_fault_19 : decode cX1_fault 19 = .ok (.isub, 1) := by decide +kernel
theorem dX1_fault_20 : decode cX1_fault 20 = .ok (.ireturn, 1) := by decide +kernel
theorem dX1_fault_21 : decode cX1_fault 21 = .ok (.iload_n 1, 1) := by decide +kernel
theorem dX1_fault_22 : decode cX1_fault 22 = .ok (.iconst 1, 1) := by decide +kernel
theorem dX1_fault_23 : decode cX1_fault 23 = .ok (.iadd, 1) := by decide +kernel
theorem dX1_fault_24 : decode cX1_fault 24 = .ok (.istore_n 3, 1) := by decide +kernel
theorem dX1_fault_25 : decode cX1_fault 25 = .ok (.iload_n 3, 1) := by decide +kernel
theorem dX1_fault_26 : decode cX1_fault 26 = .ok (.iload_n 1, 1) := by decide +kernel
theorem dX1_fault_27 : decode cX1_fault 27 = .ok (.iload_n 2, 1) := by decide +kernel
theorem dX1_fault_28 : decode cX1_fault 28 = .ok (.iadd, 1) := by decide +kernel
theorem dX1_fault_29 : decode cX1_fault 29 = .ok (.if_icmp .gt 35, 3) := by decide +kernel
theorem dX1_fault_32 : decode cX1_fault 32 = .ok (.aload_n 0, 1) := by decide +kernel
theorem dX1_fault_33 : decode cX1_fault 33 = .ok (.iload_n 3, 1) := by decide +kernel
theorem dX1_fault_34 : decode cX1_fault 34 = .ok (.invokevirtual 23, 3) := by decide +kernel
theorem dX1_fault_37 : decode cX1_fault 37 = .ok (.bipush 48, 2) := by decide +kernel
theorem dX1_fault_39 : decode cX1_fault 39 = .ok (.if_icmp .lt 13, 3) := by decide +kernel
theorem dX1_fault_42 : decode cX1_fault 42 = .ok (.aload_n 0, 1) := by decide +kernel
theorem dX1_fault_43 : decode cX1_fault 43 = .ok (.iload_n 3, 1) := by decide +kernel
theorem dX1_fault_44 : decode cX1_fault 44 = .ok (.invokevirtual 23, 3) := by decide +kernel
theorem dX1_fault_47 : decode cX1_fault 47 = .ok (.bipush 57, 2) := by decide +kernel
theorem dX1_fault_49 : decode cX1_fault 49 = .ok (.if_icmp .le 9, 3) := by decide +kernel
theorem dX1_fault_52 : decode cX1_fault 52 = .ok (.sipush (-1000), 3) := by decide +kernel
theorem dX1_fault_55 : decode cX1_fault 55 = .ok (.iload_n 3, 1) := by decide +kernel
theorem dX1_fault_56 : decode cX1_fault 56 = .ok (.isub, 1) := by decide +kernel
theorem dX1_fault_57 : decode cX1_fault 57 = .ok (.ireturn, 1) := by decide +kernel
theorem dX1_fault_58 : decode cX1_fault 58 = .ok (.iinc 3 1, 3) := by decide +kernel
theorem dX1_fault_61 : decode cX1_fault 61 = .ok (.goto (-36), 3) := by decide +kernel
theorem dX1_fault_64 : decode cX1_fault 64 = .ok (.iload_n 1, 1) := by decide +kernel
theorem dX1_fault_65 : decode cX1_fault 65 = .ok (.iload_n 2, 1) := by decide +kernel
theorem dX1_fault_66 : decode cX1_fault 66 = .ok (.iconst 1, 1) := by decide +kernel
theorem dX1_fault_67 : decode cX1_fault 67 = .ok (.iadd, 1) := by decide +kernel
theorem dX1_fault_68 : decode cX1_fault 68 = .ok (.iadd, 1) := by decide +kernel
theorem dX1_fault_69 : decode cX1_fault 69 = .ok (.istore_n 1, 1) := by decide +kernel
theorem dX1_fault_70 : decode cX1_fault 70 = .ok (.aload_n 0, 1) := by decide +kernel
theorem dX1_fault_71 : decode cX1_fault 71 = .ok (.iload_n 1, 1) := by decide +kernel
theorem dX1_fault_72 : decode cX1_fault 72 = .ok (.invokevirtual 23, 3) := by decide +kernel
theorem dX1_fault_75 : decode cX1_fault 75 = .ok (.bipush 59, 2) := by decide +kernel
theorem dX1_fault_77 : decode cX1_fault 77 = .ok (.if_icmp .eq 9, 3) := by decide +kernel
theorem dX1_fault_80 : decode cX1_fault 80 = .ok (.sipush (-1000), 3) := by decide +kernel
theorem dX1_fault_83 : decode cX1_fault 83 = .ok (.iload_n 1, 1) := by decide +kernel
theorem dX1_fault_84 : decode cX1_fault 84 = .ok (.isub, 1) := by decide +kernel
theorem dX1_fault_85 : decode cX1_fault 85 = .ok (.ireturn, 1) := by decide +kernel
theorem dX1_fault_86 : decode cX1_fault 86 = .ok (.iinc 1 1, 3) := by decide +kernel
theorem dX1_fault_89 : decode cX1_fault 89 = .ok (.iload_n 1, 1) := by decide +kernel
theorem dX1_fault_90 : decode cX1_fault 90 = .ok (.aload_n 0, 1) := by decide +kernel
theorem dX1_fault_91 : decode cX1_fault 91 = .ok (.getfield 15, 3) := by decide +kernel
theorem dX1_fault_94 : decode cX1_fault 94 = .ok (.if_icmp .lt (-92), 3) := by decide +kernel
theorem dX1_fault_97 : decode cX1_fault 97 = .ok (.iconst 0, 1) := by decide +kernel
theorem dX1_fault_98 : decode cX1_fault 98 = .ok (.ireturn, 1) := by decide +kernel
set_option maxRecDepth 20000 in
theorem ggX1_digitAt_X1_letterAt : GoodIn wsX1_digitAt wsX1_letterAt := goodIn_r _ [5, 6, 7, 8, 9] (by decide +kernel) (by decide +kernel)
set_option maxRecDepth 20000 in
theorem gX1_digitAt_X1_letterAt : GoodIn wsX1_digitAt (wsV RX1 23 RX1 yX1_letterAt wsX1_letterAt) := goodIn_app (goodIn_of _ (by decide +kernel)) ggX1_digitAt_X1_letterAt
theorem dX1_digitAt_0 : decode cX1_digitAt 0 = .ok (.aload_n 0, 1) := by decide +kernel
theorem dX1_digitAt_1 : decode cX1_digitAt 1 = .ok (.iload_n 1, 1) := by decide +kernel
theorem dX1_digitAt_2 : decode cX1_digitAt 2 = .ok (.invokevirtual 23, 3) := by decide +kernel
theorem dX1_digitAt_5 : decode cX1_digitAt 5 = .ok (.bipush 48, 2) := by decide +kernel
theorem dX1_digitAt_7 : decode cX1_digitAt 7 = .ok (.isub, 1) := by decide +kernel
theorem dX1_digitAt_8 : decode cX1_digitAt 8 = .ok (.ireturn, 1) := by decide +kernel
set_option maxRecDepth 20000 in
theorem ggX1_numberAt_X1_digitAt : GoodIn wsX1_numberAt wsX1_digitAt := goodIn_r _ [5, 6, 7, 8, 4, 9, 10, 11, 12, 13] (by decide +kernel) (by decide +kernel)
set_option maxRecDepth 20000 in
theorem gX1_numberAt_X1_digitAt : GoodIn wsX1_numberAt (wsV RX1 30 RX1 yX1_digitAt wsX1_digitAt) := goodIn_app (goodIn_of _ (by decide +kernel)) ggX1_numberAt_X1_digitAt
theorem dX1_numberAt_0 : decode cX1_numberAt 0 = .ok (.bipush 10, 2) := by decide +kernel
theorem dX1_numberAt_2 : decode cX1_numberAt 2 = .ok (.aload_n 0, 1) := by decide +kernel
theorem dX1_numberAt_3 : decode cX1_numberAt 3 = .ok (.iload_n 1, 1) := by decide +kernel
theorem dX1_numberAt_4 : decode cX1_numberAt 4 = .ok (.invokevirtual 30, 3) := by decide +kernel
theorem dX1_numberAt_7 : decode cX1_numberAt 7 = .ok (.imul, 1) := by decide +kernel
theorem dX1_numberAt_8 : decode cX1_numberAt 8 = .ok (.aload_n 0, 1) := by decide +kernel
theorem dX1_numberAt_9 : decode cX1_numberAt 9 = .ok (.iload_n 1, 1) := by decide +kernel
theorem dX1_numberAt_10 : decode cX1_numberAt 10 = .ok (.iconst 1, 1) := by decide +kernel
theorem dX1_numberAt_11 : decode cX1_numberAt 11 = .ok (.iadd, 1) := by decide +kernel
theorem dX1_numberAt_12 : decode cX1_numberAt 12 = .ok (.invokevirtual 30, 3) := by decide +kernel
theorem dX1_numberAt_15 : decode cX1_numberAt 15 = .ok (.iadd, 1) := by decide +kernel
theorem dX1_numberAt_16 : decode cX1_numberAt 16 = .ok (.ireturn, 1) := by decide +kernel
set_option maxRecDepth 20000 in
theorem ggX1_refusalOfStatement_X1_digitAt : GoodIn wsX1_refusalOfStatement wsX1_digitAt := goodIn_r _ [5, 6, 7, 8, 4, 9, 10, 11, 60, 61] (by decide +kernel) (by decide +kernel)
set_option maxRecDepth 20000 in
theorem gX1_refusalOfStatement_X1_digitAt : GoodIn wsX1_refusalOfStatement (wsV RX1 30 RX1 yX1_digitAt wsX1_digitAt) := goodIn_app (goodIn_of _ (by decide +kernel)) ggX1_refusalOfStatement_X1_digitAt
set_option maxRecDepth 20000 in
theorem ggX1_refusalOfStatement_X1_letterAt : GoodIn wsX1_refusalOfStatement wsX1_letterAt := goodIn_r _ [9, 10, 11, 60, 61] (by decide +kernel) (by decide +kernel)
set_option maxRecDepth 20000 in
theorem gX1_refusalOfStatement_X1_letterAt : GoodIn wsX1_refusalOfStatement (wsV RX1 23 RX1 yX1_letterAt wsX1_letterAt) := goodIn_app (goodIn_of _ (by decide +kernel)) ggX1_refusalOfStatement_X1_letterAt
set_option maxRecDepth 20000 in
theorem ggX1_refusalOfStatement_X1_numberAt : GoodIn wsX1_refusalOfStatement wsX1_numberAt := goodIn_r _ [15, 1, 2, 3, 4, 5, 6, 7, 8, 9, 10, 11, 60, 61] (by decide +kernel) (by decide +kernel)
set_option maxRecDepth 20000 in
theorem gX1_refusalOfStatement_X1_numberAt : GoodIn wsX1_refusalOfStatement (wsV RX1 33 RX1 yX1_numberAt wsX1_numberAt) := goodIn_app (goodIn_of _ (by decide +kernel)) ggX1_refusalOfStatement_X1_numberAt
set_option maxRecDepth 20000 in
theorem ggX1_refusalOfStatement_X0_refusalOfShore : GoodIn wsX1_refusalOfStatement wsX0_refusalOfShore := goodIn_r _ [19, 20, 21, 22, 23, 17, 24, 25, 49, 50, 51, 52, 53, 54, 55, 56, 57, 58, 59] (by decide +kernel) (by decide +kernel)
set_option maxRecDepth 20000 in
theorem gX1_refusalOfStatement_X0_refusalOfShore_n36 : GoodIn wsX1_refusalOfStatement (wsX0_refusalOfShore) := ggX1_refusalOfStatement_X0_refusalOfShore
set_option maxRecDepth 20000 in
theorem ggX1_refusalOfStatement_X0_refusalOfPowder : GoodIn wsX1_refusalOfStatement wsX0_refusalOfPowder := goodIn_r _ [28, 20, 29, 30, 31, 32, 33, 34, 35, 36, 37, 38, 49, 50, 51, 52, 53, 54, 55, 56, 57, 58, 59] (by decide +kernel) (by decide +kernel)
set_option maxRecDepth 20000 in
theorem gX1_refusalOfStatement_X0_refusalOfPowder_n42 : GoodIn wsX1_refusalOfStatement (wsX0_refusalOfPowder) := ggX1_refusalOfStatement_X0_refusalOfPowder
set_option maxRecDepth 20000 in
theorem ggX1_refusalOfStatement_X4_nobody : GoodIn wsX1_refusalOfStatement wsX4_nobody := goodIn_r _ [31] (by decide +kernel) (by decide +kernel)
set_option maxRecDepth 20000 in
theorem gX1_refusalOfStatement_X4_nobody_n49 : GoodIn wsX1_refusalOfStatement (wsX4_nobody) := ggX1_refusalOfStatement_X4_nobody
set_option maxRecDepth 20000 in
theorem ggX1_refusalOfStatement_X0_refusalOfIsle : GoodIn wsX1_refusalOfStatement wsX0_refusalOfIsle := goodIn_r _ [41, 32, 30, 33, 34, 35, 36, 42, 43, 37, 38] (by decide +kernel) (by decide +kernel)
set_option maxRecDepth 20000 in
theorem gX1_refusalOfStatement_X0_refusalOfIsle_n52 : GoodIn wsX1_refusalOfStatement (wsX0_refusalOfIsle) := ggX1_refusalOfStatement_X0_refusalOfIsle
set_option maxRecDepth 20000 in
theorem ggX1_refusalOfStatement_X0_refusalOfHours : GoodIn wsX1_refusalOfStatement wsX0_refusalOfHours := goodIn_r _ [46, 47, 48, 32, 30, 33, 34, 35, 36, 49, 50, 51, 52, 53, 54, 55, 56, 57, 58, 59] (by decide +kernel) (by decide +kernel)
set_option maxRecDepth 20000 in
theorem gX1_refusalOfStatement_X0_refusalOfHours_n55 : GoodIn wsX1_refusalOfStatement (wsX0_refusalOfHours) := ggX1_refusalOfStatement_X0_refusalOfHours
theorem dX1_refusalOfStatement_0 : decode cX1_refusalOfStatement 0 = .ok (.aload_n 0, 1) := by decide +kernel
theorem dX1_refusalOfStatement_1 : decode cX1_refusalOfStatement 1 = .ok (.iload_n 1, 1) := by decide +kernel
theorem dX1_refusalOfStatement_2 : decode cX1_refusalOfStatement 2 = .ok (.iconst 1, 1) := by decide +kernel
theorem dX1_refusalOfStatement_3 : decode cX1_refusalOfStatement 3 = .ok (.iadd, 1) := by decide +kernel
theorem dX1_refusalOfStatement_4 : decode cX1_refusalOfStatement 4 = .ok (.invokevirtual 30, 3) := by decide +kernel
theorem dX1_refusalOfStatement_7 : decode cX1_refusalOfStatement 7 = .ok (.istore_n 3, 1) := by decide +kernel
theorem dX1_refusalOfStatement_8 : decode cX1_refusalOfStatement 8 = .ok (.aload_n 0, 1) := by decide +kernel
theorem dX1_refusalOfStatement_9 : decode cX1_refusalOfStatement 9 = .ok (.iload_n 1, 1) := by decide +kernel
theorem dX1_refusalOfStatement_10 : decode cX1_refusalOfStatement 10 = .ok (.invokevirtual 23, 3) := by decide +kernel
theorem dX1_refusalOfStatement_13 : decode cX1_refusalOfStatement 13 = .ok (.tableswitch 133 105 118 #[113, 133, 133, 133, 133, 133, 133, 91, 104, 133, 71, 133, 133, 126], 71) := by decide +kernel
theorem dX1_refusalOfStatement_84 : decode cX1_refusalOfStatement 84 = .ok (.aload_n 2, 1) := by decide +kernel
theorem dX1_refusalOfStatement_85 : decode cX1_refusalOfStatement 85 = .ok (.iload_n 3, 1) := by decide +kernel
theorem dX1_refusalOfStatement_86 : decode cX1_refusalOfStatement 86 = .ok (.aload_n 0, 1) := by decide +kernel
theorem dX1_refusalOfStatement_87 : decode cX1_refusalOfStatement 87 = .ok (.iload_n 1, 1) := by decide +kernel
theorem dX1_refusalOfStatement_88 : decode cX1_refusalOfStatement 88 = .ok (.iconst 2, 1) := by decide +kernel
theorem dX1_refusalOfStatement_89 : decode cX1_refusalOfStatement 89 = .ok (.iadd, 1) := by decide +kernel
theorem dX1_refusalOfStatement_90 : decode cX1_refusalOfStatement 90 = .ok (.invokevirtual 30, 3) := by decide +kernel
theorem dX1_refusalOfStatement_93 : decode cX1_refusalOfStatement 93 = .ok (.aload_n 0, 1) := by decide +kernel
theorem dX1_refusalOfStatement_94 : decode cX1_refusalOfStatement 94 = .ok (.iload_n 1, 1) := by decide +kernel
theorem dX1_refusalOfStatement_95 : decode cX1_refusalOfStatement 95 = .ok (.iconst 3, 1) := by decide +kernel
theorem dX1_refusalOfStatement_96 : decode cX1_refusalOfStatement 96 = .ok (.iadd, 1) := by decide +kernel
theorem dX1_refusalOfStatement_97 : decode cX1_refusalOfStatement 97 = .ok (.invokevirtual 33, 3) := by decide +kernel
theorem dX1_refusalOfStatement_100 : decode cX1_refusalOfStatement 100 = .ok (.invokevirtual 36, 3) := by decide +kernel
theorem dX1_refusalOfStatement_103 : decode cX1_refusalOfStatement 103 = .ok (.ireturn, 1) := by decide +kernel
theorem dX1_refusalOfStatement_104 : decode cX1_refusalOfStatement 104 = .ok (.aload_n 2, 1) := by decide +kernel
theorem dX1_refusalOfStatement_105 : decode cX1_refusalOfStatement 105 = .ok (.iload_n 3, 1) := by decide +kernel
theorem dX1_refusalOfStatement_106 : decode cX1_refusalOfStatement 106 = .ok (.aload_n 0, 1) := by decide +kernel
theorem dX1_refusalOfStatement_107 : decode cX1_refusalOfStatement 107 = .ok (.iload_n 1, 1) := by decide +kernel
theorem dX1_refusalOfStatement_108 : decode cX1_refusalOfStatement 108 = .ok (.iconst 2, 1) := by decide +kernel
theorem dX1_refusalOfStatement_109 : decode cX1_refusalOfStatement 109 = .ok (.iadd, 1) := by decide +kernel
theorem dX1_refusalOfStatement_110 : decode cX1_refusalOfStatement 110 = .ok (.invokevirtual 33, 3) := by decide +kernel
theorem dX1_refusalOfStatement_113 : decode cX1_refusalOfStatement 113 = .ok (.invokevirtual 42, 3) := by decide +kernel
theorem dX1_refusalOfStatement_116 : decode cX1_refusalOfStatement 116 = .ok (.ireturn, 1) := by decide +kernel
theorem dX1_refusalOfStatement_117 : decode cX1_refusalOfStatement 117 = .ok (.iload_n 3, 1) := by decide +kernel
theorem dX1_refusalOfStatement_118 : decode cX1_refusalOfStatement 118 = .ok (.aload_n 2, 1) := by decide +kernel
theorem dX1_refusalOfStatement_119 : decode cX1_refusalOfStatement 119 = .ok (.getfield 46, 3) := by decide +kernel
theorem dX1_refusalOfStatement_122 : decode cX1_refusalOfStatement 122 = .ok (.invokestatic 49, 3) := by decide +kernel
theorem dX1_refusalOfStatement_125 : decode cX1_refusalOfStatement 125 = .ok (.ireturn, 1) := by decide +kernel
theorem dX1_refusalOfStatement_126 : decode cX1_refusalOfStatement 126 = .ok (.aload_n 2, 1) := by decide +kernel
theorem dX1_refusalOfStatement_127 : decode cX1_refusalOfStatement 127 = .ok (.iconst 0, 1) := by decide +kernel
theorem dX1_refusalOfStatement_128 : decode cX1_refusalOfStatement 128 = .ok (.aload_n 0, 1) := by decide +kernel
theorem dX1_refusalOfStatement_129 : decode cX1_refusalOfStatement 129 = .ok (.iload_n 1, 1) := by decide +kernel
theorem dX1_refusalOfStatement_130 : decode cX1_refusalOfStatement 130 = .ok (.iconst 1, 1) := by decide +kernel
theorem dX1_refusalOfStatement_131 : decode cX1_refusalOfStatement 131 = .ok (.iadd, 1) := by decide +kernel
theorem dX1_refusalOfStatement_132 : decode cX1_refusalOfStatement 132 = .ok (.invokevirtual 33, 3) := by decide +kernel
theorem dX1_refusalOfStatement_135 : decode cX1_refusalOfStatement 135 = .ok (.invokevirtual 52, 3) := by decide +kernel
theorem dX1_refusalOfStatement_138 : decode cX1_refusalOfStatement 138 = .ok (.ireturn, 1) := by decide +kernel
theorem dX1_refusalOfStatement_139 : decode cX1_refusalOfStatement 139 = .ok (.aload_n 2, 1) := by decide +kernel
theorem dX1_refusalOfStatement_140 : decode cX1_refusalOfStatement 140 = .ok (.iconst 1, 1) := by decide +kernel
theorem dX1_refusalOfStatement_141 : decode cX1_refusalOfStatement 141 = .ok (.iload_n 3, 1) := by decide +kernel
theorem dX1_refusalOfStatement_142 : decode cX1_refusalOfStatement 142 = .ok (.invokevirtual 52, 3) := by decide +kernel
theorem dX1_refusalOfStatement_145 : decode cX1_refusalOfStatement 145 = .ok (.ireturn, 1) := by decide +kernel
theorem dX1_refusalOfStatement_146 : decode cX1_refusalOfStatement 146 = .ok (.aload_n 2, 1) := by decide +kernel
theorem dX1_refusalOfStatement_147 : decode cX1_refusalOfStatement 147 = .ok (.aload_n 0, 1) := by decide +kernel
theorem dX1_refusalOfStatement_148 : decode cX1_refusalOfStatement 148 = .ok (.iload_n 1, 1) := by decide +kernel
theorem dX1_refusalOfStatement_149 : decode cX1_refusalOfStatement 149 = .ok (.iconst 1, 1) := by decide +kernel
theorem dX1_refusalOfStatement_150 : decode cX1_refusalOfStatement 150 = .ok (.iadd, 1) := by decide +kernel
theorem dX1_refusalOfStatement_151 : decode cX1_refusalOfStatement 151 = .ok (.invokevirtual 33, 3) := by decide +kernel
theorem dX1_refusalOfStatement_154 : decode cX1_refusalOfStatement 154 = .ok (.invokevirtual 55, 3) := by decide +kernel
theorem dX1_refusalOfStatement_157 : decode cX1_refusalOfStatement 157 = .ok (.ireturn, 1) := by decide +kernel
set_option maxRecDepth 20000 in
theorem ggX1_carryOut_X1_digitAt : GoodIn wsX1_carryOut wsX1_digitAt := goodIn_r _ [5, 6, 7, 8, 4, 9, 10, 11, 105, 106] (by decide +kernel) (by decide +kernel)
set_option maxRecDepth 20000 in
theorem gX1_carryOut_X1_digitAt : GoodIn wsX1_carryOut (wsV RX1 30 RX1 yX1_digitAt wsX1_digitAt) := goodIn_app (goodIn_of _ (by decide +kernel)) ggX1_carryOut_X1_digitAt
set_option maxRecDepth 20000 in
theorem ggX1_carryOut_X1_letterAt : GoodIn wsX1_carryOut wsX1_letterAt := goodIn_r _ [9, 10, 11, 105, 106] (by decide +kernel) (by decide +kernel)
set_option maxRecDepth 20000 in
theorem gX1_carryOut_X1_letterAt : GoodIn wsX1_carryOut (wsV RX1 23 RX1 yX1_letterAt wsX1_letterAt) := goodIn_app (goodIn_of _ (by decide +kernel)) ggX1_carryOut_X1_letterAt
set_option maxRecDepth 20000 in
theorem ggX1_carryOut_X1_numberAt : GoodIn wsX1_carryOut wsX1_numberAt := goodIn_r _ [15, 1, 2, 3, 4, 5, 6, 7, 8, 9, 10, 11, 105, 106] (by decide +kernel) (by decide +kernel)
set_option maxRecDepth 20000 in
theorem gX1_carryOut_X1_numberAt : GoodIn wsX1_carryOut (wsV RX1 33 RX1 yX1_numberAt wsX1_numberAt) := goodIn_app (goodIn_of _ (by decide +kernel)) ggX1_carryOut_X1_numberAt
set_option maxRecDepth 20000 in
theorem ggX1_carryOut_X0_add : GoodIn wsX1_carryOut wsX0_add := goodIn_r _ [19, 20, 21, 22, 23, 24, 25, 107, 108, 109, 110, 111, 112, 113, 114, 115, 116, 117] (by decide +kernel) (by decide +kernel)
set_option maxRecDepth 20000 in
theorem gX1_carryOut_X0_add_n58 : GoodIn wsX1_carryOut (wsX0_add) := ggX1_carryOut_X0_add
set_option maxRecDepth 20000 in
theorem ggX1_carryOut_X0_setPowder : GoodIn wsX1_carryOut wsX0_setPowder := goodIn_r _ [28, 24, 107, 108, 109, 110, 111, 112, 113, 114, 115, 116, 117] (by decide +kernel) (by decide +kernel)
set_option maxRecDepth 20000 in
theorem gX1_carryOut_X0_setPowder_n62 : GoodIn wsX1_carryOut (wsX0_setPowder) := ggX1_carryOut_X0_setPowder
set_option maxRecDepth 20000 in
theorem ggX1_carryOut_X0_turnQuiet : GoodIn wsX1_carryOut wsX0_turnQuiet := goodIn_r _ [31, 32, 107, 108, 109, 110, 111, 112, 113, 114, 115, 116, 117] (by decide +kernel) (by decide +kernel)
set_option maxRecDepth 20000 in
theorem gX1_carryOut_X0_turnQuiet_n66 : GoodIn wsX1_carryOut (wsX0_turnQuiet) := ggX1_carryOut_X0_turnQuiet
set_option maxRecDepth 20000 in
theorem ggX1_carryOut_X0_setIsle : GoodIn wsX1_carryOut wsX0_setIsle := goodIn_r _ [35, 36, 37, 107, 108, 109, 110, 111, 112, 113, 114, 115, 116, 117] (by decide +kernel) (by decide +kernel)
set_option maxRecDepth 20000 in
theorem gX1_carryOut_X0_setIsle_n70 : GoodIn wsX1_carryOut (wsX0_setIsle) := ggX1_carryOut_X0_setIsle
set_option maxRecDepth 20000 in
theorem ggX1_carryOut_X0_passHours : GoodIn wsX1_carryOut wsX0_passHours := goodIn_r _ [40, 41, 42, 43, 17, 44, 45, 36, 46, 25, 47, 48, 49, 50, 51, 52, 53, 54, 20, 55, 56, 57, 58, 24, 59, 60, 61, 62, 32, 63, 64, 65, 66, 23, 67, 68, 69, 70, 21, 22, 71, 72, 73, 74, 75, 76, 77, 78, 79, 80, 81, 82, 83, 84, 85, 86, 87, 88, 89, 37, 90, 91, 92, 93, 94, 95, 96, 97, 98, 99, 100, 101, 102, 103, 104, 107, 108, 109, 110, 111, 112, 113, 114, 115, 116, 117] (by decide +kernel) (by decide +kernel)
set_option maxRecDepth 20000 in
theorem gX1_carryOut_X0_passHours_n73 : GoodIn wsX1_carryOut (wsX0_passHours) := ggX1_carryOut_X0_passHours
theorem dX1_carryOut_0 : decode cX1_carryOut 0 = .ok (.aload_n 0, 1) := by decide +kernel
theorem dX1_carryOut_1 : decode cX1_carryOut 1 = .ok (.iload_n 1, 1) := by decide +kernel
theorem dX1_carryOut_2 : decode cX1_carryOut 2 = .ok (.iconst 1, 1) := by decide +kernel
theorem dX1_carryOut_3 : decode cX1_carryOut 3 = .ok (.iadd, 1) := by decide +kernel
theorem dX1_carryOut_4 : decode cX1_carryOut 4 = .ok (.invokevirtual 30, 3) := by decide +kernel
theorem dX1_carryOut_7 : decode cX1_carryOut 7 = .ok (.istore_n 3, 1) := by decide +kernel
theorem dX1_carryOut_8 : decode cX1_carryOut 8 = .ok (.aload_n 0, 1) := by decide +kernel
theorem dX1_carryOut_9 : decode cX1_carryOut 9 = .ok (.iload_n 1, 1) := by decide +kernel
theorem dX1_carryOut_10 : decode cX1_carryOut 10 = .ok (.invokevirtual 23, 3) := by decide +kernel
theorem dX1_carryOut_13 : decode cX1_carryOut 13 = .ok (.tableswitch 140 105 118 #[116, 140, 140, 140, 140, 140, 140, 93, 108, 140, 71, 140, 140, 131], 71) := by decide +kernel
theorem dX1_carryOut_84 : decode cX1_carryOut 84 = .ok (.aload_n 2, 1) := by decide +kernel
theorem dX1_carryOut_85 : decode cX1_carryOut 85 = .ok (.iload_n 3, 1) := by decide +kernel
theorem dX1_carryOut_86 : decode cX1_carryOut 86 = .ok (.aload_n 0, 1) := by decide +kernel
theorem dX1_carryOut_87 : decode cX1_carryOut 87 = .ok (.iload_n 1, 1) := by decide +kernel
theorem dX1_carryOut_88 : decode cX1_carryOut 88 = .ok (.iconst 2, 1) := by decide +kernel
theorem dX1_carryOut_89 : decode cX1_carryOut 89 = .ok (.iadd, 1) := by decide +kernel
theorem dX1_carryOut_90 : decode cX1_carryOut 90 = .ok (.invokevirtual 30, 3) := by decide +kernel
theorem dX1_carryOut_93 : decode cX1_carryOut 93 = .ok (.aload_n 0, 1) := by decide +kernel
theorem dX1_carryOut_94 : decode cX1_carryOut 94 = .ok (.iload_n 1, 1) := by decide +kernel
theorem dX1_carryOut_95 : decode cX1_carryOut 95 = .ok (.iconst 3, 1) := by decide +kernel
theorem dX1_carryOut_96 : decode cX1_carryOut 96 = .ok (.iadd, 1) := by decide +kernel
theorem dX1_carryOut_97 : decode cX1_carryOut 97 = .ok (.invokevirtual 33, 3) := by decide +kernel
theorem dX1_carryOut_100 : decode cX1_carryOut 100 = .ok (.invokevirtual 58, 3) := by decide +kernel
theorem dX1_carryOut_103 : decode cX1_carryOut 103 = .ok (.goto 61, 3) := by decide +kernel
theorem dX1_carryOut_106 : decode cX1_carryOut 106 = .ok (.aload_n 2, 1) := by decide +kernel
theorem dX1_carryOut_107 : decode cX1_carryOut 107 = .ok (.iload_n 3, 1) := by decide +kernel
theorem dX1_carryOut_108 : decode cX1_carryOut 108 = .ok (.aload_n 0, 1) := by decide +kernel
theorem dX1_carryOut_109 : decode cX1_carryOut 109 = .ok (.iload_n 1, 1) := by decide +kernel
theorem dX1_carryOut_110 : decode cX1_carryOut 110 = .ok (.iconst 2, 1) := by decide +kernel
theorem dX1_carryOut_111 : decode cX1_carryOut 111 = .ok (.iadd, 1) := by decide +kernel
theorem dX1_carryOut_112 : decode cX1_carryOut 112 = .ok (.invokevirtual 33, 3) := by decide +kernel
theorem dX1_carryOut_115 : decode cX1_carryOut 115 = .ok (.invokevirtual 62, 3) := by decide +kernel
theorem dX1_carryOut_118 : decode cX1_carryOut 118 = .ok (.goto 46, 3) := by decide +kernel
theorem dX1_carryOut_121 : decode cX1_carryOut 121 = .ok (.aload_n 2, 1) := by decide +kernel
theorem dX1_carryOut_122 : decode cX1_carryOut 122 = .ok (.iload_n 3, 1) := by decide +kernel
theorem dX1_carryOut_123 : decode cX1_carryOut 123 = .ok (.invokevirtual 66, 3) := by decide +kernel
theorem dX1_carryOut_126 : decode cX1_carryOut 126 = .ok (.goto 38, 3) := by decide +kernel
theorem dX1_carryOut_129 : decode cX1_carryOut 129 = .ok (.aload_n 2, 1) := by decide +kernel
theorem dX1_carryOut_130 : decode cX1_carryOut 130 = .ok (.iconst 0, 1) := by decide +kernel
theorem dX1_carryOut_131 : decode cX1_carryOut 131 = .ok (.aload_n 0, 1) := by decide +kernel
theorem dX1_carryOut_132 : decode cX1_carryOut 132 = .ok (.iload_n 1, 1) := by decide +kernel
theorem dX1_carryOut_133 : decode cX1_carryOut 133 = .ok (.iconst 1, 1) := by decide +kernel
theorem dX1_carryOut_134 : decode cX1_carryOut 134 = .ok (.iadd, 1) := by decide +kernel
theorem dX1_carryOut_135 : decode cX1_carryOut 135 = .ok (.invokevirtual 33, 3) := by decide +kernel
theorem dX1_carryOut_138 : decode cX1_carryOut 138 = .ok (.invokevirtual 70, 3) := by decide +kernel
theorem dX1_carryOut_141 : decode cX1_carryOut 141 = .ok (.goto 23, 3) := by decide +kernel
theorem dX1_carryOut_144 : decode cX1_carryOut 144 = .ok (.aload_n 2, 1) := by decide +kernel
theorem dX1_carryOut_145 : decode cX1_carryOut 145 = .ok (.iconst 1, 1) := by decide +kernel
theorem dX1_carryOut_146 : decode cX1_carryOut 146 = .ok (.iload_n 3, 1) := by decide +kernel
theorem dX1_carryOut_147 : decode cX1_carryOut 147 = .ok (.invokevirtual 70, 3) := by decide +kernel
theorem dX1_carryOut_150 : decode cX1_carryOut 150 = .ok (.goto 14, 3) := by decide +kernel
theorem dX1_carryOut_153 : decode cX1_carryOut 153 = .ok (.aload_n 2, 1) := by decide +kernel
theorem dX1_carryOut_154 : decode cX1_carryOut 154 = .ok (.aload_n 0, 1) := by decide +kernel
theorem dX1_carryOut_155 : decode cX1_carryOut 155 = .ok (.iload_n 1, 1) := by decide +kernel
theorem dX1_carryOut_156 : decode cX1_carryOut 156 = .ok (.iconst 1, 1) := by decide +kernel
theorem dX1_carryOut_157 : decode cX1_carryOut 157 = .ok (.iadd, 1) := by decide +kernel
theorem dX1_carryOut_158 : decode cX1_carryOut 158 = .ok (.invokevirtual 33, 3) := by decide +kernel
theorem dX1_carryOut_161 : decode cX1_carryOut 161 = .ok (.invokevirtual 73, 3) := by decide +kernel
theorem dX1_carryOut_164 : decode cX1_carryOut 164 = .ok (.return_, 1) := by decide +kernel
set_option maxRecDepth 20000 in
theorem ggX2_init_X0_init : GoodIn wsX2_init wsX0_init := goodIn_r _ [13, 14, 2, 3, 9, 15, 16, 17, 18, 19, 20, 21, 22, 23, 24, 25, 26, 27, 28, 29, 30, 31, 32, 33] (by decide +kernel) (by decide +kernel)
set_option maxRecDepth 20000 in
theorem gX2_init_X0_init_n11 : GoodIn wsX2_init (wsX0_init) := ggX2_init_X0_init
theorem dX2_init_0 : decode cX2_init 0 = .ok (.aload_n 0, 1) := by decide +kernel
theorem dX2_init_1 : decode cX2_init 1 = .ok (.invokespecial 3, 3) := by decide +kernel
theorem dX2_init_4 : decode cX2_init 4 = .ok (.aload_n 0, 1) := by decide +kernel
theorem dX2_init_5 : decode cX2_init 5 = .ok (.new 9, 3) := by decide +kernel
theorem dX2_init_8 : decode cX2_init 8 = .ok (.dup, 1) := by decide +kernel
theorem dX2_init_9 : decode cX2_init 9 = .ok (.invokespecial 11, 3) := by decide +kernel
theorem dX2_init_12 : decode cX2_init 12 = .ok (.putfield 12, 3) := by decide +kernel
theorem dX2_init_15 : decode cX2_init 15 = .ok (.aload_n 0, 1) := by decide +kernel
theorem dX2_init_16 : decode cX2_init 16 = .ok (.new 9, 3) := by decide +kernel
theorem dX2_init_19 : decode cX2_init 19 = .ok (.dup, 1) := by decide +kernel
theorem dX2_init_20 : decode cX2_init 20 = .ok (.invokespecial 11, 3) := by decide +kernel
theorem dX2_init_23 : decode cX2_init 23 = .ok (.putfield 18, 3) := by decide +kernel
theorem dX2_init_26 : decode cX2_init 26 = .ok (.aload_n 0, 1) := by decide +kernel
theorem dX2_init_27 : decode cX2_init 27 = .ok (.iconst 4, 1) := by decide +kernel
theorem dX2_init_28 : decode cX2_init 28 = .ok (.newarray .int, 2) := by decide +kernel
theorem dX2_init_30 : decode cX2_init 30 = .ok (.putfield 21, 3) := by decide +kernel
theorem dX2_init_33 : decode cX2_init 33 = .ok (.aload_n 0, 1) := by decide +kernel
theorem dX2_init_34 : decode cX2_init 34 = .ok (.iconst 4, 1) := by decide +kernel
theorem dX2_init_35 : decode cX2_init 35 = .ok (.newarray .int, 2) := by decide +kernel
theorem dX2_init_37 : decode cX2_init 37 = .ok (.putfield 25, 3) := by decide +kernel
theorem dX2_init_40 : decode cX2_init 40 = .ok (.return_, 1) := by decide +kernel
set_option maxRecDepth 20000 in
theorem ggX2_asNow_X0_become : GoodIn wsX2_asNow wsX0_become := goodIn_r _ [6, 7, 8, 9, 10, 11, 12, 13, 14, 15, 16, 17, 18, 19, 20, 21, 26, 27, 28, 29, 30, 31, 32, 33, 34, 35, 36] (by decide +kernel) (by decide +kernel)
set_option maxRecDepth 20000 in
theorem gX2_asNow_X0_become_n28 : GoodIn wsX2_asNow (wsX0_become) := ggX2_asNow_X0_become
theorem dX2_asNow_0 : decode cX2_asNow 0 = .ok (.aload_n 0, 1) := by decide +kernel
theorem dX2_asNow_1 : decode cX2_asNow 1 = .ok (.getfield 18, 3) := by decide +kernel
theorem dX2_asNow_4 : decode cX2_asNow 4 = .ok (.aload_n 0, 1) := by decide +kernel
theorem dX2_asNow_5 : decode cX2_asNow 5 = .ok (.getfield 12, 3) := by decide +kernel
theorem dX2_asNow_8 : decode cX2_asNow 8 = .ok (.invokevirtual 28, 3) := by decide +kernel
theorem dX2_asNow_11 : decode cX2_asNow 11 = .ok (.aload_n 0, 1) := by decide +kernel
theorem dX2_asNow_12 : decode cX2_asNow 12 = .ok (.getfield 18, 3) := by decide +kernel
theorem dX2_asNow_15 : decode cX2_asNow 15 = .ok (.areturn, 1) := by decide +kernel
set_option maxRecDepth 20000 in
theorem ggX2_after_X2_asNow : GoodIn wsX2_after wsX2_asNow := goodIn_r _ [5, 6, 7, 8, 9, 10, 11, 12, 13, 14, 15, 16, 17, 18, 19, 20, 21, 22, 23, 24, 25, 26, 92, 93, 94, 95, 96, 97, 98, 99, 100, 101, 102, 103, 104, 105, 106] (by decide +kernel) (by decide +kernel)
set_option maxRecDepth 20000 in
theorem gX2_after_X2_asNow : GoodIn wsX2_after (wsV RX2 32 RX2 yX2_asNow wsX2_asNow) := goodIn_app (goodIn_of _ (by decide +kernel)) ggX2_after_X2_asNow
set_option maxRecDepth 20000 in
theorem ggX2_after_X0_passHours : GoodIn wsX2_after wsX0_passHours := goodIn_r _ [29, 30, 31, 32, 9, 33, 25, 23, 26, 20, 34, 35, 36, 37, 38, 39, 40, 41, 22, 42, 43, 44, 45, 19, 46, 47, 48, 49, 21, 50, 51, 52, 53, 18, 54, 55, 56, 57, 12, 17, 58, 59, 60, 61, 62, 63, 64, 65, 66, 67, 68, 69, 70, 71, 72, 73, 74, 75, 76, 24, 77, 78, 79, 80, 81, 82, 83, 84, 85, 86, 87, 88, 89, 90, 91, 96, 97, 98, 99, 100, 101, 102, 103, 104, 105, 106] (by decide +kernel) (by decide +kernel)
set_option maxRecDepth 20000 in
theorem gX2_after_X0_passHours_n36 : GoodIn wsX2_after (wsX0_passHours) := ggX2_after_X0_passHours
theorem dX2_after_0 : decode cX2_after 0 = .ok (.aload_n 0, 1) := by decide +kernel
theorem dX2_after_1 : decode cX2_after 1 = .ok (.invokevirtual 32, 3) := by decide +kernel
theorem dX2_after_4 : decode cX2_after 4 = .ok (.astore_n 2, 1) := by decide +kernel
theorem dX2_after_5 : decode cX2_after 5 = .ok (.aload_n 2, 1) := by decide +kernel
theorem dX2_after_6 : decode cX2_after 6 = .ok (.iload_n 1, 1) := by decide +kernel
theorem dX2_after_7 : decode cX2_after 7 = .ok (.invokevirtual 36, 3) := by decide +kernel
theorem dX2_after_10 : decode cX2_after 10 = .ok (.aload_n 2, 1) := by decide +kernel
theorem dX2_after_11 : decode cX2_after 11 = .ok (.areturn, 1) := by decide +kernel
set_option maxRecDepth 20000 in
theorem ggX2_timesFromHere_X0_passHour : GoodIn wsX2_timesFromHere wsX0_passHour := goodIn_r _ [5, 6, 7, 8, 9, 10, 11, 12, 13, 14, 15, 16, 3, 17, 18, 19, 20, 21, 22, 23, 24, 25, 26, 27, 28, 29, 30, 31, 32, 33, 34, 35, 36, 37, 38, 39, 40, 41, 42, 43, 44, 45, 46, 47, 48, 49, 50, 51, 52, 53, 54, 55, 56, 57, 58, 59, 60, 61, 62, 63, 64, 65, 66, 67, 68, 69, 70, 71, 72, 73, 74, 79, 80, 81, 82, 83, 84, 85, 86, 87, 88, 89] (by decide +kernel) (by decide +kernel)
set_option maxRecDepth 20000 in
theorem gX2_timesFromHere_X0_passHour_n40 : GoodIn wsX2_timesFromHere (wsX0_passHour) := ggX2_timesFromHere_X0_passHour
set_option maxRecDepth 20000 in
theorem ggX2_timesFromHere_X0_hasIsle : GoodIn wsX2_timesFromHere wsX0_hasIsle := goodIn_r _ [32, 33, 7, 79, 80, 81, 82, 83, 84, 85, 86, 87, 88, 89] (by decide +kernel) (by decide +kernel)
set_option maxRecDepth 20000 in
theorem gX2_timesFromHere_X0_hasIsle_n44 : GoodIn wsX2_timesFromHere (wsX0_hasIsle) := ggX2_timesFromHere_X0_hasIsle
theorem dX2_timesFromHere_0 : decode cX2_timesFromHere 0 = .ok (.iconst 0, 1) := by decide +kernel
theorem dX2_timesFromHere_1 : decode cX2_timesFromHere 1 = .ok (.istore_n 3, 1) := by decide +kernel
theorem dX2_timesFromHere_2 : decode cX2_timesFromHere 2 = .ok (.iconst 0, 1) := by decide +kernel
theorem dX2_timesFromHere_3 : decode cX2_timesFromHere 3 = .ok (.istore 4, 2) := by decide +kernel
theorem dX2_timesFromHere_5 : decode cX2_timesFromHere 5 = .ok (.iload 4, 2) := by decide +kernel
theorem dX2_timesFromHere_7 : decode cX2_timesFromHere 7 = .ok (.iload_n 2, 1) := by decide +kernel
theorem dX2_timesFromHere_8 : decode cX2_timesFromHere 8 = .ok (.if_icmp .ge 31, 3) := by decide +kernel
theorem dX2_timesFromHere_11 : decode cX2_timesFromHere 11 = .ok (.aload_n 0, 1) := by decide +kernel
theorem dX2_timesFromHere_12 : decode cX2_timesFromHere 12 = .ok (.getfield 18, 3) := by decide +kernel
theorem dX2_timesFromHere_15 : decode cX2_timesFromHere 15 = .ok (.iconst 0, 1) := by decide +kernel
theorem dX2_timesFromHere_16 : decode cX2_timesFromHere 16 = .ok (.invokevirtual 40, 3) := by decide +kernel
theorem dX2_timesFromHere_19 : decode cX2_timesFromHere 19 = .ok (.aload_n 0, 1) := by decide +kernel
theorem dX2_timesFromHere_20 : decode cX2_timesFromHere 20 = .ok (.getfield 18, 3) := by decide +kernel
theorem dX2_timesFromHere_23 : decode cX2_timesFromHere 23 = .ok (.iload_n 1, 1) := by decide +kernel
theorem dX2_timesFromHere_24 : decode cX2_timesFromHere 24 = .ok (.invokevirtual 44, 3) := by decide +kernel
theorem dX2_timesFromHere_27 : decode cX2_timesFromHere 27 = .ok (.ifCond .eq 6, 3) := by decide +kernel
theorem dX2_timesFromHere_30 : decode cX2_timesFromHere 30 = .ok (.iinc 3 1, 3) := by decide +kernel
theorem dX2_timesFromHere_33 : decode cX2_timesFromHere 33 = .ok (.iinc 4 1, 3) := by decide +kernel
theorem dX2_timesFromHere_36 : decode cX2_timesFromHere 36 = .ok (.goto (-31), 3) := by decide +kernel
theorem dX2_timesFromHere_39 : decode cX2_timesFromHere 39 = .ok (.iload_n 3, 1) := by decide +kernel
theorem dX2_timesFromHere_40 : decode cX2_timesFromHere 40 = .ok (.ireturn, 1) := by decide +kernel
set_option maxRecDepth 20000 in
theorem ggX2_timesHad_X2_asNow : GoodIn wsX2_timesHad wsX2_asNow := goodIn_r _ [5, 6, 7, 8, 9, 10, 11, 12, 13, 14, 15, 16, 17, 18, 19, 20, 21, 22, 23, 24, 25, 26, 92, 93, 94, 95, 96, 97, 98, 99, 100, 101, 102, 103, 104, 105, 106] (by decide +kernel) (by decide +kernel)
set_option maxRecDepth 20000 in
theorem gX2_timesHad_X2_asNow : GoodIn wsX2_timesHad (wsV RX2 32 RX2 yX2_asNow wsX2_asNow) := goodIn_app (goodIn_of _ (by decide +kernel)) ggX2_timesHad_X2_asNow
set_option maxRecDepth 20000 in
theorem ggX2_timesHad_X2_timesFromHere : GoodIn wsX2_timesHad wsX2_timesFromHere := goodIn_r _ [30, 6, 31, 9, 32, 33, 25, 23, 26, 20, 34, 35, 36, 37, 38, 39, 40, 41, 22, 42, 43, 44, 45, 19, 46, 47, 48, 49, 21, 50, 51, 52, 53, 18, 54, 55, 56, 57, 12, 17, 58, 59, 60, 61, 62, 63, 64, 65, 66, 67, 68, 69, 70, 71, 72, 73, 74, 75, 76, 24, 77, 78, 79, 80, 81, 82, 83, 84, 85, 86, 87, 88, 89, 90, 91, 92, 93, 94, 95, 96, 97, 98, 99, 100, 101, 102, 103, 104, 105, 106] (by decide +kernel) (by decide +kernel)
set_option maxRecDepth 20000 in
theorem gX2_timesHad_X2_timesFromHere : GoodIn wsX2_timesHad (wsV RX2 48 RX2 yX2_timesFromHere wsX2_timesFromHere) := goodIn_app (goodIn_of _ (by decide +kernel)) ggX2_timesHad_X2_timesFromHere
theorem dX2_timesHad_0 : decode cX2_timesHad 0 = .ok (.aload_n 0, 1) := by decide +kernel
theorem dX2_timesHad_1 : decode cX2_timesHad 1 = .ok (.invokevirtual 32, 3) := by decide +kernel
theorem dX2_timesHad_4 : decode cX2_timesHad 4 = .ok (.pop, 1) := by decide +kernel
theorem dX2_timesHad_5 : decode cX2_timesHad 5 = .ok (.aload_n 0, 1) := by decide +kernel
theorem dX2_timesHad_6 : decode cX2_timesHad 6 = .ok (.iload_n 1, 1) := by decide +kernel
theorem dX2_timesHad_7 : decode cX2_timesHad 7 = .ok (.iload_n 2, 1) := by decide +kernel
theorem dX2_timesHad_8 : decode cX2_timesHad 8 = .ok (.invokevirtual 48, 3) := by decide +kernel
theorem dX2_timesHad_11 : decode cX2_timesHad 11 = .ok (.ireturn, 1) := by decide +kernel
set_option maxRecDepth 20000 in
theorem ggX2_firstHours_X2_asNow : GoodIn wsX2_firstHours wsX2_asNow := goodIn_r _ [5, 6, 7, 8, 9, 10, 11, 12, 13, 14, 15, 16, 17, 18, 19, 20, 21, 22, 23, 24, 25, 26, 88, 89, 90, 91, 92, 93, 94, 95, 96, 97, 98, 99, 100, 101, 102] (by decide +kernel) (by decide +kernel)
set_option maxRecDepth 20000 in
theorem gX2_firstHours_X2_asNow : GoodIn wsX2_firstHours (wsV RX2 32 RX2 yX2_asNow wsX2_asNow) := goodIn_app (goodIn_of _ (by decide +kernel)) ggX2_firstHours_X2_asNow
set_option maxRecDepth 20000 in
theorem ggX2_firstHours_X0_hasIsle : GoodIn wsX2_firstHours wsX0_hasIsle := goodIn_r _ [29, 18, 23, 92, 93, 94, 95, 96, 97, 98, 99, 100, 101, 102] (by decide +kernel) (by decide +kernel)
set_option maxRecDepth 20000 in
theorem gX2_firstHours_X0_hasIsle_n44 : GoodIn wsX2_firstHours (wsX0_hasIsle) := ggX2_firstHours_X0_hasIsle
set_option maxRecDepth 20000 in
theorem ggX2_firstHours_X0_passHour : GoodIn wsX2_firstHours wsX0_passHour := goodIn_r _ [32, 25, 23, 26, 20, 33, 34, 35, 36, 37, 38, 39, 9, 40, 22, 41, 42, 43, 44, 19, 45, 46, 47, 48, 21, 49, 27, 28, 29, 18, 50, 51, 52, 53, 12, 17, 54, 55, 56, 57, 58, 59, 60, 61, 62, 63, 64, 65, 66, 67, 68, 69, 70, 71, 72, 24, 73, 74, 75, 76, 77, 78, 79, 80, 81, 82, 83, 84, 85, 86, 87, 92, 93, 94, 95, 96, 97, 98, 99, 100, 101, 102] (by decide +kernel) (by decide +kernel)
set_option maxRecDepth 20000 in
theorem gX2_firstHours_X0_passHour_n40 : GoodIn wsX2_firstHours (wsX0_passHour) := ggX2_firstHours_X0_passHour
theorem dX2_firstHours_0 : decode cX2_firstHours 0 = .ok (.aload_n 0, 1) := by decide +kernel
theorem dX2_firstHours_1 : decode cX2_firstHours 1 = .ok (.invokevirtual 32, 3) := by decide +kernel
theorem dX2_firstHours_4 : decode cX2_firstHours 4 = .ok (.astore_n 2, 1) := by decide +kernel
theorem dX2_firstHours_5 : decode cX2_firstHours 5 = .ok (.iconst 0, 1) := by decide +kernel
theorem dX2_firstHours_6 : decode cX2_firstHours 6 = .ok (.istore_n 3, 1) := by decide +kernel
theorem dX2_firstHours_7 : decode cX2_firstHours 7 = .ok (.iload_n 3, 1) := by decide +kernel
theorem dX2_firstHours_8 : decode cX2_firstHours 8 = .ok (.bipush 99, 2) := by decide +kernel
theorem dX2_firstHours_10 : decode cX2_firstHours 10 = .ok (.if_icmp .gt 24, 3) := by decide +kernel
theorem dX2_firstHours_13 : decode cX2_firstHours 13 = .ok (.aload_n 2, 1) := by decide +kernel
theorem dX2_firstHours_14 : decode cX2_firstHours 14 = .ok (.iload_n 1, 1) := by decide +kernel
theorem dX2_firstHours_15 : decode cX2_firstHours 15 = .ok (.invokevirtual 44, 3) := by decide +kernel
theorem dX2_firstHours_18 : decode cX2_firstHours 18 = .ok (.ifCond .eq 5, 3) := by decide +kernel
theorem dX2_firstHours_21 : decode cX2_firstHours 21 = .ok (.iload_n 3, 1) := by decide +kernel
theorem dX2_firstHours_22 : decode cX2_firstHours 22 = .ok (.ireturn, 1) := by decide +kernel
theorem dX2_firstHours_23 : decode cX2_firstHours 23 = .ok (.aload_n 2, 1) := by decide +kernel
theorem dX2_firstHours_24 : decode cX2_firstHours 24 = .ok (.iconst 0, 1) := by decide +kernel
theorem dX2_firstHours_25 : decode cX2_firstHours 25 = .ok (.invokevirtual 40, 3) := by decide +kernel
theorem dX2_firstHours_28 : decode cX2_firstHours 28 = .ok (.iinc 3 1, 3) := by decide +kernel
theorem dX2_firstHours_31 : decode cX2_firstHours 31 = .ok (.goto (-24), 3) := by decide +kernel
theorem dX2_firstHours_34 : decode cX2_firstHours 34 = .ok (.bipush (-9), 2) := by decide +kernel
theorem dX2_firstHours_36 : decode cX2_firstHours 36 = .ok (.ireturn, 1) := by decide +kernel
set_option maxRecDepth 20000 in
theorem ggX2_firstOwner_X2_asNow : GoodIn wsX2_firstOwner wsX2_asNow := goodIn_r _ [5, 6, 7, 8, 9, 10, 11, 12, 13, 14, 15, 16, 17, 18, 19, 20, 21, 22, 23, 24, 25, 26, 88, 89, 90, 91, 92, 93, 94, 95, 96, 97, 98, 99, 100, 101, 102] (by decide +kernel) (by decide +kernel)
set_option maxRecDepth 20000 in
theorem gX2_firstOwner_X2_asNow : GoodIn wsX2_firstOwner (wsV RX2 32 RX2 yX2_asNow wsX2_asNow) := goodIn_app (goodIn_of _ (by decide +kernel)) ggX2_firstOwner_X2_asNow
set_option maxRecDepth 20000 in
theorem ggX2_firstOwner_X0_owner : GoodIn wsX2_firstOwner wsX0_owner := goodIn_r _ [29, 23, 30, 31, 32, 9, 33, 22, 18, 92, 93, 94, 95, 96, 97, 98, 99, 100, 101, 102] (by decide +kernel) (by decide +kernel)
set_option maxRecDepth 20000 in
theorem gX2_firstOwner_X0_owner_n52 : GoodIn wsX2_firstOwner (wsX0_owner) := ggX2_firstOwner_X0_owner
set_option maxRecDepth 20000 in
theorem ggX2_firstOwner_X0_passHour : GoodIn wsX2_firstOwner wsX0_passHour := goodIn_r _ [36, 25, 23, 26, 20, 37, 38, 39, 40, 41, 42, 43, 9, 44, 22, 45, 46, 47, 48, 19, 49, 50, 51, 52, 21, 53, 54, 55, 56, 18, 57, 58, 59, 60, 12, 17, 61, 62, 63, 64, 65, 66, 67, 68, 69, 70, 71, 72, 73, 74, 75, 76, 77, 78, 79, 24, 80, 81, 82, 83, 84, 85, 86, 87, 27, 28, 29, 30, 31, 32, 33, 92, 93, 94, 95, 96, 97, 98, 99, 100, 101, 102] (by decide +kernel) (by decide +kernel)
set_option maxRecDepth 20000 in
theorem gX2_firstOwner_X0_passHour_n40 : GoodIn wsX2_firstOwner (wsX0_passHour) := ggX2_firstOwner_X0_passHour
theorem dX2_firstOwner_0 : decode cX2_firstOwner 0 = .ok (.aload_n 0, 1) := by decide +kernel
theorem dX2_firstOwner_1 : decode cX2_firstOwner 1 = .ok (.invokevirtual 32, 3) := by decide +kernel
theorem dX2_firstOwner_4 : decode cX2_firstOwner 4 = .ok (.astore_n 1, 1) := by decide +kernel
theorem dX2_firstOwner_5 : decode cX2_firstOwner 5 = .ok (.iconst 0, 1) := by decide +kernel
theorem dX2_firstOwner_6 : decode cX2_firstOwner 6 = .ok (.istore_n 2, 1) := by decide +kernel
theorem dX2_firstOwner_7 : decode cX2_firstOwner 7 = .ok (.iload_n 2, 1) := by decide +kernel
theorem dX2_firstOwner_8 : decode cX2_firstOwner 8 = .ok (.bipush 99, 2) := by decide +kernel
theorem dX2_firstOwner_10 : decode cX2_firstOwner 10 = .ok (.if_icmp .gt 28, 3) := by decide +kernel
theorem dX2_firstOwner_13 : decode cX2_firstOwner 13 = .ok (.aload_n 1, 1) := by decide +kernel
theorem dX2_firstOwner_14 : decode cX2_firstOwner 14 = .ok (.invokevirtual 52, 3) := by decide +kernel
theorem dX2_firstOwner_17 : decode cX2_firstOwner 17 = .ok (.bipush (-9), 2) := by decide +kernel
theorem dX2_firstOwner_19 : decode cX2_firstOwner 19 = .ok (.if_icmp .eq 8, 3) := by decide +kernel
theorem dX2_firstOwner_22 : decode cX2_firstOwner 22 = .ok (.aload_n 1, 1) := by decide +kernel
theorem dX2_firstOwner_23 : decode cX2_firstOwner 23 = .ok (.invokevirtual 52, 3) := by decide +kernel
theorem dX2_firstOwner_26 : decode cX2_firstOwner 26 = .ok (.ireturn, 1) := by decide +kernel
theorem dX2_firstOwner_27 : decode cX2_firstOwner 27 = .ok (.aload_n 1, 1) := by decide +kernel
theorem dX2_firstOwner_28 : decode cX2_firstOwner 28 = .ok (.iconst 0, 1) := by decide +kernel
theorem dX2_firstOwner_29 : decode cX2_firstOwner 29 = .ok (.invokevirtual 40, 3) := by decide +kernel
theorem dX2_firstOwner_32 : decode cX2_firstOwner 32 = .ok (.iinc 2 1, 3) := by decide +kernel
theorem dX2_firstOwner_35 : decode cX2_firstOwner 35 = .ok (.goto (-28), 3) := by decide +kernel
theorem dX2_firstOwner_38 : decode cX2_firstOwner 38 = .ok (.bipush (-9), 2) := by decide +kernel
theorem dX2_firstOwner_40 : decode cX2_firstOwner 40 = .ok (.ireturn, 1) := by decide +kernel
set_option maxRecDepth 20000 in
theorem ggX2_neverBits_X2_firstHours : GoodIn wsX2_neverBits wsX2_firstHours := goodIn_r _ [6, 7, 8, 9, 5, 10, 11, 1, 12, 13, 14, 15, 16, 17, 18, 19, 20, 21, 22, 23, 24, 25, 26, 27, 28, 29, 30, 31, 32, 33, 34, 35, 36, 37, 38, 39, 40, 41, 42, 43, 44, 45, 46, 47, 48, 49, 50, 51, 52, 53, 54, 55, 56, 57, 58, 59, 60, 61, 62, 63, 64, 65, 66, 67, 68, 69, 70, 71, 72, 73, 74, 75, 76, 77, 78, 79, 80, 81, 82, 83, 84, 85, 86, 87, 88, 89, 90, 91, 92, 93, 94, 95, 96, 97, 98, 99, 100, 101, 102, 103, 104, 105, 106] (by decide +kernel) (by decide +kernel)
set_option maxRecDepth 20000 in
theorem gX2_neverBits_X2_firstHours : GoodIn wsX2_neverBits (wsV RX2 60 RX2 yX2_firstHours wsX2_firstHours) := goodIn_app (goodIn_of _ (by decide +kernel)) ggX2_neverBits_X2_firstHours
theorem dX2_neverBits_0 : decode cX2_neverBits 0 = .ok (.iconst 0, 1) := by decide +kernel
theorem dX2_neverBits_1 : decode cX2_neverBits 1 = .ok (.istore_n 1, 1) := by decide +kernel
theorem dX2_neverBits_2 : decode cX2_neverBits 2 = .ok (.iconst 0, 1) := by decide +kernel
theorem dX2_neverBits_3 : decode cX2_neverBits 3 = .ok (.istore_n 2, 1) := by decide +kernel
theorem dX2_neverBits_4 : decode cX2_neverBits 4 = .ok (.iload_n 2, 1) := by decide +kernel
theorem dX2_neverBits_5 : decode cX2_neverBits 5 = .ok (.aload_n 0, 1) := by decide +kernel
theorem dX2_neverBits_6 : decode cX2_neverBits 6 = .ok (.getfield 12, 3) := by decide +kernel
theorem dX2_neverBits_9 : decode cX2_neverBits 9 = .ok (.getfield 56, 3) := by decide +kernel
theorem dX2_neverBits_12 : decode cX2_neverBits 12 = .ok (.if_icmp .ge 25, 3) := by decide +kernel
theorem dX2_neverBits_15 : decode cX2_neverBits 15 = .ok (.aload_n 0, 1) := by decide +kernel
theorem dX2_neverBits_16 : decode cX2_neverBits 16 = .ok (.iload_n 2, 1) := by decide +kernel
theorem dX2_neverBits_17 : decode cX2_neverBits 17 = .ok (.invokevirtual 60, 3) := by decide +kernel
theorem dX2_neverBits_20 : decode cX2_neverBits 20 = .ok (.bipush (-9), 2) := by decide +kernel
theorem dX2_neverBits_22 : decode cX2_neverBits 22 = .ok (.if_icmp .ne 9, 3) := by decide +kernel
theorem dX2_neverBits_25 : decode cX2_neverBits 25 = .ok (.iload_n 1, 1) := by decide +kernel
theorem dX2_neverBits_26 : decode cX2_neverBits 26 = .ok (.iconst 1, 1) := by decide +kernel
theorem dX2_neverBits_27 : decode cX2_neverBits 27 = .ok (.iload_n 2, 1) := by decide +kernel
theorem dX2_neverBits_28 : decode cX2_neverBits 28 = .ok (.ishl, 1) := by decide +kernel
theorem dX2_neverBits_29 : decode cX2_neverBits 29 = .ok (.ior, 1) := by decide +kernel
theorem dX2_neverBits_30 : decode cX2_neverBits 30 = .ok (.istore_n 1, 1) := by decide +kernel
theorem dX2_neverBits_31 : decode cX2_neverBits 31 = .ok (.iinc 2 1, 3) := by decide +kernel
theorem dX2_neverBits_34 : decode cX2_neverBits 34 = .ok (.goto (-30), 3) := by decide +kernel
theorem dX2_neverBits_37 : decode cX2_neverBits 37 = .ok (.iload_n 1, 1) := by decide +kernel
theorem dX2_neverBits_38 : decode cX2_neverBits 38 = .ok (.ireturn, 1) := by decide +kernel
set_option maxRecDepth 20000 in
theorem ggX2_stillBehind_X2_asNow : GoodIn wsX2_stillBehind wsX2_asNow := goodIn_r _ [5, 6, 7, 8, 9, 10, 11, 12, 13, 14, 15, 16, 17, 18, 19, 20, 21, 22, 23, 24, 25, 26, 99, 100, 101, 102, 88, 89, 90, 91, 92, 93, 94, 95, 96, 97, 98] (by decide +kernel) (by decide +kernel)
set_option maxRecDepth 20000 in
theorem gX2_stillBehind_X2_asNow : GoodIn wsX2_stillBehind (wsV RX2 32 RX2 yX2_asNow wsX2_asNow) := goodIn_app (goodIn_of _ (by decide +kernel)) ggX2_stillBehind_X2_asNow
set_option maxRecDepth 20000 in
theorem ggX2_stillBehind_X0_passHour : GoodIn wsX2_stillBehind wsX0_passHour := goodIn_r _ [29, 25, 23, 26, 20, 30, 31, 32, 33, 34, 35, 36, 9, 37, 22, 38, 39, 40, 41, 19, 42, 43, 44, 45, 21, 46, 47, 48, 49, 18, 50, 51, 52, 53, 12, 17, 54, 55, 56, 57, 58, 59, 60, 61, 62, 63, 64, 65, 66, 67, 68, 69, 70, 71, 72, 24, 73, 74, 75, 76, 77, 78, 79, 80, 81, 82, 83, 84, 85, 86, 87, 88, 89, 90, 91, 92, 93, 94, 95, 96, 97, 98] (by decide +kernel) (by decide +kernel)
set_option maxRecDepth 20000 in
theorem gX2_stillBehind_X0_passHour_n40 : GoodIn wsX2_stillBehind (wsX0_passHour) := ggX2_stillBehind_X0_passHour
theorem dX2_stillBehind_0 : decode cX2_stillBehind 0 = .ok (.aload_n 0, 1) := by decide +kernel
theorem dX2_stillBehind_1 : decode cX2_stillBehind 1 = .ok (.invokevirtual 32, 3) := by decide +kernel
theorem dX2_stillBehind_4 : decode cX2_stillBehind 4 = .ok (.astore_n 1, 1) := by decide +kernel
theorem dX2_stillBehind_5 : decode cX2_stillBehind 5 = .ok (.iconst 0, 1) := by decide +kernel
theorem dX2_stillBehind_6 : decode cX2_stillBehind 6 = .ok (.istore_n 2, 1) := by decide +kernel
theorem dX2_stillBehind_7 : decode cX2_stillBehind 7 = .ok (.iload_n 2, 1) := by decide +kernel
theorem dX2_stillBehind_8 : decode cX2_stillBehind 8 = .ok (.bipush 99, 2) := by decide +kernel
theorem dX2_stillBehind_10 : decode cX2_stillBehind 10 = .ok (.if_icmp .gt 29, 3) := by decide +kernel
theorem dX2_stillBehind_13 : decode cX2_stillBehind 13 = .ok (.aload_n 1, 1) := by decide +kernel
theorem dX2_stillBehind_14 : decode cX2_stillBehind 14 = .ok (.getfield 64, 3) := by decide +kernel
theorem dX2_stillBehind_17 : decode cX2_stillBehind 17 = .ok (.istore_n 3, 1) := by decide +kernel
theorem dX2_stillBehind_18 : decode cX2_stillBehind 18 = .ok (.aload_n 1, 1) := by decide +kernel
theorem dX2_stillBehind_19 : decode cX2_stillBehind 19 = .ok (.iconst 0, 1) := by decide +kernel
theorem dX2_stillBehind_20 : decode cX2_stillBehind 20 = .ok (.invokevirtual 40, 3) := by decide +kernel
theorem dX2_stillBehind_23 : decode cX2_stillBehind 23 = .ok (.aload_n 1, 1) := by decide +kernel
theorem dX2_stillBehind_24 : decode cX2_stillBehind 24 = .ok (.getfield 64, 3) := by decide +kernel
theorem dX2_stillBehind_27 : decode cX2_stillBehind 27 = .ok (.iload_n 3, 1) := by decide +kernel
theorem dX2_stillBehind_28 : decode cX2_stillBehind 28 = .ok (.if_icmp .ne 5, 3) := by decide +kernel
theorem dX2_stillBehind_31 : decode cX2_stillBehind 31 = .ok (.iload_n 2, 1) := by decide +kernel
theorem dX2_stillBehind_32 : decode cX2_stillBehind 32 = .ok (.ireturn, 1) := by decide +kernel
theorem dX2_stillBehind_33 : decode cX2_stillBehind 33 = .ok (.iinc 2 1, 3) := by decide +kernel
theorem dX2_stillBehind_36 : decode cX2_stillBehind 36 = .ok (.goto (-29), 3) := by decide +kernel
theorem dX2_stillBehind_39 : decode cX2_stillBehind 39 = .ok (.bipush (-9), 2) := by decide +kernel
theorem dX2_stillBehind_41 : decode cX2_stillBehind 41 = .ok (.ireturn, 1) := by decide +kernel
set_option maxRecDepth 20000 in
theorem ggX2_oftenestOwner_X2_timesHad : GoodIn wsX2_oftenestOwner wsX2_timesHad := goodIn_r _ [6, 7, 8, 9, 5, 10, 11, 1, 12, 13, 14, 15, 16, 17, 18, 19, 20, 21, 22, 23, 24, 25, 26, 27, 28, 29, 30, 31, 32, 33, 34, 35, 36, 37, 38, 39, 40, 41, 42, 43, 44, 45, 46, 47, 48, 49, 50, 51, 52, 53, 54, 55, 56, 57, 58, 59, 60, 61, 62, 63, 64, 65, 66, 67, 68, 69, 70, 71, 72, 73, 74, 75, 76, 77, 78, 79, 80, 81, 82, 83, 84, 85, 86, 87, 88, 89, 90, 91, 92, 93, 94, 95, 96, 97, 98, 99, 100, 101, 102, 103, 104, 105, 106, 107, 108, 109, 110] (by decide +kernel) (by decide +kernel)
set_option maxRecDepth 20000 in
theorem gX2_oftenestOwner_X2_timesHad : GoodIn wsX2_oftenestOwner (wsV RX2 67 RX2 yX2_timesHad wsX2_timesHad) := goodIn_app (goodIn_of _ (by decide +kernel)) ggX2_oftenestOwner_X2_timesHad
theorem dX2_oftenestOwner_0 : decode cX2_oftenestOwner 0 = .ok (.bipush (-9), 2) := by decide +kernel
theorem dX2_oftenestOwner_2 : decode cX2_oftenestOwner 2 = .ok (.istore_n 2, 1) := by decide +kernel
theorem dX2_oftenestOwner_3 : decode cX2_oftenestOwner 3 = .ok (.iconst 0, 1) := by decide +kernel
theorem dX2_oftenestOwner_4 : decode cX2_oftenestOwner 4 = .ok (.istore_n 3, 1) := by decide +kernel
theorem dX2_oftenestOwner_5 : decode cX2_oftenestOwner 5 = .ok (.iconst 0, 1) := by decide +kernel
theorem dX2_oftenestOwner_6 : decode cX2_oftenestOwner 6 = .ok (.istore 4, 2) := by decide +kernel
theorem dX2_oftenestOwner_8 : decode cX2_oftenestOwner 8 = .ok (.iload 4, 2) := by decide +kernel
theorem dX2_oftenestOwner_10 : decode cX2_oftenestOwner 10 = .ok (.aload_n 0, 1) := by decide +kernel
theorem dX2_oftenestOwner_11 : decode cX2_oftenestOwner 11 = .ok (.getfield 12, 3) := by decide +kernel
theorem dX2_oftenestOwner_14 : decode cX2_oftenestOwner 14 = .ok (.getfield 56, 3) := by decide +kernel
theorem dX2_oftenestOwner_17 : decode cX2_oftenestOwner 17 = .ok (.if_icmp .ge 30, 3) := by decide +kernel
theorem dX2_oftenestOwner_20 : decode cX2_oftenestOwner 20 = .ok (.aload_n 0, 1) := by decide +kernel
theorem dX2_oftenestOwner_21 : decode cX2_oftenestOwner 21 = .ok (.iload 4, 2) := by decide +kernel
theorem dX2_oftenestOwner_23 : decode cX2_oftenestOwner 23 = .ok (.iload_n 1, 1) := by decide +kernel
theorem dX2_oftenestOwner_24 : decode cX2_oftenestOwner 24 = .ok (.invokevirtual 67, 3) := by decide +kernel
theorem dX2_oftenestOwner_27 : decode cX2_oftenestOwner 27 = .ok (.istore 5, 2) := by decide +kernel
theorem dX2_oftenestOwner_29 : decode cX2_oftenestOwner 29 = .ok (.iload 5, 2) := by decide +kernel
theorem dX2_oftenestOwner_31 : decode cX2_oftenestOwner 31 = .ok (.iload_n 3, 1) := by decide +kernel
theorem dX2_oftenestOwner_32 : decode cX2_oftenestOwner 32 = .ok (.if_icmp .le 9, 3) := by decide +kernel
theorem dX2_oftenestOwner_35 : decode cX2_oftenestOwner 35 = .ok (.iload 4, 2) := by decide +kernel
theorem dX2_oftenestOwner_37 : decode cX2_oftenestOwner 37 = .ok (.istore_n 2, 1) := by decide +kernel
theorem dX2_oftenestOwner_38 : decode cX2_oftenestOwner 38 = .ok (.iload 5, 2) := by decide +kernel
theorem dX2_oftenestOwner_40 : decode cX2_oftenestOwner 40 = .ok (.istore_n 3, 1) := by decide +kernel
theorem dX2_oftenestOwner_41 : decode cX2_oftenestOwner 41 = .ok (.iinc 4 1, 3) := by decide +kernel
theorem dX2_oftenestOwner_44 : decode cX2_oftenestOwner 44 = .ok (.goto (-36), 3) := by decide +kernel
theorem dX2_oftenestOwner_47 : decode cX2_oftenestOwner 47 = .ok (.iload_n 2, 1) := by decide +kernel
theorem dX2_oftenestOwner_48 : decode cX2_oftenestOwner 48 = .ok (.ireturn, 1) := by decide +kernel
set_option maxRecDepth 20000 in
theorem ggX2_leastPlace_X2_asNow : GoodIn wsX2_leastPlace wsX2_asNow := goodIn_r _ [9, 10, 11, 12, 13, 14, 15, 16, 17, 18, 19, 20, 21, 22, 23, 24, 25, 26, 27, 28, 29, 30, 100, 101, 102, 103, 89, 90, 91, 92, 93, 94, 95, 96, 97, 98, 99] (by decide +kernel) (by decide +kernel)
set_option maxRecDepth 20000 in
theorem gX2_leastPlace_X2_asNow : GoodIn wsX2_leastPlace (wsV RX2 32 RX2 yX2_asNow wsX2_asNow) := goodIn_app (goodIn_of _ (by decide +kernel)) ggX2_leastPlace_X2_asNow
set_option maxRecDepth 20000 in
theorem ggX2_leastPlace_X0_passHour : GoodIn wsX2_leastPlace wsX0_passHour := goodIn_r _ [33, 29, 27, 30, 24, 34, 2, 3, 4, 35, 36, 37, 13, 38, 26, 39, 40, 41, 42, 23, 43, 44, 45, 46, 25, 47, 48, 49, 50, 22, 51, 52, 53, 54, 16, 21, 55, 56, 57, 58, 59, 60, 61, 62, 63, 64, 65, 66, 67, 68, 69, 70, 71, 72, 73, 28, 74, 75, 76, 77, 78, 79, 80, 81, 82, 83, 84, 85, 86, 87, 88, 89, 90, 91, 92, 93, 94, 95, 96, 97, 98, 99] (by decide +kernel) (by decide +kernel)
set_option maxRecDepth 20000 in
theorem gX2_leastPlace_X0_passHour_n40 : GoodIn wsX2_leastPlace (wsX0_passHour) := ggX2_leastPlace_X0_passHour
theorem dX2_leastPlace_0 : decode cX2_leastPlace 0 = .ok (.aload_n 0, 1) := by decide +kernel
theorem dX2_leastPlace_1 : decode cX2_leastPlace 1 = .ok (.invokevirtual 32, 3) := by decide +kernel
theorem dX2_leastPlace_4 : decode cX2_leastPlace 4 = .ok (.astore_n 2, 1) := by decide +kernel
theorem dX2_leastPlace_5 : decode cX2_leastPlace 5 = .ok (.aload_n 2, 1) := by decide +kernel
theorem dX2_leastPlace_6 : decode cX2_leastPlace 6 = .ok (.getfield 64, 3) := by decide +kernel
theorem dX2_leastPlace_9 : decode cX2_leastPlace 9 = .ok (.istore_n 3, 1) := by decide +kernel
theorem dX2_leastPlace_10 : decode cX2_leastPlace 10 = .ok (.iconst 0, 1) := by decide +kernel
theorem dX2_leastPlace_11 : decode cX2_leastPlace 11 = .ok (.istore 4, 2) := by decide +kernel
theorem dX2_leastPlace_13 : decode cX2_leastPlace 13 = .ok (.iload 4, 2) := by decide +kernel
theorem dX2_leastPlace_15 : decode cX2_leastPlace 15 = .ok (.iload_n 1, 1) := by decide +kernel
theorem dX2_leastPlace_16 : decode cX2_leastPlace 16 = .ok (.if_icmp .ge 23, 3) := by decide +kernel
theorem dX2_leastPlace_19 : decode cX2_leastPlace 19 = .ok (.aload_n 2, 1) := by decide +kernel
theorem dX2_leastPlace_20 : decode cX2_leastPlace 20 = .ok (.iconst 0, 1) := by decide +kernel
theorem dX2_leastPlace_21 : decode cX2_leastPlace 21 = .ok (.invokevirtual 40, 3) := by decide +kernel
theorem dX2_leastPlace_24 : decode cX2_leastPlace 24 = .ok (.iload_n 3, 1) := by decide +kernel
theorem dX2_leastPlace_25 : decode cX2_leastPlace 25 = .ok (.aload_n 2, 1) := by decide +kernel
theorem dX2_leastPlace_26 : decode cX2_leastPlace 26 = .ok (.getfield 64, 3) := by decide +kernel
theorem dX2_leastPlace_29 : decode cX2_leastPlace 29 = .ok (.invokestatic 70, 3) := by decide +kernel
theorem dX2_leastPlace_32 : decode cX2_leastPlace 32 = .ok (.istore_n 3, 1) := by decide +kernel
theorem dX2_leastPlace_33 : decode cX2_leastPlace 33 = .ok (.iinc 4 1, 3) := by decide +kernel
theorem dX2_leastPlace_36 : decode cX2_leastPlace 36 = .ok (.goto (-23), 3) := by decide +kernel
theorem dX2_leastPlace_39 : decode cX2_leastPlace 39 = .ok (.iload_n 3, 1) := by decide +kernel
theorem dX2_leastPlace_40 : decode cX2_leastPlace 40 = .ok (.ireturn, 1) := by decide +kernel
set_option maxRecDepth 20000 in
theorem ggX2_greatestPlace_X2_asNow : GoodIn wsX2_greatestPlace wsX2_asNow := goodIn_r _ [9, 10, 11, 12, 13, 14, 15, 16, 17, 18, 19, 20, 21, 22, 23, 24, 25, 26, 27, 28, 29, 30, 100, 101, 102, 103, 89, 90, 91, 92, 93, 94, 95, 96, 97, 98, 99] (by decide +kernel) (by decide +kernel)
set_option maxRecDepth 20000 in
theorem gX2_greatestPlace_X2_asNow : GoodIn wsX2_greatestPlace (wsV RX2 32 RX2 yX2_asNow wsX2_asNow) := goodIn_app (goodIn_of _ (by decide +kernel)) ggX2_greatestPlace_X2_asNow
set_option maxRecDepth 20000 in
theorem ggX2_greatestPlace_X0_passHour : GoodIn wsX2_greatestPlace wsX0_passHour := goodIn_r _ [33, 29, 27, 30, 24, 34, 35, 3, 36, 37, 38, 39, 13, 40, 26, 41, 42, 43, 44, 23, 45, 46, 47, 48, 25, 49, 50, 51, 52, 22, 53, 54, 55, 56, 16, 21, 57, 58, 59, 60, 61, 62, 63, 64, 65, 66, 67, 68, 69, 70, 71, 72, 73, 74, 75, 28, 76, 2, 4, 77, 78, 79, 80, 81, 82, 83, 84, 85, 86, 87, 88, 89, 90, 91, 92, 93, 94, 95, 96, 97, 98, 99] (by decide +kernel) (by decide +kernel)
set_option maxRecDepth 20000 in
theorem gX2_greatestPlace_X0_passHour_n40 : GoodIn wsX2_greatestPlace (wsX0_passHour) := ggX2_greatestPlace_X0_passHour
theorem dX2_greatestPlace_0 : decode cX2_greatestPlace 0 = .ok (.aload_n 0, 1) := by decide +kernel
theorem dX2_greatestPlace_1 : decode cX2_greatestPlace 1 = .ok (.invokevirtual 32, 3) := by decide +kernel
theorem dX2_greatestPlace_4 : decode cX2_greatestPlace 4 = .ok (.astore_n 2, 1) := by decide +kernel
theorem dX2_greatestPlace_5 : decode cX2_greatestPlace 5 = .ok (.aload_n 2, 1) := by decide +kernel
theorem dX2_greatestPlace_6 : decode cX2_greatestPlace 6 = .ok (.getfield 64, 3) := by decide +kernel
theorem dX2_greatestPlace_9 : decode cX2_greatestPlace 9 = .ok (.istore_n 3, 1) := by decide +kernel
theorem dX2_greatestPlace_10 : decode cX2_greatestPlace 10 = .ok (.iconst 0, 1) := by decide +kernel
theorem dX2_greatestPlace_11 : decode cX2_greatestPlace 11 = .ok (.istore 4, 2) := by decide +kernel
theorem dX2_greatestPlace_13 : decode cX2_greatestPlace 13 = .ok (.iload 4, 2) := by decide +kernel
theorem dX2_greatestPlace_15 : decode cX2_greatestPlace 15 = .ok (.iload_n 1, 1) := by decide +kernel
theorem dX2_greatestPlace_16 : decode cX2_greatestPlace 16 = .ok (.if_icmp .ge 23, 3) := by decide +kernel
theorem dX2_greatestPlace_19 : decode cX2_greatestPlace 19 = .ok (.aload_n 2, 1) := by decide +kernel
theorem dX2_greatestPlace_20 : decode cX2_greatestPlace 20 = .ok (.iconst 0, 1) := by decide +kernel
theorem dX2_greatestPlace_21 : decode cX2_greatestPlace 21 = .ok (.invokevirtual 40, 3) := by decide +kernel
theorem dX2_greatestPlace_24 : decode cX2_greatestPlace 24 = .ok (.iload_n 3, 1) := by decide +kernel
theorem dX2_greatestPlace_25 : decode cX2_greatestPlace 25 = .ok (.aload_n 2, 1) := by decide +kernel
theorem dX2_greatestPlace_26 : decode cX2_greatestPlace 26 = .ok (.getfield 64, 3) := by decide +kernel
theorem dX2_greatestPlace_29 : decode cX2_greatestPlace 29 = .ok (.invokestatic 75, 3) := by decide +kernel
theorem dX2_greatestPlace_32 : decode cX2_greatestPlace 32 = .ok (.istore_n 3, 1) := by decide +kernel
theorem dX2_greatestPlace_33 : decode cX2_greatestPlace 33 = .ok (.iinc 4 1, 3) := by decide +kernel
theorem dX2_greatestPlace_36 : decode cX2_greatestPlace 36 = .ok (.goto (-23), 3) := by decide +kernel
theorem dX2_greatestPlace_39 : decode cX2_greatestPlace 39 = .ok (.iload_n 3, 1) := by decide +kernel
theorem dX2_greatestPlace_40 : decode cX2_greatestPlace 40 = .ok (.ireturn, 1) := by decide +kernel
set_option maxRecDepth 20000 in
theorem ggX2_ringBehind_X2_after : GoodIn wsX2_ringBehind wsX2_after := goodIn_r _ [5, 6, 7, 8, 4, 9, 10, 11, 12, 13, 14, 15, 16, 17, 18, 19, 20, 21, 22, 23, 24, 25, 26, 27, 28, 29, 30, 31, 32, 33, 34, 35, 36, 37, 38, 39, 40, 41, 42, 43, 44, 45, 46, 47, 48, 49, 50, 51, 52, 53, 54, 55, 56, 57, 58, 59, 60, 61, 62, 63, 64, 65, 66, 67, 68, 69, 70, 71, 72, 73, 74, 75, 76, 77, 78, 79, 80, 81, 82, 83, 84, 85, 86, 87, 88, 89, 90, 91, 92, 93, 94, 95, 107, 108, 109, 110, 96, 97, 98, 99, 100, 101, 102, 103, 104, 105, 106] (by decide +kernel) (by decide +kernel)
set_option maxRecDepth 20000 in
theorem gX2_ringBehind_X2_after : GoodIn wsX2_ringBehind (wsV RX2 78 RX2 yX2_after wsX2_after) := goodIn_app (goodIn_of _ (by decide +kernel)) ggX2_ringBehind_X2_after
set_option maxRecDepth 20000 in
theorem ggX2_ringBehind_X0_passHour : GoodIn wsX2_ringBehind wsX0_passHour := goodIn_r _ [37, 29, 27, 30, 24, 38, 39, 40, 41, 42, 43, 44, 13, 45, 26, 46, 47, 48, 49, 23, 50, 51, 52, 53, 25, 54, 55, 56, 57, 22, 58, 59, 60, 61, 16, 21, 62, 63, 64, 65, 66, 67, 68, 69, 70, 71, 72, 73, 74, 75, 76, 77, 78, 79, 80, 28, 81, 82, 83, 84, 85, 86, 87, 88, 89, 90, 91, 92, 93, 94, 95, 96, 97, 98, 99, 100, 101, 102, 103, 104, 105, 106] (by decide +kernel) (by decide +kernel)
set_option maxRecDepth 20000 in
theorem gX2_ringBehind_X0_passHour_n40 : GoodIn wsX2_ringBehind (wsX0_passHour) := ggX2_ringBehind_X0_passHour
theorem dX2_ringBehind_0 : decode cX2_ringBehind 0 = .ok (.aload_n 0, 1) := by decide +kernel
theorem dX2_ringBehind_1 : decode cX2_ringBehind 1 = .ok (.iload_n 1, 1) := by decide +kernel
theorem dX2_ringBehind_2 : decode cX2_ringBehind 2 = .ok (.invokevirtual 78, 3) := by decide +kernel
theorem dX2_ringBehind_5 : decode cX2_ringBehind 5 = .ok (.astore_n 2, 1) := by decide +kernel
theorem dX2_ringBehind_6 : decode cX2_ringBehind 6 = .ok (.aload_n 2, 1) := by decide +kernel
theorem dX2_ringBehind_7 : decode cX2_ringBehind 7 = .ok (.getfield 64, 3) := by decide +kernel
theorem dX2_ringBehind_10 : decode cX2_ringBehind 10 = .ok (.istore_n 3, 1) := by decide +kernel
theorem dX2_ringBehind_11 : decode cX2_ringBehind 11 = .ok (.aload_n 2, 1) := by decide +kernel
theorem dX2_ringBehind_12 : decode cX2_ringBehind 12 = .ok (.getfield 82, 3) := by decide +kernel
theorem dX2_ringBehind_15 : decode cX2_ringBehind 15 = .ok (.istore 4, 2) := by decide +kernel
theorem dX2_ringBehind_17 : decode cX2_ringBehind 17 = .ok (.iconst 1, 1) := by decide +kernel
theorem dX2_ringBehind_18 : decode cX2_ringBehind 18 = .ok (.istore 5, 2) := by decide +kernel
theorem dX2_ringBehind_20 : decode cX2_ringBehind 20 = .ok (.iload 5, 2) := by decide +kernel
theorem dX2_ringBehind_22 : decode cX2_ringBehind 22 = .ok (.bipush 48, 2) := by decide +kernel
theorem dX2_ringBehind_24 : decode cX2_ringBehind 24 = .ok (.if_icmp .gt 34, 3) := by decide +kernel
theorem dX2_ringBehind_27 : decode cX2_ringBehind 27 = .ok (.aload_n 2, 1) := by decide +kernel
theorem dX2_ringBehind_28 : decode cX2_ringBehind 28 = .ok (.iconst 0, 1) := by decide +kernel
theorem dX2_ringBehind_29 : decode cX2_ringBehind 29 = .ok (.invokevirtual 40, 3) := by decide +kernel
theorem dX2_ringBehind_32 : decode cX2_ringBehind 32 = .ok (.aload_n 2, 1) := by decide +kernel
theorem dX2_ringBehind_33 : decode cX2_ringBehind 33 = .ok (.getfield 64, 3) := by decide +kernel
theorem dX2_ringBehind_36 : decode cX2_ringBehind 36 = .ok (.iload_n 3, 1) := by decide +kernel
theorem dX2_ringBehind_37 : decode cX2_ringBehind 37 = .ok (.if_icmp .ne 15, 3) := by decide +kernel
theorem dX2_ringBehind_40 : decode cX2_ringBehind 40 = .ok (.aload_n 2, 1) := by decide +kernel
theorem dX2_ringBehind_41 : decode cX2_ringBehind 41 = .ok (.getfield 82, 3) := by decide +kernel
theorem dX2_ringBehind_44 : decode cX2_ringBehind 44 = .ok (.iload 4, 2) := by decide +kernel
theorem dX2_ringBehind_46 : decode cX2_ringBehind 46 = .ok (.if_icmp .ne 6, 3) := by decide +kernel
theorem dX2_ringBehind_49 : decode cX2_ringBehind 49 = .ok (.iload 5, 2) := by decide +kernel
theorem dX2_ringBehind_51 : decode cX2_ringBehind 51 = .ok (.ireturn, 1) := by decide +kernel
theorem dX2_ringBehind_52 : decode cX2_ringBehind 52 = .ok (.iinc 5 1, 3) := by decide +kernel
theorem dX2_ringBehind_55 : decode cX2_ringBehind 55 = .ok (.goto (-35), 3) := by decide +kernel
theorem dX2_ringBehind_58 : decode cX2_ringBehind 58 = .ok (.bipush (-9), 2) := by decide +kernel
theorem dX2_ringBehind_60 : decode cX2_ringBehind 60 = .ok (.ireturn, 1) := by decide +kernel
set_option maxRecDepth 20000 in
theorem ggX2_timesWithHushed_X2_asNow : GoodIn wsX2_timesWithHushed wsX2_asNow := goodIn_r _ [5, 6, 7, 8, 9, 10, 11, 12, 13, 14, 15, 16, 17, 18, 19, 20, 21, 22, 23, 24, 25, 26, 103, 104, 105, 106, 92, 93, 94, 95, 96, 97, 98, 99, 100, 101, 102] (by decide +kernel) (by decide +kernel)
set_option maxRecDepth 20000 in
theorem gX2_timesWithHushed_X2_asNow : GoodIn wsX2_timesWithHushed (wsV RX2 32 RX2 yX2_asNow wsX2_asNow) := goodIn_app (goodIn_of _ (by decide +kernel)) ggX2_timesWithHushed_X2_asNow
set_option maxRecDepth 20000 in
theorem ggX2_timesWithHushed_X2_timesFromHere : GoodIn wsX2_timesWithHushed wsX2_timesFromHere := goodIn_r _ [30, 6, 31, 9, 32, 33, 25, 23, 26, 20, 34, 35, 36, 37, 38, 39, 40, 41, 22, 42, 43, 44, 45, 19, 46, 47, 48, 49, 21, 50, 51, 52, 53, 18, 54, 55, 56, 57, 12, 17, 58, 59, 60, 61, 62, 63, 64, 65, 66, 67, 68, 69, 70, 71, 72, 73, 74, 75, 76, 24, 77, 78, 79, 80, 81, 82, 83, 84, 85, 86, 87, 88, 89, 90, 91, 103, 104, 105, 106, 92, 93, 94, 95, 96, 97, 98, 99, 100, 101, 102] (by decide +kernel) (by decide +kernel)
set_option maxRecDepth 20000 in
theorem gX2_timesWithHushed_X2_timesFromHere : GoodIn wsX2_timesWithHushed (wsV RX2 48 RX2 yX2_timesFromHere wsX2_timesFromHere) := goodIn_app (goodIn_of _ (by decide +kernel)) ggX2_timesWithHushed_X2_timesFromHere
theorem dX2_timesWithHushed_0 : decode cX2_timesWithHushed 0 = .ok (.aload_n 0, 1) := by decide +kernel
theorem dX2_timesWithHushed_1 : decode cX2_timesWithHushed 1 = .ok (.invokevirtual 32, 3) := by decide +kernel
theorem dX2_timesWithHushed_4 : decode cX2_timesWithHushed 4 = .ok (.dup, 1) := by decide +kernel
theorem dX2_timesWithHushed_5 : decode cX2_timesWithHushed 5 = .ok (.getfield 85, 3) := by decide +kernel
theorem dX2_timesWithHushed_8 : decode cX2_timesWithHushed 8 = .ok (.iload_n 2, 1) := by decide +kernel
theorem dX2_timesWithHushed_9 : decode cX2_timesWithHushed 9 = .ok (.ior, 1) := by decide +kernel
theorem dX2_timesWithHushed_10 : decode cX2_timesWithHushed 10 = .ok (.putfield 85, 3) := by decide +kernel
theorem dX2_timesWithHushed_13 : decode cX2_timesWithHushed 13 = .ok (.aload_n 0, 1) := by decide +kernel
theorem dX2_timesWithHushed_14 : decode cX2_timesWithHushed 14 = .ok (.iload_n 1, 1) := by decide +kernel
theorem dX2_timesWithHushed_15 : decode cX2_timesWithHushed 15 = .ok (.iload_n 3, 1) := by decide +kernel
theorem dX2_timesWithHushed_16 : decode cX2_timesWithHushed 16 = .ok (.invokevirtual 48, 3) := by decide +kernel
theorem dX2_timesWithHushed_19 : decode cX2_timesWithHushed 19 = .ok (.ireturn, 1) := by decide +kernel
set_option maxRecDepth 20000 in
theorem ggX2_bestHush_X2_timesHad : GoodIn wsX2_bestHush wsX2_timesHad := goodIn_r _ [6, 7, 8, 9, 5, 10, 11, 1, 12, 13, 14, 15, 16, 17, 18, 19, 20, 21, 22, 23, 24, 25, 26, 27, 28, 29, 30, 31, 32, 33, 34, 35, 36, 37, 38, 39, 40, 41, 42, 43, 44, 45, 46, 47, 48, 49, 50, 51, 52, 53, 54, 55, 56, 57, 58, 59, 60, 61, 62, 63, 64, 65, 66, 67, 68, 69, 70, 71, 72, 73, 74, 75, 76, 77, 78, 79, 80, 81, 82, 83, 84, 85, 86, 87, 88, 89, 90, 91, 92, 93, 94, 95, 100, 101, 102, 103, 104, 105, 106, 107, 108, 109, 110, 111, 112, 113, 114] (by decide +kernel) (by decide +kernel)
set_option maxRecDepth 20000 in
theorem gX2_bestHush_X2_timesHad : GoodIn wsX2_bestHush (wsV RX2 67 RX2 yX2_timesHad wsX2_timesHad) := goodIn_app (goodIn_of _ (by decide +kernel)) ggX2_bestHush_X2_timesHad
set_option maxRecDepth 20000 in
theorem ggX2_bestHush_X2_timesWithHushed : GoodIn wsX2_bestHush wsX2_timesWithHushed := goodIn_r _ [99, 7, 8, 9, 5, 10, 11, 1, 12, 13, 14, 15, 16, 17, 18, 19, 20, 21, 22, 23, 24, 25, 26, 27, 28, 29, 30, 31, 32, 33, 34, 35, 36, 37, 38, 39, 40, 41, 42, 43, 44, 45, 46, 47, 48, 49, 50, 51, 52, 53, 54, 55, 56, 57, 58, 59, 60, 61, 62, 63, 64, 65, 66, 67, 68, 69, 70, 71, 72, 73, 74, 75, 76, 77, 78, 79, 80, 81, 82, 83, 84, 85, 86, 87, 88, 89, 90, 91, 92, 93, 94, 95, 104, 105, 106, 107, 108, 109, 110, 111, 112, 113, 114, 100, 101, 102, 103] (by decide +kernel) (by decide +kernel)
set_option maxRecDepth 20000 in
theorem gX2_bestHush_X2_timesWithHushed : GoodIn wsX2_bestHush (wsV RX2 88 RX2 yX2_timesWithHushed wsX2_timesWithHushed) := goodIn_app (goodIn_of _ (by decide +kernel)) ggX2_bestHush_X2_timesWithHushed
theorem dX2_bestHush_0 : decode cX2_bestHush 0 = .ok (.bipush (-9), 2) := by decide +kernel
theorem dX2_bestHush_2 : decode cX2_bestHush 2 = .ok (.istore_n 3, 1) := by decide +kernel
theorem dX2_bestHush_3 : decode cX2_bestHush 3 = .ok (.aload_n 0, 1) := by decide +kernel
theorem dX2_bestHush_4 : decode cX2_bestHush 4 = .ok (.iload_n 1, 1) := by decide +kernel
theorem dX2_bestHush_5 : decode cX2_bestHush 5 = .ok (.iload_n 2, 1) := by decide +kernel
theorem dX2_bestHush_6 : decode cX2_bestHush 6 = .ok (.invokevirtual 67, 3) := by decide +kernel
theorem dX2_bestHush_9 : decode cX2_bestHush 9 = .ok (.istore 4, 2) := by decide +kernel
theorem dX2_bestHush_11 : decode cX2_bestHush 11 = .ok (.iconst 0, 1) := by decide +kernel
theorem dX2_bestHush_12 : decode cX2_bestHush 12 = .ok (.istore 5, 2) := by decide +kernel
theorem dX2_bestHush_14 : decode cX2_bestHush 14 = .ok (.iload 5, 2) := by decide +kernel
theorem dX2_bestHush_16 : decode cX2_bestHush 16 = .ok (.aload_n 0, 1) := by decide +kernel
theorem dX2_bestHush_17 : decode cX2_bestHush 17 = .ok (.getfield 12, 3) := by decide +kernel
theorem dX2_bestHush_20 : decode cX2_bestHush 20 = .ok (.getfield 56, 3) := by decide +kernel
theorem dX2_bestHush_23 : decode cX2_bestHush 23 = .ok (.if_icmp .ge 45, 3) := by decide +kernel
theorem dX2_bestHush_26 : decode cX2_bestHush 26 = .ok (.iload 5, 2) := by decide +kernel
theorem dX2_bestHush_28 : decode cX2_bestHush 28 = .ok (.iload_n 1, 1) := by decide +kernel
theorem dX2_bestHush_29 : decode cX2_bestHush 29 = .ok (.if_icmp .ne 7, 3) := by decide +kernel
theorem dX2_bestHush_32 : decode cX2_bestHush 32 = .ok (.iconst 0, 1) := by decide +kernel
theorem dX2_bestHush_33 : decode cX2_bestHush 33 = .ok (.goto 13, 3) := by decide +kernel
theorem dX2_bestHush_36 : decode cX2_bestHush 36 = .ok (.aload_n 0, 1) := by decide +kernel
theorem dX2_bestHush_37 : decode cX2_bestHush 37 = .ok (.iload_n 1, 1) := by decide +kernel
theorem dX2_bestHush_38 : decode cX2_bestHush 38 = .ok (.iconst 1, 1) := by decide +kernel
theorem dX2_bestHush_39 : decode cX2_bestHush 39 = .ok (.iload 5, 2) := by decide +kernel
theorem dX2_bestHush_41 : decode cX2_bestHush 41 = .ok (.ishl, 1) := by decide +kernel
theorem dX2_bestHush_42 : decode cX2_bestHush 42 = .ok (.iload_n 2, 1) := by decide +kernel
theorem dX2_bestHush_43 : decode cX2_bestHush 43 = .ok (.invokevirtual 88, 3) := by decide +kernel
theorem dX2_bestHush_46 : decode cX2_bestHush 46 = .ok (.istore 6, 2) := by decide +kernel
theorem dX2_bestHush_48 : decode cX2_bestHush 48 = .ok (.iload 6, 2) := by decide +kernel
theorem dX2_bestHush_50 : decode cX2_bestHush 50 = .ok (.iload 4, 2) := by decide +kernel
theorem dX2_bestHush_52 : decode cX2_bestHush 52 = .ok (.if_icmp .le 10, 3) := by decide +kernel
theorem dX2_bestHush_55 : decode cX2_bestHush 55 = .ok (.iload 5, 2) := by decide +kernel
theorem dX2_bestHush_57 : decode cX2_bestHush 57 = .ok (.istore_n 3, 1) := by decide +kernel
theorem dX2_bestHush_58 : decode cX2_bestHush 58 = .ok (.iload 6, 2) := by decide +kernel
theorem dX2_bestHush_60 : decode cX2_bestHush 60 = .ok (.istore 4, 2) := by decide +kernel
theorem dX2_bestHush_62 : decode cX2_bestHush 62 = .ok (.iinc 5 1, 3) := by decide +kernel
theorem dX2_bestHush_65 : decode cX2_bestHush 65 = .ok (.goto (-51), 3) := by decide +kernel
theorem dX2_bestHush_68 : decode cX2_bestHush 68 = .ok (.iload_n 3, 1) := by decide +kernel
theorem dX2_bestHush_69 : decode cX2_bestHush 69 = .ok (.ireturn, 1) := by decide +kernel
set_option maxRecDepth 20000 in
theorem ggX2_fewestHushed_J6_bitCount_0f7a4 : GoodIn wsX2_fewestHushed wsJ6_bitCount_0f7a4 := goodIn_r _ [5, 6, 7, 8] (by decide +kernel) (by decide +kernel)
set_option maxRecDepth 20000 in
theorem gX2_fewestHushed_J6_bitCount_0f7a4 : GoodIn wsX2_fewestHushed (va_wsS RX2 92 yJ6_bitCount_0f7a4 wsJ6_bitCount_0f7a4) := goodIn_app (goodIn_of _ (by decide +kernel)) ggX2_fewestHushed_J6_bitCount_0f7a4
set_option maxRecDepth 20000 in
theorem ggX2_fewestHushed_X2_timesWithHushed : GoodIn wsX2_fewestHushed wsX2_timesWithHushed := goodIn_r _ [13, 14, 15, 16, 12, 17, 18, 1, 19, 20, 21, 22, 23, 24, 25, 26, 27, 28, 29, 30, 31, 32, 33, 34, 35, 36, 37, 38, 39, 40, 41, 42, 43, 44, 45, 46, 47, 48, 49, 50, 51, 52, 53, 54, 55, 56, 57, 58, 59, 60, 61, 62, 63, 64, 65, 66, 67, 68, 69, 70, 71, 72, 73, 74, 75, 76, 77, 78, 79, 80, 81, 82, 83, 84, 85, 86, 87, 88, 89, 90, 91, 92, 93, 94, 95, 96, 97, 98, 99, 100, 101, 102, 107, 108, 109, 110, 111, 112, 113, 114, 115, 116, 117, 103, 104, 105, 106] (by decide +kernel) (by decide +kernel)
set_option maxRecDepth 20000 in
theorem gX2_fewestHushed_X2_timesWithHushed : GoodIn wsX2_fewestHushed (wsV RX2 88 RX2 yX2_timesWithHushed wsX2_timesWithHushed) := goodIn_app (goodIn_of _ (by decide +kernel)) ggX2_fewestHushed_X2_timesWithHushed
theorem dX2_fewestHushed_0 : decode cX2_fewestHushed 0 = .ok (.bipush (-9), 2) := by decide +kernel
theorem dX2_fewestHushed_2 : decode cX2_fewestHushed 2 = .ok (.istore_n 3, 1) := by decide +kernel
theorem dX2_fewestHushed_3 : decode cX2_fewestHushed 3 = .ok (.bipush 7, 2) := by decide +kernel
theorem dX2_fewestHushed_5 : decode cX2_fewestHushed 5 = .ok (.istore 4, 2) := by decide +kernel
theorem dX2_fewestHushed_7 : decode cX2_fewestHushed 7 = .ok (.iconst 0, 1) := by decide +kernel
theorem dX2_fewestHushed_8 : decode cX2_fewestHushed 8 = .ok (.istore 5, 2) := by decide +kernel
theorem dX2_fewestHushed_10 : decode cX2_fewestHushed 10 = .ok (.iload 5, 2) := by decide +kernel
theorem dX2_fewestHushed_12 : decode cX2_fewestHushed 12 = .ok (.iconst 1, 1) := by decide +kernel
theorem dX2_fewestHushed_13 : decode cX2_fewestHushed 13 = .ok (.aload_n 0, 1) := by decide +kernel
theorem dX2_fewestHushed_14 : decode cX2_fewestHushed 14 = .ok (.getfield 12, 3) := by decide +kernel
theorem dX2_fewestHushed_17 : decode cX2_fewestHushed 17 = .ok (.getfield 56, 3) := by decide +kernel
theorem dX2_fewestHushed_20 : decode cX2_fewestHushed 20 = .ok (.ishl, 1) := by decide +kernel
theorem dX2_fewestHushed_21 : decode cX2_fewestHushed 21 = .ok (.if_icmp .ge 61, 3) := by decide +kernel
theorem dX2_fewestHushed_24 : decode cX2_fewestHushed 24 = .ok (.iload 5, 2) := by decide +kernel
theorem dX2_fewestHushed_26 : decode cX2_fewestHushed 26 = .ok (.iload_n 1, 1) := by decide +kernel
theorem dX2_fewestHushed_27 : decode cX2_fewestHushed 27 = .ok (.ishr, 1) := by decide +kernel
theorem dX2_fewestHushed_28 : decode cX2_fewestHushed 28 = .ok (.iconst 1, 1) := by decide +kernel
theorem dX2_fewestHushed_29 : decode cX2_fewestHushed 29 = .ok (.iand, 1) := by decide +kernel
theorem dX2_fewestHushed_30 : decode cX2_fewestHushed 30 = .ok (.ifCond .ne 17, 3) := by decide +kernel
theorem dX2_fewestHushed_33 : decode cX2_fewestHushed 33 = .ok (.iload 5, 2) := by decide +kernel
theorem dX2_fewestHushed_35 : decode cX2_fewestHushed 35 = .ok (.invokestatic 92, 3) := by decide +kernel
theorem dX2_fewestHushed_38 : decode cX2_fewestHushed 38 = .ok (.iload 4, 2) := by decide +kernel
theorem dX2_fewestHushed_40 : decode cX2_fewestHushed 40 = .ok (.if_icmp .ge 7, 3) := by decide +kernel
theorem dX2_fewestHushed_43 : decode cX2_fewestHushed 43 = .ok (.iconst 1, 1) := by decide +kernel
theorem dX2_fewestHushed_44 : decode cX2_fewestHushed 44 = .ok (.goto 4, 3) := by decide +kernel
theorem dX2_fewestHushed_47 : decode cX2_fewestHushed 47 = .ok (.iconst 0, 1) := by decide +kernel
theorem dX2_fewestHushed_48 : decode cX2_fewestHushed 48 = .ok (.istore 6, 2) := by decide +kernel
theorem dX2_fewestHushed_50 : decode cX2_fewestHushed 50 = .ok (.iload 6, 2) := by decide +kernel
theorem dX2_fewestHushed_52 : decode cX2_fewestHushed 52 = .ok (.ifCond .eq 24, 3) := by decide +kernel
theorem dX2_fewestHushed_55 : decode cX2_fewestHushed 55 = .ok (.aload_n 0, 1) := by decide +kernel
theorem dX2_fewestHushed_56 : decode cX2_fewestHushed 56 = .ok (.iload_n 1, 1) := by decide +kernel
theorem dX2_fewestHushed_57 : decode cX2_fewestHushed 57 = .ok (.iload 5, 2) := by decide +kernel
theorem dX2_fewestHushed_59 : decode cX2_fewestHushed 59 = .ok (.iload_n 2, 1) := by decide +kernel
theorem dX2_fewestHushed_60 : decode cX2_fewestHushed 60 = .ok (.invokevirtual 88, 3) := by decide +kernel
theorem dX2_fewestHushed_63 : decode cX2_fewestHushed 63 = .ok (.ifCond .le 13, 3) := by decide +kernel
theorem dX2_fewestHushed_66 : decode cX2_fewestHushed 66 = .ok (.iload 5, 2) := by decide +kernel
theorem dX2_fewestHushed_68 : decode cX2_fewestHushed 68 = .ok (.istore_n 3, 1) := by decide +kernel
theorem dX2_fewestHushed_69 : decode cX2_fewestHushed 69 = .ok (.iload 5, 2) := by decide +kernel
theorem dX2_fewestHushed_71 : decode cX2_fewestHushed 71 = .ok (.invokestatic 92, 3) := by decide +kernel
theorem dX2_fewestHushed_74 : decode cX2_fewestHushed 74 = .ok (.istore 4, 2) := by decide +kernel
theorem dX2_fewestHushed_76 : decode cX2_fewestHushed 76 = .ok (.iinc 5 1, 3) := by decide +kernel
theorem dX2_fewestHushed_79 : decode cX2_fewestHushed 79 = .ok (.goto (-69), 3) := by decide +kernel
theorem dX2_fewestHushed_82 : decode cX2_fewestHushed 82 = .ok (.iload_n 3, 1) := by decide +kernel
theorem dX2_fewestHushed_83 : decode cX2_fewestHushed 83 = .ok (.ireturn, 1) := by decide +kernel
set_option maxRecDepth 20000 in
theorem ggX2_bestSwap_X2_timesHad : GoodIn wsX2_bestSwap wsX2_timesHad := goodIn_r _ [6, 7, 8, 9, 5, 10, 11, 1, 12, 13, 14, 15, 16, 17, 18, 19, 20, 21, 22, 23, 24, 25, 26, 27, 28, 29, 30, 31, 32, 33, 34, 35, 36, 37, 38, 39, 40, 41, 42, 43, 44, 45, 46, 47, 48, 49, 50, 51, 52, 53, 54, 55, 56, 57, 58, 59, 60, 61, 62, 63, 64, 65, 66, 67, 68, 69, 70, 71, 72, 73, 74, 75, 76, 77, 78, 79, 80, 81, 82, 83, 84, 85, 86, 87, 88, 89, 90, 91, 92, 93, 94, 95, 96, 97, 98, 99, 100, 101, 102, 103, 104, 105, 106, 107, 108, 109, 110] (by decide +kernel) (by decide +kernel)
set_option maxRecDepth 20000 in
theorem gX2_bestSwap_X2_timesHad : GoodIn wsX2_bestSwap (wsV RX2 67 RX2 yX2_timesHad wsX2_timesHad) := goodIn_app (goodIn_of _ (by decide +kernel)) ggX2_bestSwap_X2_timesHad
set_option maxRecDepth 20000 in
theorem ggX2_bestSwap_X2_asNow : GoodIn wsX2_bestSwap wsX2_asNow := goodIn_r _ [10, 11, 1, 12, 13, 14, 15, 16, 17, 18, 19, 20, 21, 22, 23, 24, 25, 26, 27, 28, 29, 30, 96, 97, 98, 99, 100, 101, 102, 103, 104, 105, 106, 107, 108, 109, 110] (by decide +kernel) (by decide +kernel)
set_option maxRecDepth 20000 in
theorem gX2_bestSwap_X2_asNow : GoodIn wsX2_bestSwap (wsV RX2 32 RX2 yX2_asNow wsX2_asNow) := goodIn_app (goodIn_of _ (by decide +kernel)) ggX2_bestSwap_X2_asNow
set_option maxRecDepth 20000 in
theorem ggX2_bestSwap_X2_timesFromHere : GoodIn wsX2_bestSwap wsX2_timesFromHere := goodIn_r _ [34, 11, 35, 13, 36, 37, 29, 27, 30, 24, 38, 39, 40, 41, 42, 43, 44, 45, 26, 46, 47, 48, 49, 23, 50, 51, 52, 53, 25, 54, 55, 56, 57, 22, 58, 59, 60, 61, 16, 21, 62, 63, 64, 65, 66, 67, 68, 69, 70, 71, 72, 73, 74, 75, 76, 77, 78, 79, 80, 28, 81, 82, 83, 84, 85, 86, 87, 88, 89, 90, 91, 92, 93, 94, 95, 96, 97, 98, 99, 100, 101, 102, 103, 104, 105, 106, 107, 108, 109, 110] (by decide +kernel) (by decide +kernel)
set_option maxRecDepth 20000 in
theorem gX2_bestSwap_X2_timesFromHere : GoodIn wsX2_bestSwap (wsV RX2 48 RX2 yX2_timesFromHere wsX2_timesFromHere) := goodIn_app (goodIn_of _ (by decide +kernel)) ggX2_bestSwap_X2_timesFromHere
theorem dX2_bestSwap_0 : decode cX2_bestSwap 0 = .ok (.bipush (-9), 2) := by decide +kernel
theorem dX2_bestSwap_2 : decode cX2_bestSwap 2 = .ok (.istore_n 3, 1) := by decide +kernel
theorem dX2_bestSwap_3 : decode cX2_bestSwap 3 = .ok (.aload_n 0, 1) := by decide +kernel
theorem dX2_bestSwap_4 : decode cX2_bestSwap 4 = .ok (.iload_n 1, 1) := by decide +kernel
theorem dX2_bestSwap_5 : decode cX2_bestSwap 5 = .ok (.iload_n 2, 1) := by decide +kernel
theorem dX2_bestSwap_6 : decode cX2_bestSwap 6 = .ok (.invokevirtual 67, 3) := by decide +kernel
theorem dX2_bestSwap_9 : decode cX2_bestSwap 9 = .ok (.istore 4, 2) := by decide +kernel
theorem dX2_bestSwap_11 : decode cX2_bestSwap 11 = .ok (.iconst 0, 1) := by decide +kernel
theorem dX2_bestSwap_12 : decode cX2_bestSwap 12 = .ok (.istore 5, 2) := by decide +kernel
theorem dX2_bestSwap_14 : decode cX2_bestSwap 14 = .ok (.iload 5, 2) := by decide +kernel
theorem dX2_bestSwap_16 : decode cX2_bestSwap 16 = .ok (.aload_n 0, 1) := by decide +kernel
theorem dX2_bestSwap_17 : decode cX2_bestSwap 17 = .ok (.getfield 12, 3) := by decide +kernel
theorem dX2_bestSwap_20 : decode cX2_bestSwap 20 = .ok (.getfield 56, 3) := by decide +kernel
theorem dX2_bestSwap_23 : decode cX2_bestSwap 23 = .ok (.if_icmp .ge 103, 3) := by decide +kernel
theorem dX2_bestSwap_26 : decode cX2_bestSwap 26 = .ok (.iload 5, 2) := by decide +kernel
theorem dX2_bestSwap_28 : decode cX2_bestSwap 28 = .ok (.iconst 1, 1) := by decide +kernel
theorem dX2_bestSwap_29 : decode cX2_bestSwap 29 = .ok (.iadd, 1) := by decide +kernel
theorem dX2_bestSwap_30 : decode cX2_bestSwap 30 = .ok (.istore 6, 2) := by decide +kernel
theorem dX2_bestSwap_32 : decode cX2_bestSwap 32 = .ok (.iload 6, 2) := by decide +kernel
theorem dX2_bestSwap_34 : decode cX2_bestSwap 34 = .ok (.aload_n 0, 1) := by decide +kernel
theorem dX2_bestSwap_35 : decode cX2_bestSwap 35 = .ok (.getfield 12, 3) := by decide +kernel
theorem dX2_bestSwap_38 : decode cX2_bestSwap 38 = .ok (.getfield 56, 3) := by decide +kernel
theorem dX2_bestSwap_41 : decode cX2_bestSwap 41 = .ok (.if_icmp .ge 79, 3) := by decide +kernel
theorem dX2_bestSwap_44 : decode cX2_bestSwap 44 = .ok (.aload_n 0, 1) := by decide +kernel
theorem dX2_bestSwap_45 : decode cX2_bestSwap 45 = .ok (.invokevirtual 32, 3) := by decide +kernel
theorem dX2_bestSwap_48 : decode cX2_bestSwap 48 = .ok (.astore 7, 2) := by decide +kernel
theorem dX2_bestSwap_50 : decode cX2_bestSwap 50 = .ok (.aload 7, 2) := by decide +kernel
theorem dX2_bestSwap_52 : decode cX2_bestSwap 52 = .ok (.getfield 97, 3) := by decide +kernel
theorem dX2_bestSwap_55 : decode cX2_bestSwap 55 = .ok (.iload 5, 2) := by decide +kernel
theorem dX2_bestSwap_57 : decode cX2_bestSwap 57 = .ok (.aload_n 0, 1) := by decide +kernel
theorem dX2_bestSwap_58 : decode cX2_bestSwap 58 = .ok (.getfield 12, 3) := by decide +kernel
theorem dX2_bestSwap_61 : decode cX2_bestSwap 61 = .ok (.getfield 97, 3) := by decide +kernel
theorem dX2_bestSwap_64 : decode cX2_bestSwap 64 = .ok (.iload 6, 2) := by decide +kernel
theorem dX2_bestSwap_66 : decode cX2_bestSwap 66 = .ok (.iaload, 1) := by decide +kernel
theorem dX2_bestSwap_67 : decode cX2_bestSwap 67 = .ok (.iastore, 1) := by decide +kernel
theorem dX2_bestSwap_68 : decode cX2_bestSwap 68 = .ok (.aload 7, 2) := by decide +kernel
theorem dX2_bestSwap_70 : decode cX2_bestSwap 70 = .ok (.getfield 97, 3) := by decide +kernel
theorem dX2_bestSwap_73 : decode cX2_bestSwap 73 = .ok (.iload 6, 2) := by decide +kernel
theorem dX2_bestSwap_75 : decode cX2_bestSwap 75 = .ok (.aload_n 0, 1) := by decide +kernel
theorem dX2_bestSwap_76 : decode cX2_bestSwap 76 = .ok (.getfield 12, 3) := by decide +kernel
theorem dX2_bestSwap_79 : decode cX2_bestSwap 79 = .ok (.getfield 97, 3) := by decide +kernel
theorem dX2_bestSwap_82 : decode cX2_bestSwap 82 = .ok (.iload 5, 2) := by decide +kernel
theorem dX2_bestSwap_84 : decode cX2_bestSwap 84 = .ok (.iaload, 1) := by decide +kernel
theorem dX2_bestSwap_85 : decode cX2_bestSwap 85 = .ok (.iastore, 1) := by decide +kernel
theorem dX2_bestSwap_86 : decode cX2_bestSwap 86 = .ok (.aload_n 0, 1) := by decide +kernel
theorem dX2_bestSwap_87 : decode cX2_bestSwap 87 = .ok (.iload_n 1, 1) := by decide +kernel
theorem dX2_bestSwap_88 : decode cX2_bestSwap 88 = .ok (.iload_n 2, 1) := by decide +kernel
theorem dX2_bestSwap_89 : decode cX2_bestSwap 89 = .ok (.invokevirtual 48, 3) := by decide +kernel
theorem dX2_bestSwap_92 : decode cX2_bestSwap 92 = .ok (.istore 8, 2) := by decide +kernel
theorem dX2_bestSwap_94 : decode cX2_bestSwap 94 = .ok (.iload 8, 2) := by decide +kernel
theorem dX2_bestSwap_96 : decode cX2_bestSwap 96 = .ok (.iload 4, 2) := by decide +kernel
theorem dX2_bestSwap_98 : decode cX2_bestSwap 98 = .ok (.if_icmp .le 16, 3) := by decide +kernel
theorem dX2_bestSwap_101 : decode cX2_bestSwap 101 = .ok (.bipush 10, 2) := by decide +kernel
theorem dX2_bestSwap_103 : decode cX2_bestSwap 103 = .ok (.iload 5, 2) := by decide +kernel
theorem dX2_bestSwap_105 : decode cX2_bestSwap 105 = .ok (.imul, 1) := by decide +kernel
theorem dX2_bestSwap_106 : decode cX2_bestSwap 106 = .ok (.iload 6, 2) := by decide +kernel
theorem dX2_bestSwap_108 : decode cX2_bestSwap 108 = .ok (.iadd, 1) := by decide +kernel
theorem dX2_bestSwap_109 : decode cX2_bestSwap 109 = .ok (.istore_n 3, 1) := by decide +kernel
theorem dX2_bestSwap_110 : decode cX2_bestSwap 110 = .ok (.iload 8, 2) := by decide +kernel
theorem dX2_bestSwap_112 : decode cX2_bestSwap 112 = .ok (.istore 4, 2) := by decide +kernel
theorem dX2_bestSwap_114 : decode cX2_bestSwap 114 = .ok (.iinc 6 1, 3) := by decide +kernel
theorem dX2_bestSwap_117 : decode cX2_bestSwap 117 = .ok (.goto (-85), 3) := by decide +kernel
theorem dX2_bestSwap_120 : decode cX2_bestSwap 120 = .ok (.iinc 5 1, 3) := by decide +kernel
theorem dX2_bestSwap_123 : decode cX2_bestSwap 123 = .ok (.goto (-109), 3) := by decide +kernel
theorem dX2_bestSwap_126 : decode cX2_bestSwap 126 = .ok (.iload_n 3, 1) := by decide +kernel
theorem dX2_bestSwap_127 : decode cX2_bestSwap 127 = .ok (.ireturn, 1) := by decide +kernel
set_option maxRecDepth 20000 in
theorem ggX2_leadsTo_X2_asNow : GoodIn wsX2_leadsTo wsX2_asNow := goodIn_r _ [5, 6, 7, 8, 9, 10, 11, 12, 13, 14, 15, 16, 17, 18, 19, 20, 21, 22, 23, 24, 25, 26, 103, 104, 105, 106, 92, 93, 94, 95, 96, 97, 98, 99, 100, 101, 102] (by decide +kernel) (by decide +kernel)
set_option maxRecDepth 20000 in
theorem gX2_leadsTo_X2_asNow : GoodIn wsX2_leadsTo (wsV RX2 32 RX2 yX2_asNow wsX2_asNow) := goodIn_app (goodIn_of _ (by decide +kernel)) ggX2_leadsTo_X2_asNow
set_option maxRecDepth 20000 in
theorem ggX2_leadsTo_X0_passHours : GoodIn wsX2_leadsTo wsX0_passHours := goodIn_r _ [29, 30, 31, 32, 9, 33, 25, 23, 26, 20, 34, 35, 36, 37, 38, 39, 40, 41, 22, 42, 43, 44, 45, 19, 46, 47, 48, 49, 21, 50, 51, 52, 53, 18, 54, 55, 56, 57, 12, 17, 58, 59, 60, 61, 62, 63, 64, 65, 66, 67, 68, 69, 70, 71, 72, 73, 74, 75, 76, 24, 77, 78, 79, 80, 81, 82, 83, 84, 85, 86, 87, 88, 89, 90, 91, 92, 93, 94, 95, 96, 97, 98, 99, 100, 101, 102] (by decide +kernel) (by decide +kernel)
set_option maxRecDepth 20000 in
theorem gX2_leadsTo_X0_passHours_n36 : GoodIn wsX2_leadsTo (wsX0_passHours) := ggX2_leadsTo_X0_passHours
set_option maxRecDepth 20000 in
theorem ggX2_leadsTo_X0_hasIsle : GoodIn wsX2_leadsTo wsX0_hasIsle := goodIn_r _ [53, 18, 23, 92, 93, 94, 95, 96, 97, 98, 99, 100, 101, 102] (by decide +kernel) (by decide +kernel)
set_option maxRecDepth 20000 in
theorem gX2_leadsTo_X0_hasIsle_n44 : GoodIn wsX2_leadsTo (wsX0_hasIsle) := ggX2_leadsTo_X0_hasIsle
theorem dX2_leadsTo_0 : decode cX2_leadsTo 0 = .ok (.aload_n 0, 1) := by decide +kernel
theorem dX2_leadsTo_1 : decode cX2_leadsTo 1 = .ok (.invokevirtual 32, 3) := by decide +kernel
theorem dX2_leadsTo_4 : decode cX2_leadsTo 4 = .ok (.astore 4, 2) := by decide +kernel
theorem dX2_leadsTo_6 : decode cX2_leadsTo 6 = .ok (.aload 4, 2) := by decide +kernel
theorem dX2_leadsTo_8 : decode cX2_leadsTo 8 = .ok (.iload_n 3, 1) := by decide +kernel
theorem dX2_leadsTo_9 : decode cX2_leadsTo 9 = .ok (.putfield 64, 3) := by decide +kernel
theorem dX2_leadsTo_12 : decode cX2_leadsTo 12 = .ok (.aload 4, 2) := by decide +kernel
theorem dX2_leadsTo_14 : decode cX2_leadsTo 14 = .ok (.iload_n 2, 1) := by decide +kernel
theorem dX2_leadsTo_15 : decode cX2_leadsTo 15 = .ok (.invokevirtual 36, 3) := by decide +kernel
theorem dX2_leadsTo_18 : decode cX2_leadsTo 18 = .ok (.aload 4, 2) := by decide +kernel
theorem dX2_leadsTo_20 : decode cX2_leadsTo 20 = .ok (.iload_n 1, 1) := by decide +kernel
theorem dX2_leadsTo_21 : decode cX2_leadsTo 21 = .ok (.invokevirtual 44, 3) := by decide +kernel
theorem dX2_leadsTo_24 : decode cX2_leadsTo 24 = .ok (.ireturn, 1) := by decide +kernel
set_option maxRecDepth 20000 in
theorem ggX2_countStarts_X2_leadsTo : GoodIn wsX2_countStarts wsX2_leadsTo := goodIn_r _ [5, 6, 7, 8, 4, 9, 10, 11, 12, 13, 14, 15, 16, 17, 18, 19, 20, 21, 22, 23, 24, 25, 26, 27, 28, 29, 30, 31, 32, 33, 34, 35, 36, 37, 38, 39, 40, 41, 42, 43, 44, 45, 46, 47, 48, 49, 50, 51, 52, 53, 54, 55, 56, 57, 58, 59, 60, 61, 62, 63, 64, 65, 66, 67, 68, 69, 70, 71, 72, 73, 74, 75, 76, 77, 78, 79, 80, 81, 82, 83, 84, 85, 86, 87, 88, 89, 90, 91, 92, 93, 94, 95, 96, 97, 98, 99, 100, 101, 102, 103, 104, 105, 106, 107, 108, 109, 110] (by decide +kernel) (by decide +kernel)
set_option maxRecDepth 20000 in
theorem gX2_countStarts_X2_leadsTo : GoodIn wsX2_countStarts (wsV RX2 100 RX2 yX2_leadsTo wsX2_leadsTo) := goodIn_app (goodIn_of _ (by decide +kernel)) ggX2_countStarts_X2_leadsTo
theorem dX2_countStarts_0 : decode cX2_countStarts 0 = .ok (.iconst 0, 1) := by decide +kernel
theorem dX2_countStarts_1 : decode cX2_countStarts 1 = .ok (.istore_n 3, 1) := by decide +kernel
theorem dX2_countStarts_2 : decode cX2_countStarts 2 = .ok (.iconst 0, 1) := by decide +kernel
theorem dX2_countStarts_3 : decode cX2_countStarts 3 = .ok (.istore 4, 2) := by decide +kernel
theorem dX2_countStarts_5 : decode cX2_countStarts 5 = .ok (.iload 4, 2) := by decide +kernel
theorem dX2_countStarts_7 : decode cX2_countStarts 7 = .ok (.bipush 30, 2) := by decide +kernel
theorem dX2_countStarts_9 : decode cX2_countStarts 9 = .ok (.if_icmp .gt 23, 3) := by decide +kernel
theorem dX2_countStarts_12 : decode cX2_countStarts 12 = .ok (.aload_n 0, 1) := by decide +kernel
theorem dX2_countStarts_13 : decode cX2_countStarts 13 = .ok (.iload_n 1, 1) := by decide +kernel
theorem dX2_countStarts_14 : decode cX2_countStarts 14 = .ok (.iload_n 2, 1) := by decide +kernel
theorem dX2_countStarts_15 : decode cX2_countStarts 15 = .ok (.iload 4, 2) := by decide +kernel
theorem dX2_countStarts_17 : decode cX2_countStarts 17 = .ok (.invokevirtual 100, 3) := by decide +kernel
theorem dX2_countStarts_20 : decode cX2_countStarts 20 = .ok (.ifCond .eq 6, 3) := by decide +kernel
theorem dX2_countStarts_23 : decode cX2_countStarts 23 = .ok (.iinc 3 1, 3) := by decide +kernel
theorem dX2_countStarts_26 : decode cX2_countStarts 26 = .ok (.iinc 4 1, 3) := by decide +kernel
theorem dX2_countStarts_29 : decode cX2_countStarts 29 = .ok (.goto (-24), 3) := by decide +kernel
theorem dX2_countStarts_32 : decode cX2_countStarts 32 = .ok (.iload_n 3, 1) := by decide +kernel
theorem dX2_countStarts_33 : decode cX2_countStarts 33 = .ok (.ireturn, 1) := by decide +kernel
set_option maxRecDepth 20000 in
theorem ggX2_leastStart_X2_leadsTo : GoodIn wsX2_leastStart wsX2_leadsTo := goodIn_r _ [5, 6, 7, 8, 4, 9, 10, 11, 12, 13, 14, 15, 16, 17, 18, 19, 20, 21, 22, 23, 24, 25, 26, 27, 28, 29, 30, 31, 32, 33, 34, 35, 36, 37, 38, 39, 40, 41, 42, 43, 44, 45, 46, 47, 48, 49, 50, 51, 52, 53, 54, 55, 56, 57, 58, 59, 60, 61, 62, 63, 64, 65, 66, 67, 68, 69, 70, 71, 72, 73, 74, 75, 76, 77, 78, 79, 80, 81, 82, 83, 84, 85, 86, 87, 88, 89, 90, 91, 92, 93, 94, 95, 96, 97, 98, 99, 100, 101, 102, 103, 104, 105, 106, 107, 108, 109, 110] (by decide +kernel) (by decide +kernel)
set_option maxRecDepth 20000 in
theorem gX2_leastStart_X2_leadsTo : GoodIn wsX2_leastStart (wsV RX2 100 RX2 yX2_leadsTo wsX2_leadsTo) := goodIn_app (goodIn_of _ (by decide +kernel)) ggX2_leastStart_X2_leadsTo
theorem dX2_leastStart_0 : decode cX2_leastStart 0 = .ok (.iconst 0, 1) := by decide +kernel
theorem dX2_leastStart_1 : decode cX2_leastStart 1 = .ok (.istore_n 3, 1) := by decide +kernel
theorem dX2_leastStart_2 : decode cX2_leastStart 2 = .ok (.iload_n 3, 1) := by decide +kernel
theorem dX2_leastStart_3 : decode cX2_leastStart 3 = .ok (.bipush 30, 2) := by decide +kernel
theorem dX2_leastStart_5 : decode cX2_leastStart 5 = .ok (.if_icmp .gt 21, 3) := by decide +kernel
theorem dX2_leastStart_8 : decode cX2_leastStart 8 = .ok (.aload_n 0, 1) := by decide +kernel
theorem dX2_leastStart_9 : decode cX2_leastStart 9 = .ok (.iload_n 1, 1) := by decide +kernel
theorem dX2_leastStart_10 : decode cX2_leastStart 10 = .ok (.iload_n 2, 1) := by decide +kernel
theorem dX2_leastStart_11 : decode cX2_leastStart 11 = .ok (.iload_n 3, 1) := by decide +kernel
theorem dX2_leastStart_12 : decode cX2_leastStart 12 = .ok (.invokevirtual 100, 3) := by decide +kernel
theorem dX2_leastStart_15 : decode cX2_leastStart 15 = .ok (.ifCond .eq 5, 3) := by decide +kernel
theorem dX2_leastStart_18 : decode cX2_leastStart 18 = .ok (.iload_n 3, 1) := by decide +kernel
theorem dX2_leastStart_19 : decode cX2_leastStart 19 = .ok (.ireturn, 1) := by decide +kernel
theorem dX2_leastStart_20 : decode cX2_leastStart 20 = .ok (.iinc 3 1, 3) := by decide +kernel
theorem dX2_leastStart_23 : decode cX2_leastStart 23 = .ok (.goto (-21), 3) := by decide +kernel
theorem dX2_leastStart_26 : decode cX2_leastStart 26 = .ok (.bipush (-9), 2) := by decide +kernel
theorem dX2_leastStart_28 : decode cX2_leastStart 28 = .ok (.ireturn, 1) := by decide +kernel
set_option maxRecDepth 20000 in
theorem ggX2_timesWithPowder_X2_asNow : GoodIn wsX2_timesWithPowder wsX2_asNow := goodIn_r _ [5, 6, 7, 8, 9, 10, 11, 12, 13, 14, 15, 16, 17, 18, 19, 20, 21, 22, 23, 24, 25, 26, 95, 96, 97, 98, 99, 100, 101, 102, 103, 104, 105, 106, 107, 108, 109] (by decide +kernel) (by decide +kernel)
set_option maxRecDepth 20000 in
theorem gX2_timesWithPowder_X2_asNow : GoodIn wsX2_timesWithPowder (wsV RX2 32 RX2 yX2_asNow wsX2_asNow) := goodIn_app (goodIn_of _ (by decide +kernel)) ggX2_timesWithPowder_X2_asNow
set_option maxRecDepth 20000 in
theorem ggX2_timesWithPowder_X0_setPowder : GoodIn wsX2_timesWithPowder wsX0_setPowder := goodIn_r _ [29, 19, 99, 100, 101, 102, 103, 104, 105, 106, 107, 108, 109] (by decide +kernel) (by decide +kernel)
set_option maxRecDepth 20000 in
theorem gX2_timesWithPowder_X0_setPowder_n104 : GoodIn wsX2_timesWithPowder (wsX0_setPowder) := ggX2_timesWithPowder_X0_setPowder
set_option maxRecDepth 20000 in
theorem ggX2_timesWithPowder_X2_timesFromHere : GoodIn wsX2_timesWithPowder wsX2_timesFromHere := goodIn_r _ [33, 6, 34, 9, 35, 36, 25, 23, 26, 20, 37, 38, 39, 40, 41, 42, 43, 44, 22, 45, 46, 47, 48, 19, 49, 50, 51, 52, 21, 53, 54, 55, 56, 18, 57, 58, 59, 60, 12, 17, 61, 62, 63, 64, 65, 66, 67, 68, 69, 70, 71, 72, 73, 74, 75, 76, 77, 78, 79, 24, 80, 81, 82, 83, 84, 85, 86, 87, 88, 89, 90, 91, 92, 93, 94, 95, 96, 97, 98, 99, 100, 101, 102, 103, 104, 105, 106, 107, 108, 109] (by decide +kernel) (by decide +kernel)
set_option maxRecDepth 20000 in
theorem gX2_timesWithPowder_X2_timesFromHere : GoodIn wsX2_timesWithPowder (wsV RX2 48 RX2 yX2_timesFromHere wsX2_timesFromHere) := goodIn_app (goodIn_of _ (by decide +kernel)) ggX2_timesWithPowder_X2_timesFromHere
theorem dX2_timesWithPowder_0 : decode cX2_timesWithPowder 0 = .ok (.aload_n 0, 1) := by decide +kernel
theorem dX2_timesWithPowder_1 : decode cX2_timesWithPowder 1 = .ok (.invokevirtual 32, 3) := by decide +kernel
theorem dX2_timesWithPowder_4 : decode cX2_timesWithPowder 4 = .ok (.iload_n 1, 1) := by decide +kernel
theorem dX2_timesWithPowder_5 : decode cX2_timesWithPowder 5 = .ok (.iload_n 2, 1) := by decide +kernel
theorem dX2_timesWithPowder_6 : decode cX2_timesWithPowder 6 = .ok (.invokevirtual 104, 3) := by decide +kernel
theorem dX2_timesWithPowder_9 : decode cX2_timesWithPowder 9 = .ok (.aload_n 0, 1) := by decide +kernel
theorem dX2_timesWithPowder_10 : decode cX2_timesWithPowder 10 = .ok (.iload_n 1, 1) := by decide +kernel
theorem dX2_timesWithPowder_11 : decode cX2_timesWithPowder 11 = .ok (.iload_n 3, 1) := by decide +kernel
theorem dX2_timesWithPowder_12 : decode cX2_timesWithPowder 12 = .ok (.invokevirtual 48, 3) := by decide +kernel
theorem dX2_timesWithPowder_15 : decode cX2_timesWithPowder 15 = .ok (.ireturn, 1) := by decide +kernel
set_option maxRecDepth 20000 in
theorem ggX2_bestPowder_X0_costOf : GoodIn wsX2_bestPowder wsX0_costOf := goodIn_r _ [5, 6, 7, 103, 104, 105, 106, 107, 108, 109, 110, 111, 112, 113] (by decide +kernel) (by decide +kernel)
set_option maxRecDepth 20000 in
theorem gX2_bestPowder_X0_costOf_n108 : GoodIn wsX2_bestPowder (wsX0_costOf) := ggX2_bestPowder_X0_costOf
set_option maxRecDepth 20000 in
theorem ggX2_bestPowder_X2_timesWithPowder : GoodIn wsX2_bestPowder wsX2_timesWithPowder := goodIn_r _ [12, 13, 14, 15, 11, 16, 17, 1, 18, 3, 19, 20, 6, 21, 22, 23, 24, 7, 25, 26, 27, 28, 29, 30, 31, 32, 33, 34, 35, 36, 37, 38, 39, 40, 41, 42, 43, 44, 45, 46, 47, 48, 49, 50, 51, 52, 53, 54, 55, 56, 57, 58, 59, 60, 61, 62, 63, 64, 2, 4, 5, 65, 66, 67, 68, 69, 70, 71, 72, 73, 74, 75, 76, 77, 78, 79, 80, 81, 82, 83, 84, 85, 86, 87, 88, 89, 90, 91, 92, 93, 94, 95, 96, 97, 98, 99, 100, 101, 102, 103, 104, 105, 106, 107, 108, 109, 110, 111, 112, 113] (by decide +kernel) (by decide +kernel)
set_option maxRecDepth 20000 in
theorem gX2_bestPowder_X2_timesWithPowder : GoodIn wsX2_bestPowder (wsV RX2 111 RX2 yX2_timesWithPowder wsX2_timesWithPowder) := goodIn_app (goodIn_of _ (by decide +kernel)) ggX2_bestPowder_X2_timesWithPowder
theorem dX2_bestPowder_0 : decode cX2_bestPowder 0 = .ok (.aload_n 0, 1) := by decide +kernel
theorem dX2_bestPowder_1 : decode cX2_bestPowder 1 = .ok (.getfield 12, 3) := by decide +kernel
theorem dX2_bestPowder_4 : decode cX2_bestPowder 4 = .ok (.iload_n 1, 1) := by decide +kernel
theorem dX2_bestPowder_5 : decode cX2_bestPowder 5 = .ok (.invokevirtual 108, 3) := by decide +kernel
theorem dX2_bestPowder_8 : decode cX2_bestPowder 8 = .ok (.ifCond .le 14, 3) := by decide +kernel
theorem dX2_bestPowder_11 : decode cX2_bestPowder 11 = .ok (.aload_n 0, 1) := by decide +kernel
theorem dX2_bestPowder_12 : decode cX2_bestPowder 12 = .ok (.getfield 12, 3) := by decide +kernel
theorem dX2_bestPowder_15 : decode cX2_bestPowder 15 = .ok (.iload_n 1, 1) := by decide +kernel
theorem dX2_bestPowder_16 : decode cX2_bestPowder 16 = .ok (.invokevirtual 108, 3) := by decide +kernel
theorem dX2_bestPowder_19 : decode cX2_bestPowder 19 = .ok (.goto 5, 3) := by decide +kernel
theorem dX2_bestPowder_22 : decode cX2_bestPowder 22 = .ok (.bipush 100, 2) := by decide +kernel
theorem dX2_bestPowder_24 : decode cX2_bestPowder 24 = .ok (.istore_n 3, 1) := by decide +kernel
theorem dX2_bestPowder_25 : decode cX2_bestPowder 25 = .ok (.iconst 0, 1) := by decide +kernel
theorem dX2_bestPowder_26 : decode cX2_bestPowder 26 = .ok (.istore 4, 2) := by decide +kernel
theorem dX2_bestPowder_28 : decode cX2_bestPowder 28 = .ok (.iconst 0, 1) := by decide +kernel
theorem dX2_bestPowder_29 : decode cX2_bestPowder 29 = .ok (.istore 5, 2) := by decide +kernel
theorem dX2_bestPowder_31 : decode cX2_bestPowder 31 = .ok (.iconst 0, 1) := by decide +kernel
theorem dX2_bestPowder_32 : decode cX2_bestPowder 32 = .ok (.istore 6, 2) := by decide +kernel
theorem dX2_bestPowder_34 : decode cX2_bestPowder 34 = .ok (.iload 6, 2) := by decide +kernel
theorem dX2_bestPowder_36 : decode cX2_bestPowder 36 = .ok (.bipush 99, 2) := by decide +kernel
theorem dX2_bestPowder_38 : decode cX2_bestPowder 38 = .ok (.if_icmp .gt 37, 3) := by decide +kernel
theorem dX2_bestPowder_41 : decode cX2_bestPowder 41 = .ok (.aload_n 0, 1) := by decide +kernel
theorem dX2_bestPowder_42 : decode cX2_bestPowder 42 = .ok (.iload_n 1, 1) := by decide +kernel
theorem dX2_bestPowder_43 : decode cX2_bestPowder 43 = .ok (.iload 6, 2) := by decide +kernel
theorem dX2_bestPowder_45 : decode cX2_bestPowder 45 = .ok (.iload_n 2, 1) := by decide +kernel
theorem dX2_bestPowder_46 : decode cX2_bestPowder 46 = .ok (.invokevirtual 111, 3) := by decide +kernel
theorem dX2_bestPowder_49 : decode cX2_bestPowder 49 = .ok (.istore 7, 2) := by decide +kernel
theorem dX2_bestPowder_51 : decode cX2_bestPowder 51 = .ok (.iload 7, 2) := by decide +kernel
theorem dX2_bestPowder_53 : decode cX2_bestPowder 53 = .ok (.iload 5, 2) := by decide +kernel
theorem dX2_bestPowder_55 : decode cX2_bestPowder 55 = .ok (.if_icmp .le 11, 3) := by decide +kernel
theorem dX2_bestPowder_58 : decode cX2_bestPowder 58 = .ok (.iload 6, 2) := by decide +kernel
theorem dX2_bestPowder_60 : decode cX2_bestPowder 60 = .ok (.istore 4, 2) := by decide +kernel
theorem dX2_bestPowder_62 : decode cX2_bestPowder 62 = .ok (.iload 7, 2) := by decide +kernel
theorem dX2_bestPowder_64 : decode cX2_bestPowder 64 = .ok (.istore 5, 2) := by decide +kernel
theorem dX2_bestPowder_66 : decode cX2_bestPowder 66 = .ok (.iload 6, 2) := by decide +kernel
theorem dX2_bestPowder_68 : decode cX2_bestPowder 68 = .ok (.iload_n 3, 1) := by decide +kernel
theorem dX2_bestPowder_69 : decode cX2_bestPowder 69 = .ok (.iadd, 1) := by decide +kernel
theorem dX2_bestPowder_70 : decode cX2_bestPowder 70 = .ok (.istore 6, 2) := by decide +kernel
theorem dX2_bestPowder_72 : decode cX2_bestPowder 72 = .ok (.goto (-38), 3) := by decide +kernel
theorem dX2_bestPowder_75 : decode cX2_bestPowder 75 = .ok (.iload 4, 2) := by decide +kernel
theorem dX2_bestPowder_77 : decode cX2_bestPowder 77 = .ok (.ireturn, 1) := by decide +kernel
set_option maxRecDepth 20000 in
theorem ggX2_timesFrom_X2_asNow : GoodIn wsX2_timesFrom wsX2_asNow := goodIn_r _ [5, 6, 7, 8, 9, 10, 11, 12, 13, 14, 15, 16, 17, 18, 19, 20, 21, 22, 23, 24, 25, 26, 106, 107, 108, 109, 95, 96, 97, 98, 99, 100, 101, 102, 103, 104, 105] (by decide +kernel) (by decide +kernel)
set_option maxRecDepth 20000 in
theorem gX2_timesFrom_X2_asNow : GoodIn wsX2_timesFrom (wsV RX2 32 RX2 yX2_asNow wsX2_asNow) := goodIn_app (goodIn_of _ (by decide +kernel)) ggX2_timesFrom_X2_asNow
set_option maxRecDepth 20000 in
theorem ggX2_timesFrom_X0_add : GoodIn wsX2_timesFrom wsX0_add := goodIn_r _ [29, 22, 12, 17, 18, 19, 20, 95, 96, 97, 98, 99, 100, 101, 102, 103, 104, 105] (by decide +kernel) (by decide +kernel)
set_option maxRecDepth 20000 in
theorem gX2_timesFrom_X0_add_n114 : GoodIn wsX2_timesFrom (wsX0_add) := ggX2_timesFrom_X0_add
set_option maxRecDepth 20000 in
theorem ggX2_timesFrom_X2_timesFromHere : GoodIn wsX2_timesFrom wsX2_timesFromHere := goodIn_r _ [33, 6, 34, 9, 35, 36, 25, 23, 26, 20, 37, 38, 39, 40, 41, 42, 43, 44, 22, 45, 46, 47, 48, 19, 49, 50, 51, 52, 21, 53, 54, 55, 56, 18, 57, 58, 59, 60, 12, 17, 61, 62, 63, 64, 65, 66, 67, 68, 69, 70, 71, 72, 73, 74, 75, 76, 77, 78, 79, 24, 80, 81, 82, 83, 84, 85, 86, 87, 88, 89, 90, 91, 92, 93, 94, 106, 107, 108, 109, 95, 96, 97, 98, 99, 100, 101, 102, 103, 104, 105] (by decide +kernel) (by decide +kernel)
set_option maxRecDepth 20000 in
theorem gX2_timesFrom_X2_timesFromHere : GoodIn wsX2_timesFrom (wsV RX2 48 RX2 yX2_timesFromHere wsX2_timesFromHere) := goodIn_app (goodIn_of _ (by decide +kernel)) ggX2_timesFrom_X2_timesFromHere
theorem dX2_timesFrom_0 : decode cX2_timesFrom 0 = .ok (.aload_n 0, 1) := by decide +kernel
theorem dX2_timesFrom_1 : decode cX2_timesFrom 1 = .ok (.invokevirtual 32, 3) := by decide +kernel
theorem dX2_timesFrom_4 : decode cX2_timesFrom 4 = .ok (.astore 4, 2) := by decide +kernel
theorem dX2_timesFrom_6 : decode cX2_timesFrom 6 = .ok (.aload 4, 2) := by decide +kernel
theorem dX2_timesFrom_8 : decode cX2_timesFrom 8 = .ok (.iload_n 1, 1) := by decide +kernel
theorem dX2_timesFrom_9 : decode cX2_timesFrom 9 = .ok (.iconst 5, 1) := by decide +kernel
theorem dX2_timesFrom_10 : decode cX2_timesFrom 10 = .ok (.iload_n 2, 1) := by decide +kernel
theorem dX2_timesFrom_11 : decode cX2_timesFrom 11 = .ok (.invokevirtual 114, 3) := by decide +kernel
theorem dX2_timesFrom_14 : decode cX2_timesFrom 14 = .ok (.aload_n 0, 1) := by decide +kernel
theorem dX2_timesFrom_15 : decode cX2_timesFrom 15 = .ok (.aload 4, 2) := by decide +kernel
theorem dX2_timesFrom_17 : decode cX2_timesFrom 17 = .ok (.getfield 56, 3) := by decide +kernel
theorem dX2_timesFrom_20 : decode cX2_timesFrom 20 = .ok (.iconst 1, 1) := by decide +kernel
theorem dX2_timesFrom_21 : decode cX2_timesFrom 21 = .ok (.isub, 1) := by decide +kernel
theorem dX2_timesFrom_22 : decode cX2_timesFrom 22 = .ok (.iload_n 3, 1) := by decide +kernel
theorem dX2_timesFrom_23 : decode cX2_timesFrom 23 = .ok (.invokevirtual 48, 3) := by decide +kernel
theorem dX2_timesFrom_26 : decode cX2_timesFrom 26 = .ok (.ireturn, 1) := by decide +kernel
set_option maxRecDepth 20000 in
theorem ggX2_bestNewPlace_X0_shoreAt : GoodIn wsX2_bestNewPlace wsX0_shoreAt := goodIn_r _ [5, 6, 7, 103, 104, 105, 106, 107, 108, 109, 110, 111, 112, 113] (by decide +kernel) (by decide +kernel)
set_option maxRecDepth 20000 in
theorem gX2_bestNewPlace_X0_shoreAt_n118 : GoodIn wsX2_bestNewPlace (wsX0_shoreAt) := ggX2_bestNewPlace_X0_shoreAt
set_option maxRecDepth 20000 in
theorem ggX2_bestNewPlace_X2_timesFrom : GoodIn wsX2_bestNewPlace wsX2_timesFrom := goodIn_r _ [12, 13, 14, 15, 11, 16, 17, 1, 18, 3, 19, 20, 21, 22, 23, 24, 25, 26, 7, 27, 28, 29, 6, 30, 31, 32, 33, 34, 35, 36, 37, 38, 39, 40, 41, 42, 43, 44, 45, 46, 47, 48, 49, 50, 51, 52, 53, 54, 55, 56, 57, 58, 59, 60, 61, 62, 63, 64, 65, 66, 67, 68, 69, 70, 71, 72, 73, 74, 75, 76, 77, 78, 79, 80, 81, 82, 83, 84, 85, 86, 87, 88, 89, 90, 91, 92, 93, 94, 95, 96, 97, 98, 2, 4, 5, 103, 104, 105, 106, 107, 108, 109, 110, 111, 112, 113, 99, 100, 101, 102] (by decide +kernel) (by decide +kernel)
set_option maxRecDepth 20000 in
theorem gX2_bestNewPlace_X2_timesFrom : GoodIn wsX2_bestNewPlace (wsV RX2 121 RX2 yX2_timesFrom wsX2_timesFrom) := goodIn_app (goodIn_of _ (by decide +kernel)) ggX2_bestNewPlace_X2_timesFrom
theorem dX2_bestNewPlace_0 : decode cX2_bestNewPlace 0 = .ok (.bipush (-9), 2) := by decide +kernel
theorem dX2_bestNewPlace_2 : decode cX2_bestNewPlace 2 = .ok (.istore_n 3, 1) := by decide +kernel
theorem dX2_bestNewPlace_3 : decode cX2_bestNewPlace 3 = .ok (.iconst (-1), 1) := by decide +kernel
theorem dX2_bestNewPlace_4 : decode cX2_bestNewPlace 4 = .ok (.istore 4, 2) := by decide +kernel
theorem dX2_bestNewPlace_6 : decode cX2_bestNewPlace 6 = .ok (.iconst 0, 1) := by decide +kernel
theorem dX2_bestNewPlace_7 : decode cX2_bestNewPlace 7 = .ok (.istore 5, 2) := by decide +kernel
theorem dX2_bestNewPlace_9 : decode cX2_bestNewPlace 9 = .ok (.iload 5, 2) := by decide +kernel
theorem dX2_bestNewPlace_11 : decode cX2_bestNewPlace 11 = .ok (.bipush 30, 2) := by decide +kernel
theorem dX2_bestNewPlace_13 : decode cX2_bestNewPlace 13 = .ok (.if_icmp .gt 63, 3) := by decide +kernel
theorem dX2_bestNewPlace_16 : decode cX2_bestNewPlace 16 = .ok (.aload_n 0, 1) := by decide +kernel
theorem dX2_bestNewPlace_17 : decode cX2_bestNewPlace 17 = .ok (.getfield 12, 3) := by decide +kernel
theorem dX2_bestNewPlace_20 : decode cX2_bestNewPlace 20 = .ok (.getfield 56, 3) := by decide +kernel
theorem dX2_bestNewPlace_23 : decode cX2_bestNewPlace 23 = .ok (.bipush 7, 2) := by decide +kernel
theorem dX2_bestNewPlace_25 : decode cX2_bestNewPlace 25 = .ok (.if_icmp .ge 51, 3) := by decide +kernel
theorem dX2_bestNewPlace_28 : decode cX2_bestNewPlace 28 = .ok (.aload_n 0, 1) := by decide +kernel
theorem dX2_bestNewPlace_29 : decode cX2_bestNewPlace 29 = .ok (.getfield 12, 3) := by decide +kernel
theorem dX2_bestNewPlace_32 : decode cX2_bestNewPlace 32 = .ok (.iload 5, 2) := by decide +kernel
theorem dX2_bestNewPlace_34 : decode cX2_bestNewPlace 34 = .ok (.invokevirtual 118, 3) := by decide +kernel
theorem dX2_bestNewPlace_37 : decode cX2_bestNewPlace 37 = .ok (.bipush (-9), 2) := by decide +kernel
theorem dX2_bestNewPlace_39 : decode cX2_bestNewPlace 39 = .ok (.if_icmp .ne 14, 3) := by decide +kernel
theorem dX2_bestNewPlace_42 : decode cX2_bestNewPlace 42 = .ok (.aload_n 0, 1) := by decide +kernel
theorem dX2_bestNewPlace_43 : decode cX2_bestNewPlace 43 = .ok (.iload_n 1, 1) := by decide +kernel
theorem dX2_bestNewPlace_44 : decode cX2_bestNewPlace 44 = .ok (.iload 5, 2) := by decide +kernel
theorem dX2_bestNewPlace_46 : decode cX2_bestNewPlace 46 = .ok (.iload_n 2, 1) := by decide +kernel
theorem dX2_bestNewPlace_47 : decode cX2_bestNewPlace 47 = .ok (.invokevirtual 121, 3) := by decide +kernel
theorem dX2_bestNewPlace_50 : decode cX2_bestNewPlace 50 = .ok (.goto 4, 3) := by decide +kernel
theorem dX2_bestNewPlace_53 : decode cX2_bestNewPlace 53 = .ok (.iconst (-1), 1) := by decide +kernel
theorem dX2_bestNewPlace_54 : decode cX2_bestNewPlace 54 = .ok (.istore 6, 2) := by decide +kernel
theorem dX2_bestNewPlace_56 : decode cX2_bestNewPlace 56 = .ok (.iload 6, 2) := by decide +kernel
theorem dX2_bestNewPlace_58 : decode cX2_bestNewPlace 58 = .ok (.iload 4, 2) := by decide +kernel
theorem dX2_bestNewPlace_60 : decode cX2_bestNewPlace 60 = .ok (.if_icmp .le 10, 3) := by decide +kernel
theorem dX2_bestNewPlace_63 : decode cX2_bestNewPlace 63 = .ok (.iload 5, 2) := by decide +kernel
theorem dX2_bestNewPlace_65 : decode cX2_bestNewPlace 65 = .ok (.istore_n 3, 1) := by decide +kernel
theorem dX2_bestNewPlace_66 : decode cX2_bestNewPlace 66 = .ok (.iload 6, 2) := by decide +kernel
theorem dX2_bestNewPlace_68 : decode cX2_bestNewPlace 68 = .ok (.istore 4, 2) := by decide +kernel
theorem dX2_bestNewPlace_70 : decode cX2_bestNewPlace 70 = .ok (.iinc 5 1, 3) := by decide +kernel
theorem dX2_bestNewPlace_73 : decode cX2_bestNewPlace 73 = .ok (.goto (-64), 3) := by decide +kernel
theorem dX2_bestNewPlace_76 : decode cX2_bestNewPlace 76 = .ok (.iload_n 3, 1) := by decide +kernel
theorem dX2_bestNewPlace_77 : decode cX2_bestNewPlace 77 = .ok (.ireturn, 1) := by decide +kernel
set_option maxRecDepth 20000 in
theorem ggX2_guessBits_X2_asNow : GoodIn wsX2_guessBits wsX2_asNow := goodIn_r _ [5, 6, 7, 8, 9, 10, 11, 12, 13, 14, 15, 16, 17, 18, 19, 20, 21, 22, 23, 24, 25, 26, 103, 104, 105, 106, 92, 93, 94, 95, 96, 97, 98, 99, 100, 101, 102] (by decide +kernel) (by decide +kernel)
set_option maxRecDepth 20000 in
theorem gX2_guessBits_X2_asNow : GoodIn wsX2_guessBits (wsV RX2 32 RX2 yX2_asNow wsX2_asNow) := goodIn_app (goodIn_of _ (by decide +kernel)) ggX2_guessBits_X2_asNow
set_option maxRecDepth 20000 in
theorem ggX2_guessBits_X2_goesAsTold : GoodIn wsX2_guessBits wsX2_goesAsTold := goodIn_r _ [30, 6, 31, 9, 32, 33, 25, 23, 26, 20, 34, 35, 36, 37, 38, 39, 40, 41, 22, 42, 43, 44, 45, 19, 46, 47, 48, 49, 21, 50, 51, 52, 53, 18, 54, 55, 56, 57, 12, 17, 58, 59, 60, 61, 62, 63, 64, 65, 66, 67, 68, 69, 70, 71, 72, 73, 74, 75, 76, 24, 77, 78, 79, 80, 81, 82, 83, 84, 85, 86, 87, 88, 89, 90, 91, 103, 104, 105, 106, 92, 93, 94, 95, 96, 97, 98, 99, 100, 101, 102] (by decide +kernel) (by decide +kernel)
set_option maxRecDepth 20000 in
theorem gX2_guessBits_X2_goesAsTold : GoodIn wsX2_guessBits (wsV RX2 133 RX2 yX2_goesAsTold wsX2_goesAsTold) := goodIn_app (goodIn_of _ (by decide +kernel)) ggX2_guessBits_X2_goesAsTold
theorem dX2_guessBits_0 : decode cX2_guessBits 0 = .ok (.iconst 0, 1) := by decide +kernel
theorem dX2_guessBits_1 : decode cX2_guessBits 1 = .ok (.istore 6, 2) := by decide +kernel
theorem dX2_guessBits_3 : decode cX2_guessBits 3 = .ok (.iload_n 2, 1) := by decide +kernel
theorem dX2_guessBits_4 : decode cX2_guessBits 4 = .ok (.iconst 2, 1) := by decide +kernel
theorem dX2_guessBits_5 : decode cX2_guessBits 5 = .ok (.if_icmp .ne 7, 3) := by decide +kernel
theorem dX2_guessBits_8 : decode cX2_guessBits 8 = .ok (.iconst 1, 1) := by decide +kernel
theorem dX2_guessBits_9 : decode cX2_guessBits 9 = .ok (.goto 4, 3) := by decide +kernel
theorem dX2_guessBits_12 : decode cX2_guessBits 12 = .ok (.iconst 0, 1) := by decide +kernel
theorem dX2_guessBits_13 : decode cX2_guessBits 13 = .ok (.istore 7, 2) := by decide +kernel
theorem dX2_guessBits_15 : decode cX2_guessBits 15 = .ok (.iload 7, 2) := by decide +kernel
theorem dX2_guessBits_17 : decode cX2_guessBits 17 = .ok (.iload_n 3, 1) := by decide +kernel
theorem dX2_guessBits_18 : decode cX2_guessBits 18 = .ok (.if_icmp .gt 95, 3) := by decide +kernel
theorem dX2_guessBits_21 : decode cX2_guessBits 21 = .ok (.aload_n 0, 1) := by decide +kernel
theorem dX2_guessBits_22 : decode cX2_guessBits 22 = .ok (.invokevirtual 32, 3) := by decide +kernel
theorem dX2_guessBits_25 : decode cX2_guessBits 25 = .ok (.astore 8, 2) := by decide +kernel
theorem dX2_guessBits_27 : decode cX2_guessBits 27 = .ok (.iload_n 2, 1) := by decide +kernel
theorem dX2_guessBits_28 : decode cX2_guessBits 28 = .ok (.lookupswitch 52 #[(0, 28), (1, 40)], 28) := by decide +kernel
theorem dX2_guessBits_56 : decode cX2_guessBits 56 = .ok (.aload 8, 2) := by decide +kernel
theorem dX2_guessBits_58 : decode cX2_guessBits 58 = .ok (.getfield 124, 3) := by decide +kernel
theorem dX2_guessBits_61 : decode cX2_guessBits 61 = .ok (.iload_n 1, 1) := by decide +kernel
theorem dX2_guessBits_62 : decode cX2_guessBits 62 = .ok (.iload 7, 2) := by decide +kernel
theorem dX2_guessBits_64 : decode cX2_guessBits 64 = .ok (.iastore, 1) := by decide +kernel
theorem dX2_guessBits_65 : decode cX2_guessBits 65 = .ok (.goto 22, 3) := by decide +kernel
theorem dX2_guessBits_68 : decode cX2_guessBits 68 = .ok (.aload 8, 2) := by decide +kernel
theorem dX2_guessBits_70 : decode cX2_guessBits 70 = .ok (.getfield 127, 3) := by decide +kernel
theorem dX2_guessBits_73 : decode cX2_guessBits 73 = .ok (.iload_n 1, 1) := by decide +kernel
theorem dX2_guessBits_74 : decode cX2_guessBits 74 = .ok (.iload 7, 2) := by decide +kernel
theorem dX2_guessBits_76 : decode cX2_guessBits 76 = .ok (.iastore, 1) := by decide +kernel
theorem dX2_guessBits_77 : decode cX2_guessBits 77 = .ok (.goto 10, 3) := by decide +kernel
theorem dX2_guessBits_80 : decode cX2_guessBits 80 = .ok (.aload 8, 2) := by decide +kernel
theorem dX2_guessBits_82 : decode cX2_guessBits 82 = .ok (.iload 7, 2) := by decide +kernel
theorem dX2_guessBits_84 : decode cX2_guessBits 84 = .ok (.putfield 130, 3) := by decide +kernel
theorem dX2_guessBits_87 : decode cX2_guessBits 87 = .ok (.aload_n 0, 1) := by decide +kernel
theorem dX2_guessBits_88 : decode cX2_guessBits 88 = .ok (.aload 4, 2) := by decide +kernel
theorem dX2_guessBits_90 : decode cX2_guessBits 90 = .ok (.iload 5, 2) := by decide +kernel
theorem dX2_guessBits_92 : decode cX2_guessBits 92 = .ok (.invokevirtual 133, 3) := by decide +kernel
theorem dX2_guessBits_95 : decode cX2_guessBits 95 = .ok (.ifCond .eq 12, 3) := by decide +kernel
theorem dX2_guessBits_98 : decode cX2_guessBits 98 = .ok (.iload 6, 2) := by decide +kernel
theorem dX2_guessBits_100 : decode cX2_guessBits 100 = .ok (.iconst 1, 1) := by decide +kernel
theorem dX2_guessBits_101 : decode cX2_guessBits 101 = .ok (.iload 7, 2) := by decide +kernel
theorem dX2_guessBits_103 : decode cX2_guessBits 103 = .ok (.ishl, 1) := by decide +kernel
theorem dX2_guessBits_104 : decode cX2_guessBits 104 = .ok (.ior, 1) := by decide +kernel
theorem dX2_guessBits_105 : decode cX2_guessBits 105 = .ok (.istore 6, 2) := by decide +kernel
theorem dX2_guessBits_107 : decode cX2_guessBits 107 = .ok (.iinc 7 1, 3) := by decide +kernel
theorem dX2_guessBits_110 : decode cX2_guessBits 110 = .ok (.goto (-95), 3) := by decide +kernel
theorem dX2_guessBits_113 : decode cX2_guessBits 113 = .ok (.iload 6, 2) := by decide +kernel
theorem dX2_guessBits_115 : decode cX2_guessBits 115 = .ok (.ireturn, 1) := by decide +kernel
set_option maxRecDepth 20000 in
theorem ggX2_goesAsTold_X0_passHour : GoodIn wsX2_goesAsTold wsX0_passHour := goodIn_r _ [5, 6, 7, 8, 9, 10, 11, 12, 13, 14, 15, 16, 3, 17, 18, 19, 20, 21, 22, 23, 24, 25, 26, 27, 28, 29, 30, 31, 32, 33, 34, 35, 36, 37, 38, 39, 40, 41, 42, 43, 44, 45, 46, 47, 48, 49, 50, 51, 52, 53, 54, 55, 56, 57, 58, 59, 60, 61, 62, 63, 64, 65, 66, 67, 68, 69, 70, 71, 72, 73, 74, 79, 80, 81, 82, 83, 84, 85, 86, 87, 88, 89] (by decide +kernel) (by decide +kernel)
set_option maxRecDepth 20000 in
theorem gX2_goesAsTold_X0_passHour_n40 : GoodIn wsX2_goesAsTold (wsX0_passHour) := ggX2_goesAsTold_X0_passHour
theorem dX2_goesAsTold_0 : decode cX2_goesAsTold 0 = .ok (.aload_n 0, 1) := by decide +kernel
theorem dX2_goesAsTold_1 : decode cX2_goesAsTold 1 = .ok (.getfield 18, 3) := by decide +kernel
theorem dX2_goesAsTold_4 : decode cX2_goesAsTold 4 = .ok (.astore_n 3, 1) := by decide +kernel
theorem dX2_goesAsTold_5 : decode cX2_goesAsTold 5 = .ok (.iconst 0, 1) := by decide +kernel
theorem dX2_goesAsTold_6 : decode cX2_goesAsTold 6 = .ok (.istore 4, 2) := by decide +kernel
theorem dX2_goesAsTold_8 : decode cX2_goesAsTold 8 = .ok (.iload 4, 2) := by decide +kernel
theorem dX2_goesAsTold_10 : decode cX2_goesAsTold 10 = .ok (.iload_n 2, 1) := by decide +kernel
theorem dX2_goesAsTold_11 : decode cX2_goesAsTold 11 = .ok (.if_icmp .ge 27, 3) := by decide +kernel
theorem dX2_goesAsTold_14 : decode cX2_goesAsTold 14 = .ok (.aload_n 1, 1) := by decide +kernel
theorem dX2_goesAsTold_15 : decode cX2_goesAsTold 15 = .ok (.iload 4, 2) := by decide +kernel
theorem dX2_goesAsTold_17 : decode cX2_goesAsTold 17 = .ok (.iaload, 1) := by decide +kernel
theorem dX2_goesAsTold_18 : decode cX2_goesAsTold 18 = .ok (.aload_n 3, 1) := by decide +kernel
theorem dX2_goesAsTold_19 : decode cX2_goesAsTold 19 = .ok (.getfield 64, 3) := by decide +kernel
theorem dX2_goesAsTold_22 : decode cX2_goesAsTold 22 = .ok (.if_icmp .eq 5, 3) := by decide +kernel
theorem dX2_goesAsTold_25 : decode cX2_goesAsTold 25 = .ok (.iconst 0, 1) := by decide +kernel
theorem dX2_goesAsTold_26 : decode cX2_goesAsTold 26 = .ok (.ireturn, 1) := by decide +kernel
theorem dX2_goesAsTold_27 : decode cX2_goesAsTold 27 = .ok (.aload_n 3, 1) := by decide +kernel
theorem dX2_goesAsTold_28 : decode cX2_goesAsTold 28 = .ok (.iconst 0, 1) := by decide +kernel
theorem dX2_goesAsTold_29 : decode cX2_goesAsTold 29 = .ok (.invokevirtual 40, 3) := by decide +kernel
theorem dX2_goesAsTold_32 : decode cX2_goesAsTold 32 = .ok (.iinc 4 1, 3) := by decide +kernel
theorem dX2_goesAsTold_35 : decode cX2_goesAsTold 35 = .ok (.goto (-27), 3) := by decide +kernel
theorem dX2_goesAsTold_38 : decode cX2_goesAsTold 38 = .ok (.iconst 1, 1) := by decide +kernel
theorem dX2_goesAsTold_39 : decode cX2_goesAsTold 39 = .ok (.ireturn, 1) := by decide +kernel
set_option maxRecDepth 20000 in
theorem ggX2_firstWrong_X2_asNow : GoodIn wsX2_firstWrong wsX2_asNow := goodIn_r _ [5, 6, 7, 8, 9, 10, 11, 12, 13, 14, 15, 16, 17, 18, 19, 20, 21, 22, 23, 24, 25, 26, 99, 100, 101, 102, 88, 89, 90, 91, 92, 93, 94, 95, 96, 97, 98] (by decide +kernel) (by decide +kernel)
set_option maxRecDepth 20000 in
theorem gX2_firstWrong_X2_asNow : GoodIn wsX2_firstWrong (wsV RX2 32 RX2 yX2_asNow wsX2_asNow) := goodIn_app (goodIn_of _ (by decide +kernel)) ggX2_firstWrong_X2_asNow
set_option maxRecDepth 20000 in
theorem ggX2_firstWrong_X0_loudestAt : GoodIn wsX2_firstWrong wsX0_loudestAt := goodIn_r _ [29, 22, 30, 31, 32, 9, 33, 19, 34, 35, 36, 37, 21, 38, 39, 40, 41, 18, 23, 42, 43, 44, 45, 12, 17, 46, 47, 48, 49, 50, 51, 52, 53, 54, 55, 56, 57, 88, 89, 90, 91, 92, 93, 94, 95, 96, 97, 98] (by decide +kernel) (by decide +kernel)
set_option maxRecDepth 20000 in
theorem gX2_firstWrong_X0_loudestAt_n137 : GoodIn wsX2_firstWrong (wsX0_loudestAt) := ggX2_firstWrong_X0_loudestAt
set_option maxRecDepth 20000 in
theorem ggX2_firstWrong_X0_passHour : GoodIn wsX2_firstWrong wsX0_passHour := goodIn_r _ [60, 25, 23, 26, 20, 61, 62, 56, 63, 64, 27, 28, 9, 29, 22, 30, 31, 32, 33, 19, 34, 35, 36, 37, 21, 38, 39, 40, 41, 18, 42, 43, 44, 45, 12, 17, 46, 47, 48, 49, 50, 51, 52, 53, 54, 55, 57, 65, 66, 67, 68, 69, 70, 71, 72, 24, 73, 74, 75, 76, 77, 78, 79, 80, 81, 82, 83, 84, 85, 86, 87, 88, 89, 90, 91, 92, 93, 94, 95, 96, 97, 98] (by decide +kernel) (by decide +kernel)
set_option maxRecDepth 20000 in
theorem gX2_firstWrong_X0_passHour_n40 : GoodIn wsX2_firstWrong (wsX0_passHour) := ggX2_firstWrong_X0_passHour
theorem dX2_firstWrong_0 : decode cX2_firstWrong 0 = .ok (.aload_n 0, 1) := by decide +kernel
theorem dX2_firstWrong_1 : decode cX2_firstWrong 1 = .ok (.invokevirtual 32, 3) := by decide +kernel
theorem dX2_firstWrong_4 : decode cX2_firstWrong 4 = .ok (.astore_n 3, 1) := by decide +kernel
theorem dX2_firstWrong_5 : decode cX2_firstWrong 5 = .ok (.iconst 0, 1) := by decide +kernel
theorem dX2_firstWrong_6 : decode cX2_firstWrong 6 = .ok (.istore 4, 2) := by decide +kernel
theorem dX2_firstWrong_8 : decode cX2_firstWrong 8 = .ok (.iload 4, 2) := by decide +kernel
theorem dX2_firstWrong_10 : decode cX2_firstWrong 10 = .ok (.iload_n 2, 1) := by decide +kernel
theorem dX2_firstWrong_11 : decode cX2_firstWrong 11 = .ok (.if_icmp .ge 48, 3) := by decide +kernel
theorem dX2_firstWrong_14 : decode cX2_firstWrong 14 = .ok (.aload_n 3, 1) := by decide +kernel
theorem dX2_firstWrong_15 : decode cX2_firstWrong 15 = .ok (.aload_n 3, 1) := by decide +kernel
theorem dX2_firstWrong_16 : decode cX2_firstWrong 16 = .ok (.getfield 82, 3) := by decide +kernel
theorem dX2_firstWrong_19 : decode cX2_firstWrong 19 = .ok (.invokevirtual 137, 3) := by decide +kernel
theorem dX2_firstWrong_22 : decode cX2_firstWrong 22 = .ok (.istore 5, 2) := by decide +kernel
theorem dX2_firstWrong_24 : decode cX2_firstWrong 24 = .ok (.aload_n 1, 1) := by decide +kernel
theorem dX2_firstWrong_25 : decode cX2_firstWrong 25 = .ok (.iload 4, 2) := by decide +kernel
theorem dX2_firstWrong_27 : decode cX2_firstWrong 27 = .ok (.iaload, 1) := by decide +kernel
theorem dX2_firstWrong_28 : decode cX2_firstWrong 28 = .ok (.iload 5, 2) := by decide +kernel
theorem dX2_firstWrong_30 : decode cX2_firstWrong 30 = .ok (.bipush (-9), 2) := by decide +kernel
theorem dX2_firstWrong_32 : decode cX2_firstWrong 32 = .ok (.if_icmp .ne 8, 3) := by decide +kernel
theorem dX2_firstWrong_35 : decode cX2_firstWrong 35 = .ok (.bipush 9, 2) := by decide +kernel
theorem dX2_firstWrong_37 : decode cX2_firstWrong 37 = .ok (.goto 5, 3) := by decide +kernel
theorem dX2_firstWrong_40 : decode cX2_firstWrong 40 = .ok (.iload 5, 2) := by decide +kernel
theorem dX2_firstWrong_42 : decode cX2_firstWrong 42 = .ok (.if_icmp .eq 6, 3) := by decide +kernel
theorem dX2_firstWrong_45 : decode cX2_firstWrong 45 = .ok (.iload 4, 2) := by decide +kernel
theorem dX2_firstWrong_47 : decode cX2_firstWrong 47 = .ok (.ireturn, 1) := by decide +kernel
theorem dX2_firstWrong_48 : decode cX2_firstWrong 48 = .ok (.aload_n 3, 1) := by decide +kernel
theorem dX2_firstWrong_49 : decode cX2_firstWrong 49 = .ok (.iconst 0, 1) := by decide +kernel
theorem dX2_firstWrong_50 : decode cX2_firstWrong 50 = .ok (.invokevirtual 40, 3) := by decide +kernel
theorem dX2_firstWrong_53 : decode cX2_firstWrong 53 = .ok (.iinc 4 1, 3) := by decide +kernel
theorem dX2_firstWrong_56 : decode cX2_firstWrong 56 = .ok (.goto (-48), 3) := by decide +kernel
theorem dX2_firstWrong_59 : decode cX2_firstWrong 59 = .ok (.bipush (-9), 2) := by decide +kernel
theorem dX2_firstWrong_61 : decode cX2_firstWrong 61 = .ok (.ireturn, 1) := by decide +kernel
set_option maxRecDepth 20000 in
theorem ggX2_weighTreaty_X2_timesByTreaty : GoodIn wsX2_weighTreaty wsX2_timesByTreaty := goodIn_r _ [7, 8, 9, 10, 6, 11, 12, 13, 14, 15, 16, 17, 18, 19, 20, 21, 22, 23, 24, 25, 26, 27, 28, 29, 30, 31, 32, 33, 34, 35, 36, 37, 38, 39, 40, 41, 42, 43, 44, 45, 46, 47, 48, 49, 50, 51, 52, 53, 54, 55, 56, 57, 58, 59, 60, 61, 62, 63, 64, 65, 66, 67, 68, 69, 70, 71, 72, 73, 74, 75, 76, 77, 78, 79, 80, 81, 82, 83, 84, 85, 86, 87, 88, 89, 90, 91, 92, 93, 94, 95, 96, 97, 98, 99, 100, 101, 102, 103, 104, 105, 106, 107, 108, 109, 110, 111, 112, 113, 114, 115] (by decide +kernel) (by decide +kernel)
set_option maxRecDepth 20000 in
theorem gX2_weighTreaty_X2_timesByTreaty : GoodIn wsX2_weighTreaty (wsV RX2 140 RX2 yX2_timesByTreaty wsX2_timesByTreaty) := goodIn_app (goodIn_of _ (by decide +kernel)) ggX2_weighTreaty_X2_timesByTreaty
theorem dX2_weighTreaty_0 : decode cX2_weighTreaty 0 = .ok (.iconst 0, 1) := by decide +kernel
theorem dX2_weighTreaty_1 : decode cX2_weighTreaty 1 = .ok (.istore_n 3, 1) := by decide +kernel
theorem dX2_weighTreaty_2 : decode cX2_weighTreaty 2 = .ok (.iload_n 3, 1) := by decide +kernel
theorem dX2_weighTreaty_3 : decode cX2_weighTreaty 3 = .ok (.iconst 4, 1) := by decide +kernel
theorem dX2_weighTreaty_4 : decode cX2_weighTreaty 4 = .ok (.if_icmp .ge 37, 3) := by decide +kernel
theorem dX2_weighTreaty_7 : decode cX2_weighTreaty 7 = .ok (.aload_n 0, 1) := by decide +kernel
theorem dX2_weighTreaty_8 : decode cX2_weighTreaty 8 = .ok (.getfield 21, 3) := by decide +kernel
theorem dX2_weighTreaty_11 : decode cX2_weighTreaty 11 = .ok (.iload_n 3, 1) := by decide +kernel
theorem dX2_weighTreaty_12 : decode cX2_weighTreaty 12 = .ok (.aload_n 0, 1) := by decide +kernel
theorem dX2_weighTreaty_13 : decode cX2_weighTreaty 13 = .ok (.iload_n 1, 1) := by decide +kernel
theorem dX2_weighTreaty_14 : decode cX2_weighTreaty 14 = .ok (.iload_n 2, 1) := by decide +kernel
theorem dX2_weighTreaty_15 : decode cX2_weighTreaty 15 = .ok (.iload_n 3, 1) := by decide +kernel
theorem dX2_weighTreaty_16 : decode cX2_weighTreaty 16 = .ok (.iload_n 1, 1) := by decide +kernel
theorem dX2_weighTreaty_17 : decode cX2_weighTreaty 17 = .ok (.invokevirtual 140, 3) := by decide +kernel
theorem dX2_weighTreaty_20 : decode cX2_weighTreaty 20 = .ok (.iastore, 1) := by decide +kernel
theorem dX2_weighTreaty_21 : decode cX2_weighTreaty 21 = .ok (.aload_n 0, 1) := by decide +kernel
theorem dX2_weighTreaty_22 : decode cX2_weighTreaty 22 = .ok (.getfield 25, 3) := by decide +kernel
theorem dX2_weighTreaty_25 : decode cX2_weighTreaty 25 = .ok (.iload_n 3, 1) := by decide +kernel
theorem dX2_weighTreaty_26 : decode cX2_weighTreaty 26 = .ok (.aload_n 0, 1) := by decide +kernel
theorem dX2_weighTreaty_27 : decode cX2_weighTreaty 27 = .ok (.iload_n 1, 1) := by decide +kernel
theorem dX2_weighTreaty_28 : decode cX2_weighTreaty 28 = .ok (.iload_n 2, 1) := by decide +kernel
theorem dX2_weighTreaty_29 : decode cX2_weighTreaty 29 = .ok (.iload_n 3, 1) := by decide +kernel
theorem dX2_weighTreaty_30 : decode cX2_weighTreaty 30 = .ok (.iload_n 2, 1) := by decide +kernel
theorem dX2_weighTreaty_31 : decode cX2_weighTreaty 31 = .ok (.invokevirtual 140, 3) := by decide +kernel
theorem dX2_weighTreaty_34 : decode cX2_weighTreaty 34 = .ok (.iastore, 1) := by decide +kernel
theorem dX2_weighTreaty_35 : decode cX2_weighTreaty 35 = .ok (.iinc 3 1, 3) := by decide +kernel
theorem dX2_weighTreaty_38 : decode cX2_weighTreaty 38 = .ok (.goto (-36), 3) := by decide +kernel
theorem dX2_weighTreaty_41 : decode cX2_weighTreaty 41 = .ok (.return_, 1) := by decide +kernel
set_option maxRecDepth 20000 in
theorem ggX2_timesByTreaty_X2_asNow : GoodIn wsX2_timesByTreaty wsX2_asNow := goodIn_r _ [5, 6, 7, 8, 9, 10, 11, 12, 13, 14, 15, 16, 17, 18, 19, 20, 21, 22, 23, 24, 25, 26, 95, 96, 97, 98, 99, 100, 101, 102, 103, 104, 105, 106, 107, 108, 109] (by decide +kernel) (by decide +kernel)
set_option maxRecDepth 20000 in
theorem gX2_timesByTreaty_X2_asNow : GoodIn wsX2_timesByTreaty (wsV RX2 32 RX2 yX2_asNow wsX2_asNow) := goodIn_app (goodIn_of _ (by decide +kernel)) ggX2_timesByTreaty_X2_asNow
set_option maxRecDepth 20000 in
theorem ggX2_timesByTreaty_X0_setQuiet : GoodIn wsX2_timesByTreaty wsX0_setQuiet := goodIn_r _ [29, 21, 99, 100, 101, 102, 103, 104, 105, 106, 107, 108, 109] (by decide +kernel) (by decide +kernel)
set_option maxRecDepth 20000 in
theorem gX2_timesByTreaty_X0_setQuiet_n144 : GoodIn wsX2_timesByTreaty (wsX0_setQuiet) := ggX2_timesByTreaty_X0_setQuiet
set_option maxRecDepth 20000 in
theorem ggX2_timesByTreaty_X2_timesFromHere : GoodIn wsX2_timesByTreaty wsX2_timesFromHere := goodIn_r _ [33, 6, 34, 9, 35, 36, 25, 23, 26, 20, 37, 38, 39, 40, 41, 42, 43, 44, 22, 45, 46, 47, 48, 19, 49, 50, 51, 52, 21, 53, 54, 55, 56, 18, 57, 58, 59, 60, 12, 17, 61, 62, 63, 64, 65, 66, 67, 68, 69, 70, 71, 72, 73, 74, 75, 76, 77, 78, 79, 24, 80, 81, 82, 83, 84, 85, 86, 87, 88, 89, 90, 91, 92, 93, 94, 95, 96, 97, 98, 99, 100, 101, 102, 103, 104, 105, 106, 107, 108, 109] (by decide +kernel) (by decide +kernel)
set_option maxRecDepth 20000 in
theorem gX2_timesByTreaty_X2_timesFromHere : GoodIn wsX2_timesByTreaty (wsV RX2 48 RX2 yX2_timesFromHere wsX2_timesFromHere) := goodIn_app (goodIn_of _ (by decide +kernel)) ggX2_timesByTreaty_X2_timesFromHere
theorem dX2_timesByTreaty_0 : decode cX2_timesByTreaty 0 = .ok (.aload_n 0, 1) := by decide +kernel
theorem dX2_timesByTreaty_1 : decode cX2_timesByTreaty 1 = .ok (.invokevirtual 32, 3) := by decide +kernel
theorem dX2_timesByTreaty_4 : decode cX2_timesByTreaty 4 = .ok (.astore 5, 2) := by decide +kernel
theorem dX2_timesByTreaty_6 : decode cX2_timesByTreaty 6 = .ok (.aload 5, 2) := by decide +kernel
theorem dX2_timesByTreaty_8 : decode cX2_timesByTreaty 8 = .ok (.iload_n 1, 1) := by decide +kernel
theorem dX2_timesByTreaty_9 : decode cX2_timesByTreaty 9 = .ok (.iload_n 3, 1) := by decide +kernel
theorem dX2_timesByTreaty_10 : decode cX2_timesByTreaty 10 = .ok (.iconst 2, 1) := by decide +kernel
theorem dX2_timesByTreaty_11 : decode cX2_timesByTreaty 11 = .ok (.idiv, 1) := by decide +kernel
theorem dX2_timesByTreaty_12 : decode cX2_timesByTreaty 12 = .ok (.ifCond .ne 7, 3) := by decide +kernel
theorem dX2_timesByTreaty_15 : decode cX2_timesByTreaty 15 = .ok (.iconst 1, 1) := by decide +kernel
theorem dX2_timesByTreaty_16 : decode cX2_timesByTreaty 16 = .ok (.goto 4, 3) := by decide +kernel
theorem dX2_timesByTreaty_19 : decode cX2_timesByTreaty 19 = .ok (.iconst 0, 1) := by decide +kernel
theorem dX2_timesByTreaty_20 : decode cX2_timesByTreaty 20 = .ok (.invokevirtual 144, 3) := by decide +kernel
theorem dX2_timesByTreaty_23 : decode cX2_timesByTreaty 23 = .ok (.aload 5, 2) := by decide +kernel
theorem dX2_timesByTreaty_25 : decode cX2_timesByTreaty 25 = .ok (.iload_n 2, 1) := by decide +kernel
theorem dX2_timesByTreaty_26 : decode cX2_timesByTreaty 26 = .ok (.iload_n 3, 1) := by decide +kernel
theorem dX2_timesByTreaty_27 : decode cX2_timesByTreaty 27 = .ok (.iconst 2, 1) := by decide +kernel
theorem dX2_timesByTreaty_28 : decode cX2_timesByTreaty 28 = .ok (.irem, 1) := by decide +kernel
theorem dX2_timesByTreaty_29 : decode cX2_timesByTreaty 29 = .ok (.ifCond .ne 7, 3) := by decide +kernel
theorem dX2_timesByTreaty_32 : decode cX2_timesByTreaty 32 = .ok (.iconst 1, 1) := by decide +kernel
theorem dX2_timesByTreaty_33 : decode cX2_timesByTreaty 33 = .ok (.goto 4, 3) := by decide +kernel
theorem dX2_timesByTreaty_36 : decode cX2_timesByTreaty 36 = .ok (.iconst 0, 1) := by decide +kernel
theorem dX2_timesByTreaty_37 : decode cX2_timesByTreaty 37 = .ok (.invokevirtual 144, 3) := by decide +kernel
theorem dX2_timesByTreaty_40 : decode cX2_timesByTreaty 40 = .ok (.aload_n 0, 1) := by decide +kernel
theorem dX2_timesByTreaty_41 : decode cX2_timesByTreaty 41 = .ok (.iload 4, 2) := by decide +kernel
theorem dX2_timesByTreaty_43 : decode cX2_timesByTreaty 43 = .ok (.bipush 12, 2) := by decide +kernel
theorem dX2_timesByTreaty_45 : decode cX2_timesByTreaty 45 = .ok (.invokevirtual 48, 3) := by decide +kernel
theorem dX2_timesByTreaty_48 : decode cX2_timesByTreaty 48 = .ok (.ireturn, 1) := by decide +kernel
theorem dX2_isSettled_0 : decode cX2_isSettled 0 = .ok (.aload_n 0, 1) := by decide +kernel
theorem dX2_isSettled_1 : decode cX2_isSettled 1 = .ok (.getfield 21, 3) := by decide +kernel
theorem dX2_isSettled_4 : decode cX2_isSettled 4 = .ok (.iload_n 1, 1) := by decide +kernel
theorem dX2_isSettled_5 : decode cX2_isSettled 5 = .ok (.iaload, 1) := by decide +kernel
theorem dX2_isSettled_6 : decode cX2_isSettled 6 = .ok (.aload_n 0, 1) := by decide +kernel
theorem dX2_isSettled_7 : decode cX2_isSettled 7 = .ok (.getfield 21, 3) := by decide +kernel
theorem dX2_isSettled_10 : decode cX2_isSettled 10 = .ok (.iload_n 1, 1) := by decide +kernel
theorem dX2_isSettled_11 : decode cX2_isSettled 11 = .ok (.iconst 2, 1) := by decide +kernel
theorem dX2_isSettled_12 : decode cX2_isSettled 12 = .ok (.ixor, 1) := by decide +kernel
theorem dX2_isSettled_13 : decode cX2_isSettled 13 = .ok (.iaload, 1) := by decide +kernel
theorem dX2_isSettled_14 : decode cX2_isSettled 14 = .ok (.if_icmp .lt 24, 3) := by decide +kernel
theorem dX2_isSettled_17 : decode cX2_isSettled 17 = .ok (.aload_n 0, 1) := by decide +kernel
theorem dX2_isSettled_18 : decode cX2_isSettled 18 = .ok (.getfield 25, 3) := by decide +kernel
theorem dX2_isSettled_21 : decode cX2_isSettled 21 = .ok (.iload_n 1, 1) := by decide +kernel
theorem dX2_isSettled_22 : decode cX2_isSettled 22 = .ok (.iaload, 1) := by decide +kernel
theorem dX2_isSettled_23 : decode cX2_isSettled 23 = .ok (.aload_n 0, 1) := by decide +kernel
theorem dX2_isSettled_24 : decode cX2_isSettled 24 = .ok (.getfield 25, 3) := by decide +kernel
theorem dX2_isSettled_27 : decode cX2_isSettled 27 = .ok (.iload_n 1, 1) := by decide +kernel
theorem dX2_isSettled_28 : decode cX2_isSettled 28 = .ok (.iconst 1, 1) := by decide +kernel
theorem dX2_isSettled_29 : decode cX2_isSettled 29 = .ok (.ixor, 1) := by decide +kernel
theorem dX2_isSettled_30 : decode cX2_isSettled 30 = .ok (.iaload, 1) := by decide +kernel
theorem dX2_isSettled_31 : decode cX2_isSettled 31 = .ok (.if_icmp .lt 7, 3) := by decide +kernel
theorem dX2_isSettled_34 : decode cX2_isSettled 34 = .ok (.iconst 1, 1) := by decide +kernel
theorem dX2_isSettled_35 : decode cX2_isSettled 35 = .ok (.goto 4, 3) := by decide +kernel
theorem dX2_isSettled_38 : decode cX2_isSettled 38 = .ok (.iconst 0, 1) := by decide +kernel
theorem dX2_isSettled_39 : decode cX2_isSettled 39 = .ok (.ireturn, 1) := by decide +kernel
set_option maxRecDepth 20000 in
theorem ggX2_firstSettled_X2_isSettled : GoodIn wsX2_firstSettled wsX2_isSettled := goodIn_r _ [5, 6, 7, 8, 9, 10, 11] (by decide +kernel) (by decide +kernel)
set_option maxRecDepth 20000 in
theorem gX2_firstSettled_X2_isSettled : GoodIn wsX2_firstSettled (wsV RX2 148 RX2 yX2_isSettled wsX2_isSettled) := goodIn_app (goodIn_of _ (by decide +kernel)) ggX2_firstSettled_X2_isSettled
theorem dX2_firstSettled_0 : decode cX2_firstSettled 0 = .ok (.iconst 0, 1) := by decide +kernel
theorem dX2_firstSettled_1 : decode cX2_firstSettled 1 = .ok (.istore_n 1, 1) := by decide +kernel
theorem dX2_firstSettled_2 : decode cX2_firstSettled 2 = .ok (.iload_n 1, 1) := by decide +kernel
theorem dX2_firstSettled_3 : decode cX2_firstSettled 3 = .ok (.iconst 4, 1) := by decide +kernel
theorem dX2_firstSettled_4 : decode cX2_firstSettled 4 = .ok (.if_icmp .ge 28, 3) := by decide +kernel
theorem dX2_firstSettled_7 : decode cX2_firstSettled 7 = .ok (.aload_n 0, 1) := by decide +kernel
theorem dX2_firstSettled_8 : decode cX2_firstSettled 8 = .ok (.iload_n 1, 1) := by decide +kernel
theorem dX2_firstSettled_9 : decode cX2_firstSettled 9 = .ok (.invokevirtual 148, 3) := by decide +kernel
theorem dX2_firstSettled_12 : decode cX2_firstSettled 12 = .ok (.ifCond .eq 14, 3) := by decide +kernel
theorem dX2_firstSettled_15 : decode cX2_firstSettled 15 = .ok (.bipush 10, 2) := by decide +kernel
theorem dX2_firstSettled_17 : decode cX2_firstSettled 17 = .ok (.iload_n 1, 1) := by decide +kernel
theorem dX2_firstSettled_18 : decode cX2_firstSettled 18 = .ok (.iconst 2, 1) := by decide +kernel
theorem dX2_firstSettled_19 : decode cX2_firstSettled 19 = .ok (.idiv, 1) := by decide +kernel
theorem dX2_firstSettled_20 : decode cX2_firstSettled 20 = .ok (.imul, 1) := by decide +kernel
theorem dX2_firstSettled_21 : decode cX2_firstSettled 21 = .ok (.iload_n 1, 1) := by decide +kernel
theorem dX2_firstSettled_22 : decode cX2_firstSettled 22 = .ok (.iconst 2, 1) := by decide +kernel
theorem dX2_firstSettled_23 : decode cX2_firstSettled 23 = .ok (.irem, 1) := by decide +kernel
theorem dX2_firstSettled_24 : decode cX2_firstSettled 24 = .ok (.iadd, 1) := by decide +kernel
theorem dX2_firstSettled_25 : decode cX2_firstSettled 25 = .ok (.ireturn, 1) := by decide +kernel
theorem dX2_firstSettled_26 : decode cX2_firstSettled 26 = .ok (.iinc 1 1, 3) := by decide +kernel
theorem dX2_firstSettled_29 : decode cX2_firstSettled 29 = .ok (.goto (-27), 3) := by decide +kernel
theorem dX2_firstSettled_32 : decode cX2_firstSettled 32 = .ok (.bipush (-9), 2) := by decide +kernel
theorem dX2_firstSettled_34 : decode cX2_firstSettled 34 = .ok (.ireturn, 1) := by decide +kernel
set_option maxRecDepth 20000 in
theorem ggX2_thunderWays_X2_asNow : GoodIn wsX2_thunderWays wsX2_asNow := goodIn_r _ [5, 6, 7, 8, 9, 10, 11, 12, 13, 14, 15, 16, 17, 18, 19, 20, 21, 22, 23, 24, 25, 26, 88, 89, 90, 91, 92, 93, 94, 95, 96, 97, 98, 99, 100, 101, 102] (by decide +kernel) (by decide +kernel)
set_option maxRecDepth 20000 in
theorem gX2_thunderWays_X2_asNow : GoodIn wsX2_thunderWays (wsV RX2 32 RX2 yX2_asNow wsX2_asNow) := goodIn_app (goodIn_of _ (by decide +kernel)) ggX2_thunderWays_X2_asNow
set_option maxRecDepth 20000 in
theorem ggX2_thunderWays_X0_passHour : GoodIn wsX2_thunderWays wsX0_passHour := goodIn_r _ [29, 25, 23, 26, 20, 30, 31, 32, 33, 34, 35, 36, 9, 37, 22, 38, 39, 40, 41, 19, 42, 43, 44, 45, 21, 46, 47, 48, 49, 18, 50, 51, 52, 53, 12, 17, 54, 55, 56, 57, 58, 59, 60, 61, 62, 63, 64, 65, 66, 67, 68, 69, 70, 71, 72, 24, 73, 74, 75, 76, 77, 78, 79, 80, 81, 82, 83, 84, 85, 86, 87, 92, 93, 94, 95, 96, 97, 98, 99, 100, 101, 102] (by decide +kernel) (by decide +kernel)
set_option maxRecDepth 20000 in
theorem gX2_thunderWays_X0_passHour_n40 : GoodIn wsX2_thunderWays (wsX0_passHour) := ggX2_thunderWays_X0_passHour
set_option maxRecDepth 20000 in
theorem ggX2_thunderWays_X0_hasIsle : GoodIn wsX2_thunderWays wsX0_hasIsle := goodIn_r _ [49, 18, 23, 92, 93, 94, 95, 96, 97, 98, 99, 100, 101, 102] (by decide +kernel) (by decide +kernel)
set_option maxRecDepth 20000 in
theorem gX2_thunderWays_X0_hasIsle_n44 : GoodIn wsX2_thunderWays (wsX0_hasIsle) := ggX2_thunderWays_X0_hasIsle
theorem dX2_thunderWays_0 : decode cX2_thunderWays 0 = .ok (.lconst 0, 1) := by decide +kernel
theorem dX2_thunderWays_1 : decode cX2_thunderWays 1 = .ok (.lstore 4, 2) := by decide +kernel
theorem dX2_thunderWays_3 : decode cX2_thunderWays 3 = .ok (.iconst 0, 1) := by decide +kernel
theorem dX2_thunderWays_4 : decode cX2_thunderWays 4 = .ok (.istore 6, 2) := by decide +kernel
theorem dX2_thunderWays_6 : decode cX2_thunderWays 6 = .ok (.iload 6, 2) := by decide +kernel
theorem dX2_thunderWays_8 : decode cX2_thunderWays 8 = .ok (.iconst 1, 1) := by decide +kernel
theorem dX2_thunderWays_9 : decode cX2_thunderWays 9 = .ok (.iload_n 2, 1) := by decide +kernel
theorem dX2_thunderWays_10 : decode cX2_thunderWays 10 = .ok (.ishl, 1) := by decide +kernel
theorem dX2_thunderWays_11 : decode cX2_thunderWays 11 = .ok (.if_icmp .ge 96, 3) := by decide +kernel
theorem dX2_thunderWays_14 : decode cX2_thunderWays 14 = .ok (.aload_n 0, 1) := by decide +kernel
theorem dX2_thunderWays_15 : decode cX2_thunderWays 15 = .ok (.invokevirtual 32, 3) := by decide +kernel
theorem dX2_thunderWays_18 : decode cX2_thunderWays 18 = .ok (.astore 7, 2) := by decide +kernel
theorem dX2_thunderWays_20 : decode cX2_thunderWays 20 = .ok (.lconst 1, 1) := by decide +kernel
theorem dX2_thunderWays_21 : decode cX2_thunderWays 21 = .ok (.lstore 8, 2) := by decide +kernel
theorem dX2_thunderWays_23 : decode cX2_thunderWays 23 = .ok (.iconst 0, 1) := by decide +kernel
theorem dX2_thunderWays_24 : decode cX2_thunderWays 24 = .ok (.istore 10, 2) := by decide +kernel
theorem dX2_thunderWays_26 : decode cX2_thunderWays 26 = .ok (.iload 10, 2) := by decide +kernel
theorem dX2_thunderWays_28 : decode cX2_thunderWays 28 = .ok (.iload_n 2, 1) := by decide +kernel
theorem dX2_thunderWays_29 : decode cX2_thunderWays 29 = .ok (.if_icmp .ge 52, 3) := by decide +kernel
theorem dX2_thunderWays_32 : decode cX2_thunderWays 32 = .ok (.iload 6, 2) := by decide +kernel
theorem dX2_thunderWays_34 : decode cX2_thunderWays 34 = .ok (.iload 10, 2) := by decide +kernel
theorem dX2_thunderWays_36 : decode cX2_thunderWays 36 = .ok (.ishr, 1) := by decide +kernel
theorem dX2_thunderWays_37 : decode cX2_thunderWays 37 = .ok (.iconst 1, 1) := by decide +kernel
theorem dX2_thunderWays_38 : decode cX2_thunderWays 38 = .ok (.iand, 1) := by decide +kernel
theorem dX2_thunderWays_39 : decode cX2_thunderWays 39 = .ok (.iconst 1, 1) := by decide +kernel
theorem dX2_thunderWays_40 : decode cX2_thunderWays 40 = .ok (.if_icmp .ne 7, 3) := by decide +kernel
theorem dX2_thunderWays_43 : decode cX2_thunderWays 43 = .ok (.iconst 1, 1) := by decide +kernel
theorem dX2_thunderWays_44 : decode cX2_thunderWays 44 = .ok (.goto 4, 3) := by decide +kernel
theorem dX2_thunderWays_47 : decode cX2_thunderWays 47 = .ok (.iconst 0, 1) := by decide +kernel
theorem dX2_thunderWays_48 : decode cX2_thunderWays 48 = .ok (.istore 11, 2) := by decide +kernel
theorem dX2_thunderWays_50 : decode cX2_thunderWays 50 = .ok (.lload 8, 2) := by decide +kernel
theorem dX2_thunderWays_52 : decode cX2_thunderWays 52 = .ok (.iload 11, 2) := by decide +kernel
theorem dX2_thunderWays_54 : decode cX2_thunderWays 54 = .ok (.ifCond .eq 7, 3) := by decide +kernel
theorem dX2_thunderWays_57 : decode cX2_thunderWays 57 = .ok (.lconst 1, 1) := by decide +kernel
theorem dX2_thunderWays_58 : decode cX2_thunderWays 58 = .ok (.goto 7, 3) := by decide +kernel
theorem dX2_thunderWays_61 : decode cX2_thunderWays 61 = .ok (.iload_n 3, 1) := by decide +kernel
theorem dX2_thunderWays_62 : decode cX2_thunderWays 62 = .ok (.iconst 1, 1) := by decide +kernel
theorem dX2_thunderWays_63 : decode cX2_thunderWays 63 = .ok (.isub, 1) := by decide +kernel
theorem dX2_thunderWays_64 : decode cX2_thunderWays 64 = .ok (.i2l, 1) := by decide +kernel
theorem dX2_thunderWays_65 : decode cX2_thunderWays 65 = .ok (.lmul, 1) := by decide +kernel
theorem dX2_thunderWays_66 : decode cX2_thunderWays 66 = .ok (.lstore 8, 2) := by decide +kernel
theorem dX2_thunderWays_68 : decode cX2_thunderWays 68 = .ok (.aload 7, 2) := by decide +kernel
theorem dX2_thunderWays_70 : decode cX2_thunderWays 70 = .ok (.iload 11, 2) := by decide +kernel
theorem dX2_thunderWays_72 : decode cX2_thunderWays 72 = .ok (.invokevirtual 40, 3) := by decide +kernel
theorem dX2_thunderWays_75 : decode cX2_thunderWays 75 = .ok (.iinc 10 1, 3) := by decide +kernel
theorem dX2_thunderWays_78 : decode cX2_thunderWays 78 = .ok (.goto (-52), 3) := by decide +kernel
theorem dX2_thunderWays_81 : decode cX2_thunderWays 81 = .ok (.lload 4, 2) := by decide +kernel
theorem dX2_thunderWays_83 : decode cX2_thunderWays 83 = .ok (.aload 7, 2) := by decide +kernel
theorem dX2_thunderWays_85 : decode cX2_thunderWays 85 = .ok (.iload_n 1, 1) := by decide +kernel
theorem dX2_thunderWays_86 : decode cX2_thunderWays 86 = .ok (.invokevirtual 44, 3) := by decide +kernel
theorem dX2_thunderWays_89 : decode cX2_thunderWays 89 = .ok (.ifCond .eq 8, 3) := by decide +kernel
theorem dX2_thunderWays_92 : decode cX2_thunderWays 92 = .ok (.lload 8, 2) := by decide +kernel
theorem dX2_thunderWays_94 : decode cX2_thunderWays 94 = .ok (.goto 4, 3) := by decide +kernel
theorem dX2_thunderWays_97 : decode cX2_thunderWays 97 = .ok (.lconst 0, 1) := by decide +kernel
theorem dX2_thunderWays_98 : decode cX2_thunderWays 98 = .ok (.ladd, 1) := by decide +kernel
theorem dX2_thunderWays_99 : decode cX2_thunderWays 99 = .ok (.lstore 4, 2) := by decide +kernel
theorem dX2_thunderWays_101 : decode cX2_thunderWays 101 = .ok (.iinc 6 1, 3) := by decide +kernel
theorem dX2_thunderWays_104 : decode cX2_thunderWays 104 = .ok (.goto (-98), 3) := by decide +kernel
theorem dX2_thunderWays_107 : decode cX2_thunderWays 107 = .ok (.lload 4, 2) := by decide +kernel
theorem dX2_thunderWays_109 : decode cX2_thunderWays 109 = .ok (.lreturn, 1) := by decide +kernel
set_option maxRecDepth 20000 in
theorem ggX2_drawLots_X2_layOut : GoodIn wsX2_drawLots wsX2_layOut := goodIn_r _ [7, 8, 9, 10, 6, 11, 1, 2, 12, 13, 14, 15, 16, 17, 18, 19, 20, 21, 22, 23, 24, 25, 26, 27, 28, 29, 30, 31, 32, 33, 34, 35, 36, 37, 38, 39, 40, 41, 114, 115, 116, 117, 118, 119, 120, 121, 122, 123, 124, 110, 111, 112, 113] (by decide +kernel) (by decide +kernel)
set_option maxRecDepth 20000 in
theorem gX2_drawLots_X2_layOut : GoodIn wsX2_drawLots (wsV RX2 151 RX2 yX2_layOut wsX2_layOut) := goodIn_app (goodIn_of _ (by decide +kernel)) ggX2_drawLots_X2_layOut
set_option maxRecDepth 20000 in
theorem ggX2_drawLots_X0_passHours : GoodIn wsX2_drawLots wsX0_passHours := goodIn_r _ [44, 45, 46, 47, 13, 48, 29, 27, 30, 24, 49, 50, 51, 52, 53, 54, 55, 56, 26, 57, 58, 59, 60, 23, 61, 62, 63, 64, 25, 65, 66, 67, 68, 22, 69, 70, 71, 72, 16, 21, 73, 74, 75, 76, 77, 78, 79, 80, 81, 82, 83, 84, 85, 86, 87, 88, 89, 90, 91, 28, 92, 93, 94, 95, 96, 97, 98, 99, 100, 101, 102, 103, 104, 105, 106, 114, 115, 116, 117, 118, 119, 120, 121, 122, 123, 124] (by decide +kernel) (by decide +kernel)
set_option maxRecDepth 20000 in
theorem gX2_drawLots_X0_passHours_n36 : GoodIn wsX2_drawLots (wsX0_passHours) := ggX2_drawLots_X0_passHours
set_option maxRecDepth 20000 in
theorem ggX2_drawLots_X0_joyTogether : GoodIn wsX2_drawLots wsX0_joyTogether := goodIn_r _ [109, 26, 24, 114, 115, 116, 117, 118, 119, 120, 121, 122, 123, 124] (by decide +kernel) (by decide +kernel)
set_option maxRecDepth 20000 in
theorem gX2_drawLots_X0_joyTogether_n154 : GoodIn wsX2_drawLots (wsX0_joyTogether) := ggX2_drawLots_X0_joyTogether
set_option maxRecDepth 20000 in
theorem ggX2_drawLots_X0_owner : GoodIn wsX2_drawLots wsX0_owner := goodIn_r _ [102, 27, 103, 104, 105, 13, 106, 26, 22, 114, 115, 116, 117, 118, 119, 120, 121, 122, 123, 124] (by decide +kernel) (by decide +kernel)
set_option maxRecDepth 20000 in
theorem gX2_drawLots_X0_owner_n52 : GoodIn wsX2_drawLots (wsX0_owner) := ggX2_drawLots_X0_owner
theorem dX2_drawLots_0 : decode cX2_drawLots 0 = .ok (.iload_n 2, 1) := by decide +kernel
theorem dX2_drawLots_1 : decode cX2_drawLots 1 = .ok (.istore 4, 2) := by decide +kernel
theorem dX2_drawLots_3 : decode cX2_drawLots 3 = .ok (.iconst 0, 1) := by decide +kernel
theorem dX2_drawLots_4 : decode cX2_drawLots 4 = .ok (.istore 5, 2) := by decide +kernel
theorem dX2_drawLots_6 : decode cX2_drawLots 6 = .ok (.iconst 0, 1) := by decide +kernel
theorem dX2_drawLots_7 : decode cX2_drawLots 7 = .ok (.istore 6, 2) := by decide +kernel
theorem dX2_drawLots_9 : decode cX2_drawLots 9 = .ok (.iconst 0, 1) := by decide +kernel
theorem dX2_drawLots_10 : decode cX2_drawLots 10 = .ok (.istore 7, 2) := by decide +kernel
theorem dX2_drawLots_12 : decode cX2_drawLots 12 = .ok (.iload 7, 2) := by decide +kernel
theorem dX2_drawLots_14 : decode cX2_drawLots 14 = .ok (.iload_n 1, 1) := by decide +kernel
theorem dX2_drawLots_15 : decode cX2_drawLots 15 = .ok (.if_icmp .ge 68, 3) := by decide +kernel
theorem dX2_drawLots_18 : decode cX2_drawLots 18 = .ok (.aload_n 0, 1) := by decide +kernel
theorem dX2_drawLots_19 : decode cX2_drawLots 19 = .ok (.iload 4, 2) := by decide +kernel
theorem dX2_drawLots_21 : decode cX2_drawLots 21 = .ok (.invokevirtual 151, 3) := by decide +kernel
theorem dX2_drawLots_24 : decode cX2_drawLots 24 = .ok (.istore 4, 2) := by decide +kernel
theorem dX2_drawLots_26 : decode cX2_drawLots 26 = .ok (.aload_n 0, 1) := by decide +kernel
theorem dX2_drawLots_27 : decode cX2_drawLots 27 = .ok (.getfield 18, 3) := by decide +kernel
theorem dX2_drawLots_30 : decode cX2_drawLots 30 = .ok (.bipush 24, 2) := by decide +kernel
theorem dX2_drawLots_32 : decode cX2_drawLots 32 = .ok (.invokevirtual 36, 3) := by decide +kernel
theorem dX2_drawLots_35 : decode cX2_drawLots 35 = .ok (.iload 5, 2) := by decide +kernel
theorem dX2_drawLots_37 : decode cX2_drawLots 37 = .ok (.aload_n 0, 1) := by decide +kernel
theorem dX2_drawLots_38 : decode cX2_drawLots 38 = .ok (.getfield 18, 3) := by decide +kernel
theorem dX2_drawLots_41 : decode cX2_drawLots 41 = .ok (.invokevirtual 154, 3) := by decide +kernel
theorem dX2_drawLots_44 : decode cX2_drawLots 44 = .ok (.aload_n 0, 1) := by decide +kernel
theorem dX2_drawLots_45 : decode cX2_drawLots 45 = .ok (.getfield 12, 3) := by decide +kernel
theorem dX2_drawLots_48 : decode cX2_drawLots 48 = .ok (.invokevirtual 154, 3) := by decide +kernel
theorem dX2_drawLots_51 : decode cX2_drawLots 51 = .ok (.isub, 1) := by decide +kernel
theorem dX2_drawLots_52 : decode cX2_drawLots 52 = .ok (.iadd, 1) := by decide +kernel
theorem dX2_drawLots_53 : decode cX2_drawLots 53 = .ok (.istore 5, 2) := by decide +kernel
theorem dX2_drawLots_55 : decode cX2_drawLots 55 = .ok (.iload 6, 2) := by decide +kernel
theorem dX2_drawLots_57 : decode cX2_drawLots 57 = .ok (.aload_n 0, 1) := by decide +kernel
theorem dX2_drawLots_58 : decode cX2_drawLots 58 = .ok (.getfield 18, 3) := by decide +kernel
theorem dX2_drawLots_61 : decode cX2_drawLots 61 = .ok (.invokevirtual 52, 3) := by decide +kernel
theorem dX2_drawLots_64 : decode cX2_drawLots 64 = .ok (.bipush (-9), 2) := by decide +kernel
theorem dX2_drawLots_66 : decode cX2_drawLots 66 = .ok (.if_icmp .eq 7, 3) := by decide +kernel
theorem dX2_drawLots_69 : decode cX2_drawLots 69 = .ok (.iconst 1, 1) := by decide +kernel
theorem dX2_drawLots_70 : decode cX2_drawLots 70 = .ok (.goto 4, 3) := by decide +kernel
theorem dX2_drawLots_73 : decode cX2_drawLots 73 = .ok (.iconst 0, 1) := by decide +kernel
theorem dX2_drawLots_74 : decode cX2_drawLots 74 = .ok (.iadd, 1) := by decide +kernel
theorem dX2_drawLots_75 : decode cX2_drawLots 75 = .ok (.istore 6, 2) := by decide +kernel
theorem dX2_drawLots_77 : decode cX2_drawLots 77 = .ok (.iinc 7 1, 3) := by decide +kernel
theorem dX2_drawLots_80 : decode cX2_drawLots 80 = .ok (.goto (-68), 3) := by decide +kernel
theorem dX2_drawLots_83 : decode cX2_drawLots 83 = .ok (.iload_n 3, 1) := by decide +kernel
theorem dX2_drawLots_84 : decode cX2_drawLots 84 = .ok (.ifCond .ne 8, 3) := by decide +kernel
theorem dX2_drawLots_87 : decode cX2_drawLots 87 = .ok (.iload 5, 2) := by decide +kernel
theorem dX2_drawLots_89 : decode cX2_drawLots 89 = .ok (.goto 5, 3) := by decide +kernel
theorem dX2_drawLots_92 : decode cX2_drawLots 92 = .ok (.iload 6, 2) := by decide +kernel
theorem dX2_drawLots_94 : decode cX2_drawLots 94 = .ok (.ireturn, 1) := by decide +kernel
set_option maxRecDepth 20000 in
theorem ggX2_layOut_X2_asNow : GoodIn wsX2_layOut wsX2_asNow := goodIn_r _ [5, 6, 7, 8, 9, 10, 11, 12, 13, 14, 15, 16, 17, 18, 19, 20, 21, 22, 23, 24, 25, 26, 49, 50, 51, 52, 38, 39, 40, 41, 42, 43, 44, 45, 46, 47, 48] (by decide +kernel) (by decide +kernel)
set_option maxRecDepth 20000 in
theorem gX2_layOut_X2_asNow : GoodIn wsX2_layOut (wsV RX2 32 RX2 yX2_asNow wsX2_asNow) := goodIn_app (goodIn_of _ (by decide +kernel)) ggX2_layOut_X2_asNow
set_option maxRecDepth 20000 in
theorem ggX2_layOut_X2_nextSeed : GoodIn wsX2_layOut wsX2_nextSeed := goodIn_r _ [29, 30] (by decide +kernel) (by decide +kernel)
set_option maxRecDepth 20000 in
theorem gX2_layOut_X2_nextSeed : GoodIn wsX2_layOut (va_wsS RX2 157 yX2_nextSeed wsX2_nextSeed) := goodIn_app (goodIn_of _ (by decide +kernel)) ggX2_layOut_X2_nextSeed
set_option maxRecDepth 20000 in
theorem ggX2_layOut_X2_drawn : GoodIn wsX2_layOut wsX2_drawn := goodIn_r _ [33, 34] (by decide +kernel) (by decide +kernel)
set_option maxRecDepth 20000 in
theorem gX2_layOut_X2_drawn : GoodIn wsX2_layOut (va_wsS RX2 160 yX2_drawn wsX2_drawn) := goodIn_app (goodIn_of _ (by decide +kernel)) ggX2_layOut_X2_drawn
set_option maxRecDepth 20000 in
theorem ggX2_layOut_X0_setQuiet : GoodIn wsX2_layOut wsX0_setQuiet := goodIn_r _ [37, 21, 38, 39, 40, 41, 42, 43, 44, 45, 46, 47, 48] (by decide +kernel) (by decide +kernel)
set_option maxRecDepth 20000 in
theorem gX2_layOut_X0_setQuiet_n144 : GoodIn wsX2_layOut (wsX0_setQuiet) := ggX2_layOut_X0_setQuiet
theorem dX2_layOut_0 : decode cX2_layOut 0 = .ok (.aload_n 0, 1) := by decide +kernel
theorem dX2_layOut_1 : decode cX2_layOut 1 = .ok (.invokevirtual 32, 3) := by decide +kernel
theorem dX2_layOut_4 : decode cX2_layOut 4 = .ok (.astore_n 2, 1) := by decide +kernel
theorem dX2_layOut_5 : decode cX2_layOut 5 = .ok (.iload_n 1, 1) := by decide +kernel
theorem dX2_layOut_6 : decode cX2_layOut 6 = .ok (.invokestatic 157, 3) := by decide +kernel
theorem dX2_layOut_9 : decode cX2_layOut 9 = .ok (.istore_n 3, 1) := by decide +kernel
theorem dX2_layOut_10 : decode cX2_layOut 10 = .ok (.aload_n 2, 1) := by decide +kernel
theorem dX2_layOut_11 : decode cX2_layOut 11 = .ok (.iload_n 3, 1) := by decide +kernel
theorem dX2_layOut_12 : decode cX2_layOut 12 = .ok (.bipush 31, 2) := by decide +kernel
theorem dX2_layOut_14 : decode cX2_layOut 14 = .ok (.invokestatic 160, 3) := by decide +kernel
theorem dX2_layOut_17 : decode cX2_layOut 17 = .ok (.putfield 64, 3) := by decide +kernel
theorem dX2_layOut_20 : decode cX2_layOut 20 = .ok (.iconst 0, 1) := by decide +kernel
theorem dX2_layOut_21 : decode cX2_layOut 21 = .ok (.istore 4, 2) := by decide +kernel
theorem dX2_layOut_23 : decode cX2_layOut 23 = .ok (.iload 4, 2) := by decide +kernel
theorem dX2_layOut_25 : decode cX2_layOut 25 = .ok (.aload_n 2, 1) := by decide +kernel
theorem dX2_layOut_26 : decode cX2_layOut 26 = .ok (.getfield 56, 3) := by decide +kernel
theorem dX2_layOut_29 : decode cX2_layOut 29 = .ok (.if_icmp .ge 33, 3) := by decide +kernel
theorem dX2_layOut_32 : decode cX2_layOut 32 = .ok (.iload_n 3, 1) := by decide +kernel
theorem dX2_layOut_33 : decode cX2_layOut 33 = .ok (.invokestatic 157, 3) := by decide +kernel
theorem dX2_layOut_36 : decode cX2_layOut 36 = .ok (.istore_n 3, 1) := by decide +kernel
theorem dX2_layOut_37 : decode cX2_layOut 37 = .ok (.aload_n 2, 1) := by decide +kernel
theorem dX2_layOut_38 : decode cX2_layOut 38 = .ok (.iload 4, 2) := by decide +kernel
theorem dX2_layOut_40 : decode cX2_layOut 40 = .ok (.iload_n 3, 1) := by decide +kernel
theorem dX2_layOut_41 : decode cX2_layOut 41 = .ok (.iconst 4, 1) := by decide +kernel
theorem dX2_layOut_42 : decode cX2_layOut 42 = .ok (.invokestatic 160, 3) := by decide +kernel
theorem dX2_layOut_45 : decode cX2_layOut 45 = .ok (.ifCond .ne 7, 3) := by decide +kernel
theorem dX2_layOut_48 : decode cX2_layOut 48 = .ok (.iconst 1, 1) := by decide +kernel
theorem dX2_layOut_49 : decode cX2_layOut 49 = .ok (.goto 4, 3) := by decide +kernel
theorem dX2_layOut_52 : decode cX2_layOut 52 = .ok (.iconst 0, 1) := by decide +kernel
theorem dX2_layOut_53 : decode cX2_layOut 53 = .ok (.invokevirtual 144, 3) := by decide +kernel
theorem dX2_layOut_56 : decode cX2_layOut 56 = .ok (.iinc 4 1, 3) := by decide +kernel
theorem dX2_layOut_59 : decode cX2_layOut 59 = .ok (.goto (-36), 3) := by decide +kernel
theorem dX2_layOut_62 : decode cX2_layOut 62 = .ok (.iload_n 3, 1) := by decide +kernel
