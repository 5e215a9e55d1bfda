theorem dX5_newShore_41 : decode cX5_newShore 41 = .ok (.aload_n 0, 1) := by decide +kernel
theorem dX5_newShore_42 : decode cX5_newShore 42 = .ok (.getfield 67, 3) := by decide +kernel
theorem dX5_newShore_45 : decode cX5_newShore 45 = .ok (.bipush 7, 2) := by decide +kernel
theorem dX5_newShore_47 : decode cX5_newShore 47 = .ok (.if_icmp .ne 6, 3) := by decide +kernel
theorem dX5_newShore_50 : decode cX5_newShore 50 = .ok (.bipush (-9), 2) := by decide +kernel
theorem dX5_newShore_52 : decode cX5_newShore 52 = .ok (.ireturn, 1) := by decide +kernel
theorem dX5_newShore_53 : decode cX5_newShore 53 = .ok (.bipush (-9), 2) := by decide +kernel
theorem dX5_newShore_55 : decode cX5_newShore 55 = .ok (.istore 5, 2) := by decide +kernel
theorem dX5_newShore_57 : decode cX5_newShore 57 = .ok (.bipush (-9), 2) := by decide +kernel
theorem dX5_newShore_59 : decode cX5_newShore 59 = .ok (.istore 6, 2) := by decide +kernel
theorem dX5_newShore_61 : decode cX5_newShore 61 = .ok (.iconst 0, 1) := by decide +kernel
theorem dX5_newShore_62 : decode cX5_newShore 62 = .ok (.istore 7, 2) := by decide +kernel
theorem dX5_newShore_64 : decode cX5_newShore 64 = .ok (.iload 7, 2) := by decide +kernel
theorem dX5_newShore_66 : decode cX5_newShore 66 = .ok (.bipush 30, 2) := by decide +kernel
theorem dX5_newShore_68 : decode cX5_newShore 68 = .ok (.if_icmp .gt 51, 3) := by decide +kernel
theorem dX5_newShore_71 : decode cX5_newShore 71 = .ok (.aload_n 0, 1) := by decide +kernel
theorem dX5_newShore_72 : decode cX5_newShore 72 = .ok (.iload 7, 2) := by decide +kernel
theorem dX5_newShore_74 : decode cX5_newShore 74 = .ok (.invokevirtual 106, 3) := by decide +kernel
theorem dX5_newShore_77 : decode cX5_newShore 77 = .ok (.ifCond .lt 8, 3) := by decide +kernel
theorem dX5_newShore_80 : decode cX5_newShore 80 = .ok (.bipush (-9), 2) := by decide +kernel
theorem dX5_newShore_82 : decode cX5_newShore 82 = .ok (.goto 11, 3) := by decide +kernel
theorem dX5_newShore_85 : decode cX5_newShore 85 = .ok (.aload_n 0, 1) := by decide +kernel
theorem dX5_newShore_86 : decode cX5_newShore 86 = .ok (.iload_n 1, 1) := by decide +kernel
theorem dX5_newShore_87 : decode cX5_newShore 87 = .ok (.iload 7, 2) := by decide +kernel
theorem dX5_newShore_89 : decode cX5_newShore 89 = .ok (.iload_n 2, 1) := by decide +kernel
theorem dX5_newShore_90 : decode cX5_newShore 90 = .ok (.invokevirtual 247, 3) := by decide +kernel
theorem dX5_newShore_93 : decode cX5_newShore 93 = .ok (.istore 8, 2) := by decide +kernel
theorem dX5_newShore_95 : decode cX5_newShore 95 = .ok (.iload 8, 2) := by decide +kernel
theorem dX5_newShore_97 : decode cX5_newShore 97 = .ok (.iload 6, 2) := by decide +kernel
theorem dX5_newShore_99 : decode cX5_newShore 99 = .ok (.if_icmp .gt 6, 3) := by decide +kernel
theorem dX5_newShore_102 : decode cX5_newShore 102 = .ok (.goto 11, 3) := by decide +kernel
theorem dX5_newShore_105 : decode cX5_newShore 105 = .ok (.iload 7, 2) := by decide +kernel
theorem dX5_newShore_107 : decode cX5_newShore 107 = .ok (.istore 5, 2) := by decide +kernel
theorem dX5_newShore_109 : decode cX5_newShore 109 = .ok (.iload 8, 2) := by decide +kernel
theorem dX5_newShore_111 : decode cX5_newShore 111 = .ok (.istore 6, 2) := by decide +kernel
theorem dX5_newShore_113 : decode cX5_newShore 113 = .ok (.iinc 7 1, 3) := by decide +kernel
theorem dX5_newShore_116 : decode cX5_newShore 116 = .ok (.goto (-52), 3) := by decide +kernel
theorem dX5_newShore_119 : decode cX5_newShore 119 = .ok (.iload_n 3, 1) := by decide +kernel
theorem dX5_newShore_120 : decode cX5_newShore 120 = .ok (.ifCond .ne 8, 3) := by decide +kernel
theorem dX5_newShore_123 : decode cX5_newShore 123 = .ok (.iload 5, 2) := by decide +kernel
theorem dX5_newShore_125 : decode cX5_newShore 125 = .ok (.goto 5, 3) := by decide +kernel
theorem dX5_newShore_128 : decode cX5_newShore 128 = .ok (.iload 6, 2) := by decide +kernel
theorem dX5_newShore_130 : decode cX5_newShore 130 = .ok (.ireturn, 1) := by decide +kernel
set_option maxRecDepth 20000 in
theorem ggX5_isRowSo_X5_thinks : GoodIn wsX5_isRowSo wsX5_thinks := goodIn_r _ [8, 9, 10, 11, 7, 12, 13, 14, 15, 16, 17, 18, 19, 20, 21, 2, 22, 23, 24, 25, 26, 27, 28, 29, 30, 31, 32, 33, 86, 87, 88, 89, 90, 91, 92, 93, 94, 95, 96, 97, 98, 99, 100, 101, 102, 103, 104, 105, 106, 107, 108, 109, 110, 111, 112, 113, 114, 115, 116, 117, 118] (by decide +kernel) (by decide +kernel)
set_option maxRecDepth 20000 in
theorem gX5_isRowSo_X5_thinks : GoodIn wsX5_isRowSo (wsV RX5 210 RX5 yX5_thinks wsX5_thinks) := goodIn_app (goodIn_of _ (by decide +kernel)) ggX5_isRowSo_X5_thinks
set_option maxRecDepth 20000 in
theorem ggX5_isRowSo_X5_goesHour : GoodIn wsX5_isRowSo wsX5_goesHour := goodIn_r _ [37, 23, 20, 18, 17, 24, 19, 38, 39, 40, 7, 41, 42, 43, 44, 45, 21, 2, 46, 47, 48, 49, 50, 51, 52, 15, 16, 53, 54, 55, 56, 57, 58, 59, 60, 61, 62, 63, 64, 65, 66, 67, 68, 69, 70, 22, 71, 72, 73, 74, 75, 76, 77, 78, 79, 80, 81, 86, 87, 88, 89, 90, 91, 92, 93, 94, 95, 96, 97, 98, 99, 100, 101, 102, 103, 104, 105, 106, 107, 108, 109, 110, 111, 112, 113, 114, 115, 116, 117, 118] (by decide +kernel) (by decide +kernel)
set_option maxRecDepth 20000 in
theorem gX5_isRowSo_X5_goesHour : GoodIn wsX5_isRowSo (wsV RX5 197 RX5 yX5_goesHour wsX5_goesHour) := goodIn_app (goodIn_of _ (by decide +kernel)) ggX5_isRowSo_X5_goesHour
set_option maxRecDepth 20000 in
theorem ggX5_isRowSo_X5_forgets : GoodIn wsX5_isRowSo wsX5_forgets := goodIn_r _ [85, 9, 10, 11, 7, 12, 13, 14, 15, 16, 17, 18, 19, 20, 21, 2, 22, 23, 24, 25, 26, 27, 28, 29, 30, 31, 32, 33, 86, 87, 88, 89, 90, 91, 92, 93, 94, 95, 96, 97, 98, 99, 100, 101, 102, 103, 104, 105, 106, 107, 108, 109, 110, 111, 112, 113, 114, 115, 116, 117, 118] (by decide +kernel) (by decide +kernel)
set_option maxRecDepth 20000 in
theorem gX5_isRowSo_X5_forgets : GoodIn wsX5_isRowSo (wsV RX5 213 RX5 yX5_forgets wsX5_forgets) := goodIn_app (goodIn_of _ (by decide +kernel)) ggX5_isRowSo_X5_forgets
theorem dX5_isRowSo_0 : decode cX5_isRowSo 0 = .ok (.aload_n 0, 1) := by decide +kernel
theorem dX5_isRowSo_1 : decode cX5_isRowSo 1 = .ok (.invokevirtual 210, 3) := by decide +kernel
theorem dX5_isRowSo_4 : decode cX5_isRowSo 4 = .ok (.iconst 1, 1) := by decide +kernel
theorem dX5_isRowSo_5 : decode cX5_isRowSo 5 = .ok (.istore_n 1, 1) := by decide +kernel
theorem dX5_isRowSo_6 : decode cX5_isRowSo 6 = .ok (.iconst 0, 1) := by decide +kernel
theorem dX5_isRowSo_7 : decode cX5_isRowSo 7 = .ok (.istore_n 2, 1) := by decide +kernel
theorem dX5_isRowSo_8 : decode cX5_isRowSo 8 = .ok (.iload_n 2, 1) := by decide +kernel
theorem dX5_isRowSo_9 : decode cX5_isRowSo 9 = .ok (.aload_n 0, 1) := by decide +kernel
theorem dX5_isRowSo_10 : decode cX5_isRowSo 10 = .ok (.getfield 250, 3) := by decide +kernel
theorem dX5_isRowSo_13 : decode cX5_isRowSo 13 = .ok (.if_icmp .ge 37, 3) := by decide +kernel
theorem dX5_isRowSo_16 : decode cX5_isRowSo 16 = .ok (.iload_n 1, 1) := by decide +kernel
theorem dX5_isRowSo_17 : decode cX5_isRowSo 17 = .ok (.ifCond .eq 33, 3) := by decide +kernel
theorem dX5_isRowSo_20 : decode cX5_isRowSo 20 = .ok (.aload_n 0, 1) := by decide +kernel
theorem dX5_isRowSo_21 : decode cX5_isRowSo 21 = .ok (.getfield 55, 3) := by decide +kernel
theorem dX5_isRowSo_24 : decode cX5_isRowSo 24 = .ok (.aload_n 0, 1) := by decide +kernel
theorem dX5_isRowSo_25 : decode cX5_isRowSo 25 = .ok (.getfield 49, 3) := by decide +kernel
theorem dX5_isRowSo_28 : decode cX5_isRowSo 28 = .ok (.iload_n 2, 1) := by decide +kernel
theorem dX5_isRowSo_29 : decode cX5_isRowSo 29 = .ok (.iaload, 1) := by decide +kernel
theorem dX5_isRowSo_30 : decode cX5_isRowSo 30 = .ok (.if_icmp .ne 7, 3) := by decide +kernel
theorem dX5_isRowSo_33 : decode cX5_isRowSo 33 = .ok (.iconst 1, 1) := by decide +kernel
theorem dX5_isRowSo_34 : decode cX5_isRowSo 34 = .ok (.goto 4, 3) := by decide +kernel
theorem dX5_isRowSo_37 : decode cX5_isRowSo 37 = .ok (.iconst 0, 1) := by decide +kernel
theorem dX5_isRowSo_38 : decode cX5_isRowSo 38 = .ok (.istore_n 1, 1) := by decide +kernel
theorem dX5_isRowSo_39 : decode cX5_isRowSo 39 = .ok (.aload_n 0, 1) := by decide +kernel
theorem dX5_isRowSo_40 : decode cX5_isRowSo 40 = .ok (.iconst 0, 1) := by decide +kernel
theorem dX5_isRowSo_41 : decode cX5_isRowSo 41 = .ok (.invokevirtual 197, 3) := by decide +kernel
theorem dX5_isRowSo_44 : decode cX5_isRowSo 44 = .ok (.iinc 2 1, 3) := by decide +kernel
theorem dX5_isRowSo_47 : decode cX5_isRowSo 47 = .ok (.goto (-39), 3) := by decide +kernel
theorem dX5_isRowSo_50 : decode cX5_isRowSo 50 = .ok (.aload_n 0, 1) := by decide +kernel
theorem dX5_isRowSo_51 : decode cX5_isRowSo 51 = .ok (.invokevirtual 213, 3) := by decide +kernel
theorem dX5_isRowSo_54 : decode cX5_isRowSo 54 = .ok (.iload_n 1, 1) := by decide +kernel
theorem dX5_isRowSo_55 : decode cX5_isRowSo 55 = .ok (.ireturn, 1) := by decide +kernel
set_option maxRecDepth 20000 in
theorem ggX5_bitsFor_X5_isRowSo : GoodIn wsX5_bitsFor wsX5_isRowSo := goodIn_r _ [5, 6, 7, 8, 9, 10, 11, 4, 12, 13, 14, 15, 16, 17, 18, 19, 20, 21, 22, 23, 24, 25, 26, 27, 28, 29, 30, 31, 32, 33, 34, 35, 36, 37, 38, 39, 40, 41, 42, 43, 44, 45, 46, 47, 48, 49, 50, 51, 52, 53, 54, 55, 56, 57, 58, 59, 60, 61, 62, 63, 64, 65, 66, 67, 68, 69, 70, 71, 72, 73, 74, 75, 76, 77, 78, 79, 80, 81, 82, 83, 84, 85, 86, 87, 88, 89, 90, 91, 92, 93, 94, 95, 96, 97, 98, 99, 100, 101, 102, 103, 104, 105, 106, 107, 108, 109, 110, 111, 112, 113, 114, 115, 116, 117, 118, 119, 120, 121, 122] (by decide +kernel) (by decide +kernel)
set_option maxRecDepth 20000 in
theorem gX5_bitsFor_X5_isRowSo : GoodIn wsX5_bitsFor (wsV RX5 253 RX5 yX5_isRowSo wsX5_isRowSo) := goodIn_app (goodIn_of _ (by decide +kernel)) ggX5_bitsFor_X5_isRowSo
theorem dX5_bitsFor_0 : decode cX5_bitsFor 0 = .ok (.aload_n 1, 1) := by decide +kernel
theorem dX5_bitsFor_1 : decode cX5_bitsFor 1 = .ok (.iload_n 2, 1) := by decide +kernel
theorem dX5_bitsFor_2 : decode cX5_bitsFor 2 = .ok (.iaload, 1) := by decide +kernel
theorem dX5_bitsFor_3 : decode cX5_bitsFor 3 = .ok (.istore 4, 2) := by decide +kernel
theorem dX5_bitsFor_5 : decode cX5_bitsFor 5 = .ok (.iconst 0, 1) := by decide +kernel
theorem dX5_bitsFor_6 : decode cX5_bitsFor 6 = .ok (.istore 5, 2) := by decide +kernel
theorem dX5_bitsFor_8 : decode cX5_bitsFor 8 = .ok (.iconst 0, 1) := by decide +kernel
theorem dX5_bitsFor_9 : decode cX5_bitsFor 9 = .ok (.istore 6, 2) := by decide +kernel
theorem dX5_bitsFor_11 : decode cX5_bitsFor 11 = .ok (.iload 6, 2) := by decide +kernel
theorem dX5_bitsFor_13 : decode cX5_bitsFor 13 = .ok (.iload_n 3, 1) := by decide +kernel
theorem dX5_bitsFor_14 : decode cX5_bitsFor 14 = .ok (.if_icmp .ge 34, 3) := by decide +kernel
theorem dX5_bitsFor_17 : decode cX5_bitsFor 17 = .ok (.aload_n 1, 1) := by decide +kernel
theorem dX5_bitsFor_18 : decode cX5_bitsFor 18 = .ok (.iload_n 2, 1) := by decide +kernel
theorem dX5_bitsFor_19 : decode cX5_bitsFor 19 = .ok (.iload 6, 2) := by decide +kernel
theorem dX5_bitsFor_21 : decode cX5_bitsFor 21 = .ok (.iastore, 1) := by decide +kernel
theorem dX5_bitsFor_22 : decode cX5_bitsFor 22 = .ok (.iload 5, 2) := by decide +kernel
theorem dX5_bitsFor_24 : decode cX5_bitsFor 24 = .ok (.aload_n 0, 1) := by decide +kernel
theorem dX5_bitsFor_25 : decode cX5_bitsFor 25 = .ok (.invokevirtual 253, 3) := by decide +kernel
theorem dX5_bitsFor_28 : decode cX5_bitsFor 28 = .ok (.ifCond .eq 10, 3) := by decide +kernel
theorem dX5_bitsFor_31 : decode cX5_bitsFor 31 = .ok (.iconst 1, 1) := by decide +kernel
theorem dX5_bitsFor_32 : decode cX5_bitsFor 32 = .ok (.iload 6, 2) := by decide +kernel
theorem dX5_bitsFor_34 : decode cX5_bitsFor 34 = .ok (.ishl, 1) := by decide +kernel
theorem dX5_bitsFor_35 : decode cX5_bitsFor 35 = .ok (.goto 4, 3) := by decide +kernel
theorem dX5_bitsFor_38 : decode cX5_bitsFor 38 = .ok (.iconst 0, 1) := by decide +kernel
theorem dX5_bitsFor_39 : decode cX5_bitsFor 39 = .ok (.ior, 1) := by decide +kernel
theorem dX5_bitsFor_40 : decode cX5_bitsFor 40 = .ok (.istore 5, 2) := by decide +kernel
theorem dX5_bitsFor_42 : decode cX5_bitsFor 42 = .ok (.iinc 6 1, 3) := by decide +kernel
theorem dX5_bitsFor_45 : decode cX5_bitsFor 45 = .ok (.goto (-34), 3) := by decide +kernel
theorem dX5_bitsFor_48 : decode cX5_bitsFor 48 = .ok (.aload_n 1, 1) := by decide +kernel
theorem dX5_bitsFor_49 : decode cX5_bitsFor 49 = .ok (.iload_n 2, 1) := by decide +kernel
theorem dX5_bitsFor_50 : decode cX5_bitsFor 50 = .ok (.iload 4, 2) := by decide +kernel
theorem dX5_bitsFor_52 : decode cX5_bitsFor 52 = .ok (.iastore, 1) := by decide +kernel
theorem dX5_bitsFor_53 : decode cX5_bitsFor 53 = .ok (.iload 5, 2) := by decide +kernel
theorem dX5_bitsFor_55 : decode cX5_bitsFor 55 = .ok (.ireturn, 1) := by decide +kernel
set_option maxRecDepth 20000 in
theorem ggX5_pacesSo_X5_isRowSo : GoodIn wsX5_pacesSo wsX5_isRowSo := goodIn_r _ [6, 7, 8, 9, 10, 11, 12, 5, 13, 14, 15, 16, 17, 18, 19, 20, 21, 22, 23, 24, 25, 26, 1, 27, 28, 29, 30, 31, 32, 33, 34, 35, 36, 37, 38, 39, 40, 41, 42, 43, 44, 45, 46, 47, 48, 49, 50, 51, 52, 53, 54, 55, 56, 57, 58, 59, 60, 61, 62, 63, 64, 65, 66, 67, 68, 69, 70, 71, 72, 73, 74, 75, 76, 77, 78, 79, 80, 81, 82, 83, 84, 85, 86, 87, 88, 89, 90, 91, 92, 93, 94, 95, 96, 97, 98, 99, 100, 101, 102, 103, 104, 105, 106, 107, 108, 109, 110, 111, 112, 113, 114, 115, 116, 117, 118, 119, 120, 121, 122] (by decide +kernel) (by decide +kernel)
set_option maxRecDepth 20000 in
theorem gX5_pacesSo_X5_isRowSo : GoodIn wsX5_pacesSo (wsV RX5 253 RX5 yX5_isRowSo wsX5_isRowSo) := goodIn_app (goodIn_of _ (by decide +kernel)) ggX5_pacesSo_X5_isRowSo
theorem dX5_pacesSo_0 : decode cX5_pacesSo 0 = .ok (.aload_n 0, 1) := by decide +kernel
theorem dX5_pacesSo_1 : decode cX5_pacesSo 1 = .ok (.getfield 59, 3) := by decide +kernel
theorem dX5_pacesSo_4 : decode cX5_pacesSo 4 = .ok (.istore_n 1, 1) := by decide +kernel
theorem dX5_pacesSo_5 : decode cX5_pacesSo 5 = .ok (.iconst 0, 1) := by decide +kernel
theorem dX5_pacesSo_6 : decode cX5_pacesSo 6 = .ok (.istore_n 2, 1) := by decide +kernel
theorem dX5_pacesSo_7 : decode cX5_pacesSo 7 = .ok (.iconst 1, 1) := by decide +kernel
theorem dX5_pacesSo_8 : decode cX5_pacesSo 8 = .ok (.istore_n 3, 1) := by decide +kernel
theorem dX5_pacesSo_9 : decode cX5_pacesSo 9 = .ok (.iload_n 3, 1) := by decide +kernel
theorem dX5_pacesSo_10 : decode cX5_pacesSo 10 = .ok (.bipush 6, 2) := by decide +kernel
theorem dX5_pacesSo_12 : decode cX5_pacesSo 12 = .ok (.if_icmp .ge 31, 3) := by decide +kernel
theorem dX5_pacesSo_15 : decode cX5_pacesSo 15 = .ok (.aload_n 0, 1) := by decide +kernel
theorem dX5_pacesSo_16 : decode cX5_pacesSo 16 = .ok (.iload_n 3, 1) := by decide +kernel
theorem dX5_pacesSo_17 : decode cX5_pacesSo 17 = .ok (.putfield 59, 3) := by decide +kernel
theorem dX5_pacesSo_20 : decode cX5_pacesSo 20 = .ok (.iload_n 2, 1) := by decide +kernel
theorem dX5_pacesSo_21 : decode cX5_pacesSo 21 = .ok (.aload_n 0, 1) := by decide +kernel
theorem dX5_pacesSo_22 : decode cX5_pacesSo 22 = .ok (.invokevirtual 253, 3) := by decide +kernel
theorem dX5_pacesSo_25 : decode cX5_pacesSo 25 = .ok (.ifCond .eq 9, 3) := by decide +kernel
theorem dX5_pacesSo_28 : decode cX5_pacesSo 28 = .ok (.iconst 1, 1) := by decide +kernel
theorem dX5_pacesSo_29 : decode cX5_pacesSo 29 = .ok (.iload_n 3, 1) := by decide +kernel
theorem dX5_pacesSo_30 : decode cX5_pacesSo 30 = .ok (.ishl, 1) := by decide +kernel
theorem dX5_pacesSo_31 : decode cX5_pacesSo 31 = .ok (.goto 4, 3) := by decide +kernel
theorem dX5_pacesSo_34 : decode cX5_pacesSo 34 = .ok (.iconst 0, 1) := by decide +kernel
theorem dX5_pacesSo_35 : decode cX5_pacesSo 35 = .ok (.ior, 1) := by decide +kernel
theorem dX5_pacesSo_36 : decode cX5_pacesSo 36 = .ok (.istore_n 2, 1) := by decide +kernel
theorem dX5_pacesSo_37 : decode cX5_pacesSo 37 = .ok (.iinc 3 1, 3) := by decide +kernel
theorem dX5_pacesSo_40 : decode cX5_pacesSo 40 = .ok (.goto (-31), 3) := by decide +kernel
theorem dX5_pacesSo_43 : decode cX5_pacesSo 43 = .ok (.aload_n 0, 1) := by decide +kernel
theorem dX5_pacesSo_44 : decode cX5_pacesSo 44 = .ok (.iload_n 1, 1) := by decide +kernel
theorem dX5_pacesSo_45 : decode cX5_pacesSo 45 = .ok (.putfield 59, 3) := by decide +kernel
theorem dX5_pacesSo_48 : decode cX5_pacesSo 48 = .ok (.iload_n 2, 1) := by decide +kernel
theorem dX5_pacesSo_49 : decode cX5_pacesSo 49 = .ok (.ireturn, 1) := by decide +kernel
set_option maxRecDepth 20000 in
theorem ggX5_which_X5_isShore : GoodIn wsX5_which wsX5_isShore := goodIn_r _ [7, 8, 107, 108, 109, 110, 111, 112, 113, 114, 115, 116, 117, 118, 119, 120, 121, 122, 123, 124, 125, 126, 127, 128, 129, 130, 131, 132, 133, 134, 135, 136, 137, 138, 139] (by decide +kernel) (by decide +kernel)
set_option maxRecDepth 20000 in
theorem gX5_which_X5_isShore : GoodIn wsX5_which (wsV RX5 123 RX5 yX5_isShore wsX5_isShore) := goodIn_app (goodIn_of _ (by decide +kernel)) ggX5_which_X5_isShore
set_option maxRecDepth 20000 in
theorem ggX5_which_X5_isIn : GoodIn wsX5_which wsX5_isIn := goodIn_r _ [11] (by decide +kernel) (by decide +kernel)
set_option maxRecDepth 20000 in
theorem gX5_which_X5_isIn : GoodIn wsX5_which (va_wsS RX5 88 yX5_isIn wsX5_isIn) := goodIn_app (goodIn_of _ (by decide +kernel)) ggX5_which_X5_isIn
set_option maxRecDepth 20000 in
theorem ggX5_which_X5_no : GoodIn wsX5_which wsX5_no := goodIn_r _ [15, 16, 107, 108, 109, 110, 111, 112, 113, 114, 115, 116, 117, 118, 119, 120, 121, 122, 123, 124, 125, 126, 127, 128, 129, 130, 131, 132, 133, 134, 135, 136, 137, 138, 139] (by decide +kernel) (by decide +kernel)
set_option maxRecDepth 20000 in
theorem gX5_which_X5_no : GoodIn wsX5_which (wsV RX5 77 RX5 yX5_no wsX5_no) := goodIn_app (goodIn_of _ (by decide +kernel)) ggX5_which_X5_no
set_option maxRecDepth 20000 in
theorem ggX5_which_X5_bitsFor : GoodIn wsX5_which wsX5_bitsFor := goodIn_r _ [20, 21, 22, 23, 6, 24, 25, 26, 27, 28, 29, 30, 31, 32, 33, 34, 35, 36, 37, 1, 2, 38, 39, 40, 8, 41, 42, 43, 44, 45, 46, 47, 48, 49, 50, 51, 52, 53, 54, 55, 56, 57, 58, 59, 60, 61, 62, 63, 64, 65, 66, 67, 68, 69, 70, 71, 72, 73, 74, 75, 76, 9, 10, 11, 77, 78, 79, 80, 81, 82, 83, 84, 85, 86, 87, 88, 89, 90, 91, 92, 93, 94, 95, 96, 97, 98, 99, 100, 101, 102, 107, 108, 109, 110, 111, 112, 113, 114, 115, 116, 117, 118, 119, 120, 121, 122, 123, 124, 125, 126, 127, 128, 129, 130, 131, 132, 133, 134, 135, 136, 137, 138, 139] (by decide +kernel) (by decide +kernel)
set_option maxRecDepth 20000 in
theorem gX5_which_X5_bitsFor : GoodIn wsX5_which (wsV RX5 256 RX5 yX5_bitsFor wsX5_bitsFor) := goodIn_app (goodIn_of _ (by decide +kernel)) ggX5_which_X5_bitsFor
set_option maxRecDepth 20000 in
theorem ggX5_which_X5_pacesSo : GoodIn wsX5_which wsX5_pacesSo := goodIn_r _ [106, 42, 21, 22, 23, 6, 24, 25, 26, 27, 28, 29, 30, 31, 32, 33, 34, 35, 36, 37, 1, 2, 38, 39, 40, 8, 41, 43, 44, 45, 46, 47, 48, 49, 50, 51, 52, 53, 54, 55, 56, 57, 58, 59, 60, 61, 62, 63, 64, 65, 66, 67, 68, 69, 70, 71, 72, 73, 74, 75, 76, 9, 10, 11, 77, 78, 79, 80, 81, 82, 83, 84, 85, 86, 87, 88, 89, 90, 91, 92, 93, 94, 95, 96, 97, 98, 99, 100, 101, 102, 107, 108, 109, 110, 111, 112, 113, 114, 115, 116, 117, 118, 119, 120, 121, 122, 123, 124, 125, 126, 127, 128, 129, 130, 131, 132, 133, 134, 135, 136, 137, 138, 139] (by decide +kernel) (by decide +kernel)
set_option maxRecDepth 20000 in
theorem gX5_which_X5_pacesSo : GoodIn wsX5_which (wsV RX5 260 RX5 yX5_pacesSo wsX5_pacesSo) := goodIn_app (goodIn_of _ (by decide +kernel)) ggX5_which_X5_pacesSo
theorem dX5_which_0 : decode cX5_which 0 = .ok (.aload_n 0, 1) := by decide +kernel
theorem dX5_which_1 : decode cX5_which 1 = .ok (.iload_n 1, 1) := by decide +kernel
theorem dX5_which_2 : decode cX5_which 2 = .ok (.invokevirtual 123, 3) := by decide +kernel
theorem dX5_which_5 : decode cX5_which 5 = .ok (.ifCond .ne 7, 3) := by decide +kernel
theorem dX5_which_8 : decode cX5_which 8 = .ok (.iconst (-1), 1) := by decide +kernel
theorem dX5_which_9 : decode cX5_which 9 = .ok (.goto 18, 3) := by decide +kernel
theorem dX5_which_12 : decode cX5_which 12 = .ok (.iload_n 2, 1) := by decide +kernel
theorem dX5_which_13 : decode cX5_which 13 = .ok (.iconst 0, 1) := by decide +kernel
theorem dX5_which_14 : decode cX5_which 14 = .ok (.iconst 2, 1) := by decide +kernel
theorem dX5_which_15 : decode cX5_which 15 = .ok (.invokestatic 88, 3) := by decide +kernel
theorem dX5_which_18 : decode cX5_which 18 = .ok (.ifCond .ne 8, 3) := by decide +kernel
theorem dX5_which_21 : decode cX5_which 21 = .ok (.bipush (-2), 2) := by decide +kernel
theorem dX5_which_23 : decode cX5_which 23 = .ok (.goto 4, 3) := by decide +kernel
theorem dX5_which_26 : decode cX5_which 26 = .ok (.iconst 0, 1) := by decide +kernel
theorem dX5_which_27 : decode cX5_which 27 = .ok (.istore_n 3, 1) := by decide +kernel
theorem dX5_which_28 : decode cX5_which 28 = .ok (.iload_n 3, 1) := by decide +kernel
theorem dX5_which_29 : decode cX5_which 29 = .ok (.ifCond .eq 9, 3) := by decide +kernel
theorem dX5_which_32 : decode cX5_which 32 = .ok (.aload_n 0, 1) := by decide +kernel
theorem dX5_which_33 : decode cX5_which 33 = .ok (.iload_n 3, 1) := by decide +kernel
theorem dX5_which_34 : decode cX5_which 34 = .ok (.invokevirtual 77, 3) := by decide +kernel
theorem dX5_which_37 : decode cX5_which 37 = .ok (.ireturn, 1) := by decide +kernel
theorem dX5_which_38 : decode cX5_which 38 = .ok (.iload_n 2, 1) := by decide +kernel
theorem dX5_which_39 : decode cX5_which 39 = .ok (.ifCond .ne 17, 3) := by decide +kernel
theorem dX5_which_42 : decode cX5_which 42 = .ok (.aload_n 0, 1) := by decide +kernel
theorem dX5_which_43 : decode cX5_which 43 = .ok (.aload_n 0, 1) := by decide +kernel
theorem dX5_which_44 : decode cX5_which 44 = .ok (.getfield 13, 3) := by decide +kernel
theorem dX5_which_47 : decode cX5_which 47 = .ok (.iload_n 1, 1) := by decide +kernel
theorem dX5_which_48 : decode cX5_which 48 = .ok (.bipush 6, 2) := by decide +kernel
theorem dX5_which_50 : decode cX5_which 50 = .ok (.invokevirtual 256, 3) := by decide +kernel
theorem dX5_which_53 : decode cX5_which 53 = .ok (.goto 26, 3) := by decide +kernel
theorem dX5_which_56 : decode cX5_which 56 = .ok (.iload_n 2, 1) := by decide +kernel
theorem dX5_which_57 : decode cX5_which 57 = .ok (.iconst 1, 1) := by decide +kernel
theorem dX5_which_58 : decode cX5_which 58 = .ok (.if_icmp .ne 17, 3) := by decide +kernel
theorem dX5_which_61 : decode cX5_which 61 = .ok (.aload_n 0, 1) := by decide +kernel
theorem dX5_which_62 : decode cX5_which 62 = .ok (.aload_n 0, 1) := by decide +kernel
theorem dX5_which_63 : decode cX5_which 63 = .ok (.getfield 16, 3) := by decide +kernel
theorem dX5_which_66 : decode cX5_which 66 = .ok (.iload_n 1, 1) := by decide +kernel
theorem dX5_which_67 : decode cX5_which 67 = .ok (.bipush 10, 2) := by decide +kernel
theorem dX5_which_69 : decode cX5_which 69 = .ok (.invokevirtual 256, 3) := by decide +kernel
theorem dX5_which_72 : decode cX5_which 72 = .ok (.goto 7, 3) := by decide +kernel
theorem dX5_which_75 : decode cX5_which 75 = .ok (.aload_n 0, 1) := by decide +kernel
theorem dX5_which_76 : decode cX5_which 76 = .ok (.invokevirtual 260, 3) := by decide +kernel
theorem dX5_which_79 : decode cX5_which 79 = .ok (.ireturn, 1) := by decide +kernel
theorem dX5_hushed_0 : decode cX5_hushed 0 = .ok (.iload_n 2, 1) := by decide +kernel
theorem dX5_hushed_1 : decode cX5_hushed 1 = .ok (.ifCond .ne 11, 3) := by decide +kernel
theorem dX5_hushed_4 : decode cX5_hushed 4 = .ok (.iload_n 0, 1) := by decide +kernel
theorem dX5_hushed_5 : decode cX5_hushed 5 = .ok (.iconst 1, 1) := by decide +kernel
theorem dX5_hushed_6 : decode cX5_hushed 6 = .ok (.iload_n 1, 1) := by decide +kernel
theorem dX5_hushed_7 : decode cX5_hushed 7 = .ok (.ishl, 1) := by decide +kernel
theorem dX5_hushed_8 : decode cX5_hushed 8 = .ok (.ior, 1) := by decide +kernel
theorem dX5_hushed_9 : decode cX5_hushed 9 = .ok (.goto 10, 3) := by decide +kernel
theorem dX5_hushed_12 : decode cX5_hushed 12 = .ok (.iload_n 0, 1) := by decide +kernel
theorem dX5_hushed_13 : decode cX5_hushed 13 = .ok (.iconst 1, 1) := by decide +kernel
theorem dX5_hushed_14 : decode cX5_hushed 14 = .ok (.iload_n 1, 1) := by decide +kernel
theorem dX5_hushed_15 : decode cX5_hushed 15 = .ok (.ishl, 1) := by decide +kernel
theorem dX5_hushed_16 : decode cX5_hushed 16 = .ok (.iconst (-1), 1) := by decide +kernel
theorem dX5_hushed_17 : decode cX5_hushed 17 = .ok (.ixor, 1) := by decide +kernel
theorem dX5_hushed_18 : decode cX5_hushed 18 = .ok (.iand, 1) := by decide +kernel
theorem dX5_hushed_19 : decode cX5_hushed 19 = .ok (.ireturn, 1) := by decide +kernel
set_option maxRecDepth 20000 in
theorem ggX5_findTreaty_X5_hushed : GoodIn wsX5_findTreaty wsX5_hushed := goodIn_r _ [7] (by decide +kernel) (by decide +kernel)
set_option maxRecDepth 20000 in
theorem gX5_findTreaty_X5_hushed : GoodIn wsX5_findTreaty (va_wsS RX5 263 yX5_hushed wsX5_hushed) := goodIn_app (goodIn_of _ (by decide +kernel)) ggX5_findTreaty_X5_hushed
set_option maxRecDepth 20000 in
theorem ggX5_findTreaty_X5_findOften : GoodIn wsX5_findTreaty wsX5_findOften := goodIn_r _ [11, 3, 12, 13, 14, 15, 16, 17, 18, 19, 6, 20, 21, 22, 23, 24, 25, 26, 27, 28, 29, 30, 31, 32, 1, 33, 34, 35, 36, 37, 38, 39, 40, 41, 42, 43, 44, 45, 46, 47, 48, 49, 50, 51, 52, 53, 54, 55, 56, 57, 58, 59, 60, 61, 62, 63, 64, 65, 66, 67, 68, 69, 70, 71, 72, 73, 74, 75, 76, 77, 78, 79, 80, 81, 82, 83, 84, 85, 86, 87, 88, 89, 90, 91, 92, 93, 94, 95, 96, 97, 98, 99, 100, 101, 102, 103, 104, 105, 106, 107, 108, 109, 110, 111, 112, 113, 114, 115, 116, 117, 118, 119, 120, 121, 122, 123, 124, 125, 126, 127, 128, 129] (by decide +kernel) (by decide +kernel)
set_option maxRecDepth 20000 in
theorem gX5_findTreaty_X5_findOften : GoodIn wsX5_findTreaty (wsV RX5 225 RX5 yX5_findOften wsX5_findOften) := goodIn_app (goodIn_of _ (by decide +kernel)) ggX5_findTreaty_X5_findOften
theorem dX5_findTreaty_0 : decode cX5_findTreaty 0 = .ok (.aload_n 0, 1) := by decide +kernel
theorem dX5_findTreaty_1 : decode cX5_findTreaty 1 = .ok (.getfield 126, 3) := by decide +kernel
theorem dX5_findTreaty_4 : decode cX5_findTreaty 4 = .ok (.istore_n 3, 1) := by decide +kernel
theorem dX5_findTreaty_5 : decode cX5_findTreaty 5 = .ok (.iconst 0, 1) := by decide +kernel
theorem dX5_findTreaty_6 : decode cX5_findTreaty 6 = .ok (.istore 4, 2) := by decide +kernel
theorem dX5_findTreaty_8 : decode cX5_findTreaty 8 = .ok (.iload 4, 2) := by decide +kernel
theorem dX5_findTreaty_10 : decode cX5_findTreaty 10 = .ok (.iconst 4, 1) := by decide +kernel
theorem dX5_findTreaty_11 : decode cX5_findTreaty 11 = .ok (.if_icmp .ge 69, 3) := by decide +kernel
theorem dX5_findTreaty_14 : decode cX5_findTreaty 14 = .ok (.aload_n 0, 1) := by decide +kernel
theorem dX5_findTreaty_15 : decode cX5_findTreaty 15 = .ok (.iload_n 3, 1) := by decide +kernel
theorem dX5_findTreaty_16 : decode cX5_findTreaty 16 = .ok (.iload_n 1, 1) := by decide +kernel
theorem dX5_findTreaty_17 : decode cX5_findTreaty 17 = .ok (.iload 4, 2) := by decide +kernel
theorem dX5_findTreaty_19 : decode cX5_findTreaty 19 = .ok (.iconst 2, 1) := by decide +kernel
theorem dX5_findTreaty_20 : decode cX5_findTreaty 20 = .ok (.idiv, 1) := by decide +kernel
theorem dX5_findTreaty_21 : decode cX5_findTreaty 21 = .ok (.invokestatic 263, 3) := by decide +kernel
theorem dX5_findTreaty_24 : decode cX5_findTreaty 24 = .ok (.iload_n 2, 1) := by decide +kernel
theorem dX5_findTreaty_25 : decode cX5_findTreaty 25 = .ok (.iload 4, 2) := by decide +kernel
theorem dX5_findTreaty_27 : decode cX5_findTreaty 27 = .ok (.iconst 2, 1) := by decide +kernel
theorem dX5_findTreaty_28 : decode cX5_findTreaty 28 = .ok (.irem, 1) := by decide +kernel
theorem dX5_findTreaty_29 : decode cX5_findTreaty 29 = .ok (.invokestatic 263, 3) := by decide +kernel
theorem dX5_findTreaty_32 : decode cX5_findTreaty 32 = .ok (.putfield 126, 3) := by decide +kernel
theorem dX5_findTreaty_35 : decode cX5_findTreaty 35 = .ok (.aload_n 0, 1) := by decide +kernel
theorem dX5_findTreaty_36 : decode cX5_findTreaty 36 = .ok (.iconst 1, 1) := by decide +kernel
theorem dX5_findTreaty_37 : decode cX5_findTreaty 37 = .ok (.bipush 12, 2) := by decide +kernel
theorem dX5_findTreaty_39 : decode cX5_findTreaty 39 = .ok (.invokevirtual 225, 3) := by decide +kernel
theorem dX5_findTreaty_42 : decode cX5_findTreaty 42 = .ok (.aload_n 0, 1) := by decide +kernel
theorem dX5_findTreaty_43 : decode cX5_findTreaty 43 = .ok (.getfield 52, 3) := by decide +kernel
theorem dX5_findTreaty_46 : decode cX5_findTreaty 46 = .ok (.iconst 2, 1) := by decide +kernel
theorem dX5_findTreaty_47 : decode cX5_findTreaty 47 = .ok (.iload 4, 2) := by decide +kernel
theorem dX5_findTreaty_49 : decode cX5_findTreaty 49 = .ok (.imul, 1) := by decide +kernel
theorem dX5_findTreaty_50 : decode cX5_findTreaty 50 = .ok (.aload_n 0, 1) := by decide +kernel
theorem dX5_findTreaty_51 : decode cX5_findTreaty 51 = .ok (.getfield 43, 3) := by decide +kernel
theorem dX5_findTreaty_54 : decode cX5_findTreaty 54 = .ok (.iload_n 1, 1) := by decide +kernel
theorem dX5_findTreaty_55 : decode cX5_findTreaty 55 = .ok (.iaload, 1) := by decide +kernel
theorem dX5_findTreaty_56 : decode cX5_findTreaty 56 = .ok (.iastore, 1) := by decide +kernel
theorem dX5_findTreaty_57 : decode cX5_findTreaty 57 = .ok (.aload_n 0, 1) := by decide +kernel
theorem dX5_findTreaty_58 : decode cX5_findTreaty 58 = .ok (.getfield 52, 3) := by decide +kernel
theorem dX5_findTreaty_61 : decode cX5_findTreaty 61 = .ok (.iconst 2, 1) := by decide +kernel
theorem dX5_findTreaty_62 : decode cX5_findTreaty 62 = .ok (.iload 4, 2) := by decide +kernel
theorem dX5_findTreaty_64 : decode cX5_findTreaty 64 = .ok (.imul, 1) := by decide +kernel
theorem dX5_findTreaty_65 : decode cX5_findTreaty 65 = .ok (.iconst 1, 1) := by decide +kernel
theorem dX5_findTreaty_66 : decode cX5_findTreaty 66 = .ok (.iadd, 1) := by decide +kernel
theorem dX5_findTreaty_67 : decode cX5_findTreaty 67 = .ok (.aload_n 0, 1) := by decide +kernel
theorem dX5_findTreaty_68 : decode cX5_findTreaty 68 = .ok (.getfield 43, 3) := by decide +kernel
theorem dX5_findTreaty_71 : decode cX5_findTreaty 71 = .ok (.iload_n 2, 1) := by decide +kernel
theorem dX5_findTreaty_72 : decode cX5_findTreaty 72 = .ok (.iaload, 1) := by decide +kernel
theorem dX5_findTreaty_73 : decode cX5_findTreaty 73 = .ok (.iastore, 1) := by decide +kernel
theorem dX5_findTreaty_74 : decode cX5_findTreaty 74 = .ok (.iinc 4 1, 3) := by decide +kernel
theorem dX5_findTreaty_77 : decode cX5_findTreaty 77 = .ok (.goto (-69), 3) := by decide +kernel
theorem dX5_findTreaty_80 : decode cX5_findTreaty 80 = .ok (.aload_n 0, 1) := by decide +kernel
theorem dX5_findTreaty_81 : decode cX5_findTreaty 81 = .ok (.iload_n 3, 1) := by decide +kernel
theorem dX5_findTreaty_82 : decode cX5_findTreaty 82 = .ok (.putfield 126, 3) := by decide +kernel
theorem dX5_findTreaty_85 : decode cX5_findTreaty 85 = .ok (.return_, 1) := by decide +kernel
set_option maxRecDepth 20000 in
theorem ggX5_treaty_X5_isShore : GoodIn wsX5_treaty wsX5_isShore := goodIn_r _ [6, 7, 110, 111, 112, 113, 114, 115, 116, 117, 118, 119, 120, 121, 122, 123, 124, 125, 126, 127, 128, 129, 130, 131, 132, 133, 134, 135, 136, 137, 138, 139, 140, 141, 142] (by decide +kernel) (by decide +kernel)
set_option maxRecDepth 20000 in
theorem gX5_treaty_X5_isShore : GoodIn wsX5_treaty (wsV RX5 123 RX5 yX5_isShore wsX5_isShore) := goodIn_app (goodIn_of _ (by decide +kernel)) ggX5_treaty_X5_isShore
set_option maxRecDepth 20000 in
theorem ggX5_treaty_X5_isIn : GoodIn wsX5_treaty wsX5_isIn := goodIn_r _ [10] (by decide +kernel) (by decide +kernel)
set_option maxRecDepth 20000 in
theorem gX5_treaty_X5_isIn : GoodIn wsX5_treaty (va_wsS RX5 88 yX5_isIn wsX5_isIn) := goodIn_app (goodIn_of _ (by decide +kernel)) ggX5_treaty_X5_isIn
set_option maxRecDepth 20000 in
theorem ggX5_treaty_X5_no : GoodIn wsX5_treaty wsX5_no := goodIn_r _ [14, 15, 110, 111, 112, 113, 114, 115, 116, 117, 118, 119, 120, 121, 122, 123, 124, 125, 126, 127, 128, 129, 130, 131, 132, 133, 134, 135, 136, 137, 138, 139, 140, 141, 142] (by decide +kernel) (by decide +kernel)
set_option maxRecDepth 20000 in
theorem gX5_treaty_X5_no : GoodIn wsX5_treaty (wsV RX5 77 RX5 yX5_no wsX5_no) := goodIn_app (goodIn_of _ (by decide +kernel)) ggX5_treaty_X5_no
set_option maxRecDepth 20000 in
theorem ggX5_treaty_X5_findTreaty : GoodIn wsX5_treaty wsX5_findTreaty := goodIn_r _ [19, 20, 1, 21, 22, 23, 5, 24, 25, 26, 27, 28, 29, 30, 31, 32, 33, 34, 35, 36, 37, 38, 39, 40, 41, 42, 43, 44, 45, 46, 47, 48, 7, 49, 50, 51, 52, 53, 54, 55, 56, 57, 58, 59, 60, 61, 62, 63, 64, 65, 66, 67, 68, 69, 70, 71, 72, 73, 74, 75, 76, 77, 78, 79, 80, 81, 82, 83, 84, 85, 86, 87, 88, 89, 90, 91, 8, 9, 10, 92, 93, 94, 95, 96, 97, 98, 99, 100, 101, 102, 103, 104, 105, 106, 107, 108, 109, 110, 111, 112, 113, 114, 115, 116, 117, 118, 119, 120, 121, 122, 123, 124, 125, 126, 127, 128, 129, 130, 131, 132, 133, 134, 135, 136, 137, 138, 139, 140, 141, 142] (by decide +kernel) (by decide +kernel)
set_option maxRecDepth 20000 in
theorem gX5_treaty_X5_findTreaty : GoodIn wsX5_treaty (wsV RX5 266 RX5 yX5_findTreaty wsX5_findTreaty) := goodIn_app (goodIn_of _ (by decide +kernel)) ggX5_treaty_X5_findTreaty
theorem dX5_treaty_0 : decode cX5_treaty 0 = .ok (.aload_n 0, 1) := by decide +kernel
theorem dX5_treaty_1 : decode cX5_treaty 1 = .ok (.iload_n 1, 1) := by decide +kernel
theorem dX5_treaty_2 : decode cX5_treaty 2 = .ok (.invokevirtual 123, 3) := by decide +kernel
theorem dX5_treaty_5 : decode cX5_treaty 5 = .ok (.ifCond .eq 16, 3) := by decide +kernel
theorem dX5_treaty_8 : decode cX5_treaty 8 = .ok (.aload_n 0, 1) := by decide +kernel
theorem dX5_treaty_9 : decode cX5_treaty 9 = .ok (.iload_n 2, 1) := by decide +kernel
theorem dX5_treaty_10 : decode cX5_treaty 10 = .ok (.invokevirtual 123, 3) := by decide +kernel
theorem dX5_treaty_13 : decode cX5_treaty 13 = .ok (.ifCond .eq 8, 3) := by decide +kernel
theorem dX5_treaty_16 : decode cX5_treaty 16 = .ok (.iload_n 1, 1) := by decide +kernel
theorem dX5_treaty_17 : decode cX5_treaty 17 = .ok (.iload_n 2, 1) := by decide +kernel
theorem dX5_treaty_18 : decode cX5_treaty 18 = .ok (.if_icmp .ne 7, 3) := by decide +kernel
theorem dX5_treaty_21 : decode cX5_treaty 21 = .ok (.iconst (-1), 1) := by decide +kernel
theorem dX5_treaty_22 : decode cX5_treaty 22 = .ok (.goto 18, 3) := by decide +kernel
theorem dX5_treaty_25 : decode cX5_treaty 25 = .ok (.iload_n 3, 1) := by decide +kernel
theorem dX5_treaty_26 : decode cX5_treaty 26 = .ok (.iconst 0, 1) := by decide +kernel
theorem dX5_treaty_27 : decode cX5_treaty 27 = .ok (.iconst 1, 1) := by decide +kernel
theorem dX5_treaty_28 : decode cX5_treaty 28 = .ok (.invokestatic 88, 3) := by decide +kernel
theorem dX5_treaty_31 : decode cX5_treaty 31 = .ok (.ifCond .ne 8, 3) := by decide +kernel
theorem dX5_treaty_34 : decode cX5_treaty 34 = .ok (.bipush (-2), 2) := by decide +kernel
theorem dX5_treaty_36 : decode cX5_treaty 36 = .ok (.goto 4, 3) := by decide +kernel
theorem dX5_treaty_39 : decode cX5_treaty 39 = .ok (.iconst 0, 1) := by decide +kernel
theorem dX5_treaty_40 : decode cX5_treaty 40 = .ok (.istore 4, 2) := by decide +kernel
theorem dX5_treaty_42 : decode cX5_treaty 42 = .ok (.iload 4, 2) := by decide +kernel
theorem dX5_treaty_44 : decode cX5_treaty 44 = .ok (.ifCond .eq 10, 3) := by decide +kernel
theorem dX5_treaty_47 : decode cX5_treaty 47 = .ok (.aload_n 0, 1) := by decide +kernel
theorem dX5_treaty_48 : decode cX5_treaty 48 = .ok (.iload 4, 2) := by decide +kernel
theorem dX5_treaty_50 : decode cX5_treaty 50 = .ok (.invokevirtual 77, 3) := by decide +kernel
theorem dX5_treaty_53 : decode cX5_treaty 53 = .ok (.ireturn, 1) := by decide +kernel
theorem dX5_treaty_54 : decode cX5_treaty 54 = .ok (.aload_n 0, 1) := by decide +kernel
theorem dX5_treaty_55 : decode cX5_treaty 55 = .ok (.iload_n 1, 1) := by decide +kernel
theorem dX5_treaty_56 : decode cX5_treaty 56 = .ok (.iload_n 2, 1) := by decide +kernel
theorem dX5_treaty_57 : decode cX5_treaty 57 = .ok (.invokevirtual 266, 3) := by decide +kernel
theorem dX5_treaty_60 : decode cX5_treaty 60 = .ok (.iconst 0, 1) := by decide +kernel
theorem dX5_treaty_61 : decode cX5_treaty 61 = .ok (.istore 5, 2) := by decide +kernel
theorem dX5_treaty_63 : decode cX5_treaty 63 = .ok (.iload 5, 2) := by decide +kernel
theorem dX5_treaty_65 : decode cX5_treaty 65 = .ok (.iconst 4, 1) := by decide +kernel
theorem dX5_treaty_66 : decode cX5_treaty 66 = .ok (.if_icmp .ge 100, 3) := by decide +kernel
theorem dX5_treaty_69 : decode cX5_treaty 69 = .ok (.aload_n 0, 1) := by decide +kernel
theorem dX5_treaty_70 : decode cX5_treaty 70 = .ok (.getfield 52, 3) := by decide +kernel
theorem dX5_treaty_73 : decode cX5_treaty 73 = .ok (.iconst 2, 1) := by decide +kernel
theorem dX5_treaty_74 : decode cX5_treaty 74 = .ok (.iload 5, 2) := by decide +kernel
theorem dX5_treaty_76 : decode cX5_treaty 76 = .ok (.iconst 2, 1) := by decide +kernel
theorem dX5_treaty_77 : decode cX5_treaty 77 = .ok (.ixor, 1) := by decide +kernel
theorem dX5_treaty_78 : decode cX5_treaty 78 = .ok (.imul, 1) := by decide +kernel
theorem dX5_treaty_79 : decode cX5_treaty 79 = .ok (.iaload, 1) := by decide +kernel
theorem dX5_treaty_80 : decode cX5_treaty 80 = .ok (.aload_n 0, 1) := by decide +kernel
theorem dX5_treaty_81 : decode cX5_treaty 81 = .ok (.getfield 52, 3) := by decide +kernel
theorem dX5_treaty_84 : decode cX5_treaty 84 = .ok (.iconst 2, 1) := by decide +kernel
theorem dX5_treaty_85 : decode cX5_treaty 85 = .ok (.iload 5, 2) := by decide +kernel
theorem dX5_treaty_87 : decode cX5_treaty 87 = .ok (.imul, 1) := by decide +kernel
theorem dX5_treaty_88 : decode cX5_treaty 88 = .ok (.iaload, 1) := by decide +kernel
theorem dX5_treaty_89 : decode cX5_treaty 89 = .ok (.if_icmp .gt 34, 3) := by decide +kernel
theorem dX5_treaty_92 : decode cX5_treaty 92 = .ok (.aload_n 0, 1) := by decide +kernel
theorem dX5_treaty_93 : decode cX5_treaty 93 = .ok (.getfield 52, 3) := by decide +kernel
theorem dX5_treaty_96 : decode cX5_treaty 96 = .ok (.iconst 2, 1) := by decide +kernel
theorem dX5_treaty_97 : decode cX5_treaty 97 = .ok (.iload 5, 2) := by decide +kernel
theorem dX5_treaty_99 : decode cX5_treaty 99 = .ok (.iconst 1, 1) := by decide +kernel
theorem dX5_treaty_100 : decode cX5_treaty 100 = .ok (.ixor, 1) := by decide +kernel
theorem dX5_treaty_101 : decode cX5_treaty 101 = .ok (.imul, 1) := by decide +kernel
theorem dX5_treaty_102 : decode cX5_treaty 102 = .ok (.iconst 1, 1) := by decide +kernel
theorem dX5_treaty_103 : decode cX5_treaty 103 = .ok (.iadd, 1) := by decide +kernel
theorem dX5_treaty_104 : decode cX5_treaty 104 = .ok (.iaload, 1) := by decide +kernel
theorem dX5_treaty_105 : decode cX5_treaty 105 = .ok (.aload_n 0, 1) := by decide +kernel
theorem dX5_treaty_106 : decode cX5_treaty 106 = .ok (.getfield 52, 3) := by decide +kernel
theorem dX5_treaty_109 : decode cX5_treaty 109 = .ok (.iconst 2, 1) := by decide +kernel
theorem dX5_treaty_110 : decode cX5_treaty 110 = .ok (.iload 5, 2) := by decide +kernel
theorem dX5_treaty_112 : decode cX5_treaty 112 = .ok (.imul, 1) := by decide +kernel
theorem dX5_treaty_113 : decode cX5_treaty 113 = .ok (.iconst 1, 1) := by decide +kernel
theorem dX5_treaty_114 : decode cX5_treaty 114 = .ok (.iadd, 1) := by decide +kernel
theorem dX5_treaty_115 : decode cX5_treaty 115 = .ok (.iaload, 1) := by decide +kernel
theorem dX5_treaty_116 : decode cX5_treaty 116 = .ok (.if_icmp .gt 7, 3) := by decide +kernel
theorem dX5_treaty_119 : decode cX5_treaty 119 = .ok (.iconst 1, 1) := by decide +kernel
theorem dX5_treaty_120 : decode cX5_treaty 120 = .ok (.goto 4, 3) := by decide +kernel
theorem dX5_treaty_123 : decode cX5_treaty 123 = .ok (.iconst 0, 1) := by decide +kernel
theorem dX5_treaty_124 : decode cX5_treaty 124 = .ok (.istore 6, 2) := by decide +kernel
theorem dX5_treaty_126 : decode cX5_treaty 126 = .ok (.iload_n 3, 1) := by decide +kernel
theorem dX5_treaty_127 : decode cX5_treaty 127 = .ok (.iconst 1, 1) := by decide +kernel
theorem dX5_treaty_128 : decode cX5_treaty 128 = .ok (.if_icmp .ne 14, 3) := by decide +kernel
theorem dX5_treaty_131 : decode cX5_treaty 131 = .ok (.iload 6, 2) := by decide +kernel
theorem dX5_treaty_133 : decode cX5_treaty 133 = .ok (.ifCond .eq 7, 3) := by decide +kernel
theorem dX5_treaty_136 : decode cX5_treaty 136 = .ok (.iconst 1, 1) := by decide +kernel
theorem dX5_treaty_137 : decode cX5_treaty 137 = .ok (.goto 4, 3) := by decide +kernel
theorem dX5_treaty_140 : decode cX5_treaty 140 = .ok (.iconst 0, 1) := by decide +kernel
theorem dX5_treaty_141 : decode cX5_treaty 141 = .ok (.ireturn, 1) := by decide +kernel
theorem dX5_treaty_142 : decode cX5_treaty 142 = .ok (.iload 6, 2) := by decide +kernel
theorem dX5_treaty_144 : decode cX5_treaty 144 = .ok (.ifCond .eq 16, 3) := by decide +kernel
theorem dX5_treaty_147 : decode cX5_treaty 147 = .ok (.bipush 10, 2) := by decide +kernel
theorem dX5_treaty_149 : decode cX5_treaty 149 = .ok (.iload 5, 2) := by decide +kernel
theorem dX5_treaty_151 : decode cX5_treaty 151 = .ok (.iconst 2, 1) := by decide +kernel
theorem dX5_treaty_152 : decode cX5_treaty 152 = .ok (.idiv, 1) := by decide +kernel
theorem dX5_treaty_153 : decode cX5_treaty 153 = .ok (.imul, 1) := by decide +kernel
theorem dX5_treaty_154 : decode cX5_treaty 154 = .ok (.iload 5, 2) := by decide +kernel
theorem dX5_treaty_156 : decode cX5_treaty 156 = .ok (.iconst 2, 1) := by decide +kernel
theorem dX5_treaty_157 : decode cX5_treaty 157 = .ok (.irem, 1) := by decide +kernel
theorem dX5_treaty_158 : decode cX5_treaty 158 = .ok (.iadd, 1) := by decide +kernel
theorem dX5_treaty_159 : decode cX5_treaty 159 = .ok (.ireturn, 1) := by decide +kernel
theorem dX5_treaty_160 : decode cX5_treaty 160 = .ok (.iinc 5 1, 3) := by decide +kernel
theorem dX5_treaty_163 : decode cX5_treaty 163 = .ok (.goto (-100), 3) := by decide +kernel
theorem dX5_treaty_166 : decode cX5_treaty 166 = .ok (.bipush (-9), 2) := by decide +kernel
theorem dX5_treaty_168 : decode cX5_treaty 168 = .ok (.ireturn, 1) := by decide +kernel
theorem dX5_divisor_0 : decode cX5_divisor 0 = .ok (.lload_n 0, 1) := by decide +kernel
theorem dX5_divisor_1 : decode cX5_divisor 1 = .ok (.lstore 4, 2) := by decide +kernel
theorem dX5_divisor_3 : decode cX5_divisor 3 = .ok (.lload_n 2, 1) := by decide +kernel
theorem dX5_divisor_4 : decode cX5_divisor 4 = .ok (.lstore 6, 2) := by decide +kernel
theorem dX5_divisor_6 : decode cX5_divisor 6 = .ok (.lload 6, 2) := by decide +kernel
theorem dX5_divisor_8 : decode cX5_divisor 8 = .ok (.lconst 0, 1) := by decide +kernel
theorem dX5_divisor_9 : decode cX5_divisor 9 = .ok (.lcmp, 1) := by decide +kernel
theorem dX5_divisor_10 : decode cX5_divisor 10 = .ok (.ifCond .eq 21, 3) := by decide +kernel
theorem dX5_divisor_13 : decode cX5_divisor 13 = .ok (.lload 4, 2) := by decide +kernel
theorem dX5_divisor_15 : decode cX5_divisor 15 = .ok (.lload 6, 2) := by decide +kernel
theorem dX5_divisor_17 : decode cX5_divisor 17 = .ok (.lrem, 1) := by decide +kernel
theorem dX5_divisor_18 : decode cX5_divisor 18 = .ok (.lstore 8, 2) := by decide +kernel
theorem dX5_divisor_20 : decode cX5_divisor 20 = .ok (.lload 6, 2) := by decide +kernel
theorem dX5_divisor_22 : decode cX5_divisor 22 = .ok (.lstore 4, 2) := by decide +kernel
theorem dX5_divisor_24 : decode cX5_divisor 24 = .ok (.lload 8, 2) := by decide +kernel
theorem dX5_divisor_26 : decode cX5_divisor 26 = .ok (.lstore 6, 2) := by decide +kernel
theorem dX5_divisor_28 : decode cX5_divisor 28 = .ok (.goto (-22), 3) := by decide +kernel
theorem dX5_divisor_31 : decode cX5_divisor 31 = .ok (.lload 4, 2) := by decide +kernel
theorem dX5_divisor_33 : decode cX5_divisor 33 = .ok (.lreturn, 1) := by decide +kernel
set_option maxRecDepth 20000 in
theorem ggX5_partOf_X5_divisor : GoodIn wsX5_partOf wsX5_divisor := goodIn_r _ [4] (by decide +kernel) (by decide +kernel)
set_option maxRecDepth 20000 in
theorem gX5_partOf_X5_divisor : GoodIn wsX5_partOf (va_wsS RX5 269 yX5_divisor wsX5_divisor) := goodIn_app (goodIn_of _ (by decide +kernel)) ggX5_partOf_X5_divisor
theorem dX5_partOf_0 : decode cX5_partOf 0 = .ok (.iload 4, 2) := by decide +kernel
theorem dX5_partOf_2 : decode cX5_partOf 2 = .ok (.ifCond .ne 7, 3) := by decide +kernel
theorem dX5_partOf_5 : decode cX5_partOf 5 = .ok (.lload_n 0, 1) := by decide +kernel
theorem dX5_partOf_6 : decode cX5_partOf 6 = .ok (.goto 4, 3) := by decide +kernel
theorem dX5_partOf_9 : decode cX5_partOf 9 = .ok (.lload_n 2, 1) := by decide +kernel
theorem dX5_partOf_10 : decode cX5_partOf 10 = .ok (.lload_n 0, 1) := by decide +kernel
theorem dX5_partOf_11 : decode cX5_partOf 11 = .ok (.lload_n 2, 1) := by decide +kernel
theorem dX5_partOf_12 : decode cX5_partOf 12 = .ok (.invokestatic 269, 3) := by decide +kernel
theorem dX5_partOf_15 : decode cX5_partOf 15 = .ok (.ldiv, 1) := by decide +kernel
theorem dX5_partOf_16 : decode cX5_partOf 16 = .ok (.lreturn, 1) := by decide +kernel
set_option maxRecDepth 20000 in
theorem ggX5_thunder_X5_isShore : GoodIn wsX5_thunder wsX5_isShore := goodIn_r _ [5, 6, 100, 101, 102, 103, 104, 105, 106, 107, 108, 109, 110, 111, 112, 113, 114, 115, 116, 117, 118, 119, 120, 121, 122, 123, 124, 125, 126, 127, 128, 129, 130, 131, 132] (by decide +kernel) (by decide +kernel)
set_option maxRecDepth 20000 in
theorem gX5_thunder_X5_isShore : GoodIn wsX5_thunder (wsV RX5 123 RX5 yX5_isShore wsX5_isShore) := goodIn_app (goodIn_of _ (by decide +kernel)) ggX5_thunder_X5_isShore
set_option maxRecDepth 20000 in
theorem ggX5_thunder_X5_isIn : GoodIn wsX5_thunder wsX5_isIn := goodIn_r _ [9] (by decide +kernel) (by decide +kernel)
set_option maxRecDepth 20000 in
theorem gX5_thunder_X5_isIn : GoodIn wsX5_thunder (va_wsS RX5 88 yX5_isIn wsX5_isIn) := goodIn_app (goodIn_of _ (by decide +kernel)) ggX5_thunder_X5_isIn
set_option maxRecDepth 20000 in
theorem ggX5_thunder_X5_lowestOf : GoodIn wsX5_thunder wsX5_lowestOf := goodIn_r _ [13, 14, 15, 100, 101, 102, 103, 104, 105, 106, 107, 108, 109, 110, 111, 112, 113, 114, 115, 116, 117, 118, 119, 120, 121, 122, 123, 124, 125, 126, 127, 128, 129, 130, 131, 132] (by decide +kernel) (by decide +kernel)
set_option maxRecDepth 20000 in
theorem gX5_thunder_X5_lowestOf : GoodIn wsX5_thunder (wsV RX5 273 RX5 yX5_lowestOf wsX5_lowestOf) := goodIn_app (goodIn_of _ (by decide +kernel)) ggX5_thunder_X5_lowestOf
set_option maxRecDepth 20000 in
theorem ggX5_thunder_X5_thinks : GoodIn wsX5_thunder wsX5_thinks := goodIn_r _ [19, 20, 21, 22, 4, 23, 24, 25, 26, 27, 28, 29, 30, 6, 31, 32, 33, 34, 35, 36, 37, 38, 39, 40, 41, 42, 43, 44, 100, 101, 102, 103, 104, 105, 106, 107, 108, 109, 110, 111, 112, 113, 114, 115, 116, 117, 118, 119, 120, 121, 122, 123, 124, 125, 126, 127, 128, 129, 130, 131, 132] (by decide +kernel) (by decide +kernel)
set_option maxRecDepth 20000 in
theorem gX5_thunder_X5_thinks : GoodIn wsX5_thunder (wsV RX5 210 RX5 yX5_thinks wsX5_thinks) := goodIn_app (goodIn_of _ (by decide +kernel)) ggX5_thunder_X5_thinks
set_option maxRecDepth 20000 in
theorem ggX5_thunder_X5_has : GoodIn wsX5_thunder wsX5_has := goodIn_r _ [47] (by decide +kernel) (by decide +kernel)
set_option maxRecDepth 20000 in
theorem gX5_thunder_X5_has : GoodIn wsX5_thunder (va_wsS RX5 166 yX5_has wsX5_has) := goodIn_app (goodIn_of _ (by decide +kernel)) ggX5_thunder_X5_has
set_option maxRecDepth 20000 in
theorem ggX5_thunder_X5_goesHour : GoodIn wsX5_thunder wsX5_goesHour := goodIn_r _ [51, 34, 6, 29, 28, 35, 30, 52, 53, 54, 4, 55, 56, 57, 58, 59, 31, 32, 45, 46, 47, 60, 61, 62, 63, 26, 27, 64, 65, 66, 67, 7, 8, 9, 68, 69, 70, 71, 72, 73, 74, 75, 76, 77, 78, 33, 79, 80, 81, 82, 83, 84, 85, 86, 87, 88, 89, 100, 101, 102, 103, 104, 105, 106, 107, 108, 109, 110, 111, 112, 113, 114, 115, 116, 117, 118, 119, 120, 121, 122, 123, 124, 125, 126, 127, 128, 129, 130, 131, 132] (by decide +kernel) (by decide +kernel)
set_option maxRecDepth 20000 in
theorem gX5_thunder_X5_goesHour : GoodIn wsX5_thunder (wsV RX5 197 RX5 yX5_goesHour wsX5_goesHour) := goodIn_app (goodIn_of _ (by decide +kernel)) ggX5_thunder_X5_goesHour
set_option maxRecDepth 20000 in
theorem ggX5_thunder_X5_holder : GoodIn wsX5_thunder wsX5_holder := goodIn_r _ [85, 32, 86, 87, 88, 4, 89, 6, 28, 100, 101, 102, 103, 104, 105, 106, 107, 108, 109, 110, 111, 112, 113, 114, 115, 116, 117, 118, 119, 120, 121, 122, 123, 124, 125, 126, 127, 128, 129, 130, 131, 132] (by decide +kernel) (by decide +kernel)
set_option maxRecDepth 20000 in
theorem gX5_thunder_X5_holder : GoodIn wsX5_thunder (wsV RX5 194 RX5 yX5_holder wsX5_holder) := goodIn_app (goodIn_of _ (by decide +kernel)) ggX5_thunder_X5_holder
set_option maxRecDepth 20000 in
theorem ggX5_thunder_X5_forgets : GoodIn wsX5_thunder wsX5_forgets := goodIn_r _ [93, 20, 21, 22, 4, 23, 24, 25, 26, 27, 28, 29, 30, 6, 31, 32, 33, 34, 35, 36, 37, 38, 39, 40, 41, 42, 43, 44, 100, 101, 102, 103, 104, 105, 106, 107, 108, 109, 110, 111, 112, 113, 114, 115, 116, 117, 118, 119, 120, 121, 122, 123, 124, 125, 126, 127, 128, 129, 130, 131, 132] (by decide +kernel) (by decide +kernel)
set_option maxRecDepth 20000 in
theorem gX5_thunder_X5_forgets : GoodIn wsX5_thunder (wsV RX5 213 RX5 yX5_forgets wsX5_forgets) := goodIn_app (goodIn_of _ (by decide +kernel)) ggX5_thunder_X5_forgets
set_option maxRecDepth 20000 in
theorem ggX5_thunder_X5_partOf : GoodIn wsX5_thunder wsX5_partOf := goodIn_r _ [96, 97, 98, 4, 99] (by decide +kernel) (by decide +kernel)
set_option maxRecDepth 20000 in
theorem gX5_thunder_X5_partOf : GoodIn wsX5_thunder (va_wsS RX5 277 yX5_partOf wsX5_partOf) := goodIn_app (goodIn_of _ (by decide +kernel)) ggX5_thunder_X5_partOf
theorem dX5_thunder_0 : decode cX5_thunder 0 = .ok (.aload_n 0, 1) := by decide +kernel
theorem dX5_thunder_1 : decode cX5_thunder 1 = .ok (.iload_n 1, 1) := by decide +kernel
theorem dX5_thunder_2 : decode cX5_thunder 2 = .ok (.invokevirtual 123, 3) := by decide +kernel
theorem dX5_thunder_5 : decode cX5_thunder 5 = .ok (.ifCond .ne 7, 3) := by decide +kernel
theorem dX5_thunder_8 : decode cX5_thunder 8 = .ok (.iconst (-1), 1) := by decide +kernel
theorem dX5_thunder_9 : decode cX5_thunder 9 = .ok (.goto 50, 3) := by decide +kernel
theorem dX5_thunder_12 : decode cX5_thunder 12 = .ok (.iload_n 2, 1) := by decide +kernel
theorem dX5_thunder_13 : decode cX5_thunder 13 = .ok (.ifCond .lt 8, 3) := by decide +kernel
theorem dX5_thunder_16 : decode cX5_thunder 16 = .ok (.iload_n 3, 1) := by decide +kernel
theorem dX5_thunder_17 : decode cX5_thunder 17 = .ok (.iconst 2, 1) := by decide +kernel
theorem dX5_thunder_18 : decode cX5_thunder 18 = .ok (.if_icmp .ge 8, 3) := by decide +kernel
theorem dX5_thunder_21 : decode cX5_thunder 21 = .ok (.bipush (-4), 2) := by decide +kernel
theorem dX5_thunder_23 : decode cX5_thunder 23 = .ok (.goto 36, 3) := by decide +kernel
theorem dX5_thunder_26 : decode cX5_thunder 26 = .ok (.iload_n 2, 1) := by decide +kernel
theorem dX5_thunder_27 : decode cX5_thunder 27 = .ok (.bipush 7, 2) := by decide +kernel
theorem dX5_thunder_29 : decode cX5_thunder 29 = .ok (.if_icmp .gt 9, 3) := by decide +kernel
theorem dX5_thunder_32 : decode cX5_thunder 32 = .ok (.iload_n 3, 1) := by decide +kernel
theorem dX5_thunder_33 : decode cX5_thunder 33 = .ok (.bipush 20, 2) := by decide +kernel
theorem dX5_thunder_35 : decode cX5_thunder 35 = .ok (.if_icmp .le 8, 3) := by decide +kernel
theorem dX5_thunder_38 : decode cX5_thunder 38 = .ok (.bipush (-6), 2) := by decide +kernel
theorem dX5_thunder_40 : decode cX5_thunder 40 = .ok (.goto 19, 3) := by decide +kernel
theorem dX5_thunder_43 : decode cX5_thunder 43 = .ok (.iload 4, 2) := by decide +kernel
theorem dX5_thunder_45 : decode cX5_thunder 45 = .ok (.iconst 0, 1) := by decide +kernel
theorem dX5_thunder_46 : decode cX5_thunder 46 = .ok (.iconst 1, 1) := by decide +kernel
theorem dX5_thunder_47 : decode cX5_thunder 47 = .ok (.invokestatic 88, 3) := by decide +kernel
theorem dX5_thunder_50 : decode cX5_thunder 50 = .ok (.ifCond .ne 8, 3) := by decide +kernel
theorem dX5_thunder_53 : decode cX5_thunder 53 = .ok (.bipush (-2), 2) := by decide +kernel
theorem dX5_thunder_55 : decode cX5_thunder 55 = .ok (.goto 4, 3) := by decide +kernel
theorem dX5_thunder_58 : decode cX5_thunder 58 = .ok (.iconst 0, 1) := by decide +kernel
theorem dX5_thunder_59 : decode cX5_thunder 59 = .ok (.istore 5, 2) := by decide +kernel
theorem dX5_thunder_61 : decode cX5_thunder 61 = .ok (.iload 5, 2) := by decide +kernel
theorem dX5_thunder_63 : decode cX5_thunder 63 = .ok (.ifCond .eq 10, 3) := by decide +kernel
theorem dX5_thunder_66 : decode cX5_thunder 66 = .ok (.aload_n 0, 1) := by decide +kernel
theorem dX5_thunder_67 : decode cX5_thunder 67 = .ok (.iload 5, 2) := by decide +kernel
theorem dX5_thunder_69 : decode cX5_thunder 69 = .ok (.invokevirtual 273, 3) := by decide +kernel
theorem dX5_thunder_72 : decode cX5_thunder 72 = .ok (.lreturn, 1) := by decide +kernel
theorem dX5_thunder_73 : decode cX5_thunder 73 = .ok (.lconst 0, 1) := by decide +kernel
theorem dX5_thunder_74 : decode cX5_thunder 74 = .ok (.lstore 6, 2) := by decide +kernel
theorem dX5_thunder_76 : decode cX5_thunder 76 = .ok (.lconst 1, 1) := by decide +kernel
theorem dX5_thunder_77 : decode cX5_thunder 77 = .ok (.lstore 8, 2) := by decide +kernel
theorem dX5_thunder_79 : decode cX5_thunder 79 = .ok (.iconst 0, 1) := by decide +kernel
theorem dX5_thunder_80 : decode cX5_thunder 80 = .ok (.istore 10, 2) := by decide +kernel
theorem dX5_thunder_82 : decode cX5_thunder 82 = .ok (.iload 10, 2) := by decide +kernel
theorem dX5_thunder_84 : decode cX5_thunder 84 = .ok (.iload_n 2, 1) := by decide +kernel
theorem dX5_thunder_85 : decode cX5_thunder 85 = .ok (.if_icmp .ge 16, 3) := by decide +kernel
theorem dX5_thunder_88 : decode cX5_thunder 88 = .ok (.lload 8, 2) := by decide +kernel
theorem dX5_thunder_90 : decode cX5_thunder 90 = .ok (.iload_n 3, 1) := by decide +kernel
theorem dX5_thunder_91 : decode cX5_thunder 91 = .ok (.i2l, 1) := by decide +kernel
theorem dX5_thunder_92 : decode cX5_thunder 92 = .ok (.lmul, 1) := by decide +kernel
theorem dX5_thunder_93 : decode cX5_thunder 93 = .ok (.lstore 8, 2) := by decide +kernel
theorem dX5_thunder_95 : decode cX5_thunder 95 = .ok (.iinc 10 1, 3) := by decide +kernel
theorem dX5_thunder_98 : decode cX5_thunder 98 = .ok (.goto (-16), 3) := by decide +kernel
theorem dX5_thunder_101 : decode cX5_thunder 101 = .ok (.iconst 0, 1) := by decide +kernel
theorem dX5_thunder_102 : decode cX5_thunder 102 = .ok (.istore 10, 2) := by decide +kernel
theorem dX5_thunder_104 : decode cX5_thunder 104 = .ok (.iload 10, 2) := by decide +kernel
theorem dX5_thunder_106 : decode cX5_thunder 106 = .ok (.iconst 1, 1) := by decide +kernel
theorem dX5_thunder_107 : decode cX5_thunder 107 = .ok (.iload_n 2, 1) := by decide +kernel
theorem dX5_thunder_108 : decode cX5_thunder 108 = .ok (.ishl, 1) := by decide +kernel
theorem dX5_thunder_109 : decode cX5_thunder 109 = .ok (.if_icmp .ge 88, 3) := by decide +kernel
theorem dX5_thunder_112 : decode cX5_thunder 112 = .ok (.aload_n 0, 1) := by decide +kernel
theorem dX5_thunder_113 : decode cX5_thunder 113 = .ok (.invokevirtual 210, 3) := by decide +kernel
theorem dX5_thunder_116 : decode cX5_thunder 116 = .ok (.lconst 1, 1) := by decide +kernel
theorem dX5_thunder_117 : decode cX5_thunder 117 = .ok (.lstore 11, 2) := by decide +kernel
theorem dX5_thunder_119 : decode cX5_thunder 119 = .ok (.iconst 0, 1) := by decide +kernel
theorem dX5_thunder_120 : decode cX5_thunder 120 = .ok (.istore 13, 2) := by decide +kernel
theorem dX5_thunder_122 : decode cX5_thunder 122 = .ok (.iload 13, 2) := by decide +kernel
theorem dX5_thunder_124 : decode cX5_thunder 124 = .ok (.iload_n 2, 1) := by decide +kernel
theorem dX5_thunder_125 : decode cX5_thunder 125 = .ok (.if_icmp .ge 43, 3) := by decide +kernel
theorem dX5_thunder_128 : decode cX5_thunder 128 = .ok (.lload 11, 2) := by decide +kernel
theorem dX5_thunder_130 : decode cX5_thunder 130 = .ok (.iload 10, 2) := by decide +kernel
theorem dX5_thunder_132 : decode cX5_thunder 132 = .ok (.iload 13, 2) := by decide +kernel
theorem dX5_thunder_134 : decode cX5_thunder 134 = .ok (.invokestatic 166, 3) := by decide +kernel
theorem dX5_thunder_137 : decode cX5_thunder 137 = .ok (.ifCond .eq 7, 3) := by decide +kernel
theorem dX5_thunder_140 : decode cX5_thunder 140 = .ok (.lconst 1, 1) := by decide +kernel
theorem dX5_thunder_141 : decode cX5_thunder 141 = .ok (.goto 7, 3) := by decide +kernel
theorem dX5_thunder_144 : decode cX5_thunder 144 = .ok (.iload_n 3, 1) := by decide +kernel
theorem dX5_thunder_145 : decode cX5_thunder 145 = .ok (.iconst 1, 1) := by decide +kernel
theorem dX5_thunder_146 : decode cX5_thunder 146 = .ok (.isub, 1) := by decide +kernel
theorem dX5_thunder_147 : decode cX5_thunder 147 = .ok (.i2l, 1) := by decide +kernel
theorem dX5_thunder_148 : decode cX5_thunder 148 = .ok (.lmul, 1) := by decide +kernel
theorem dX5_thunder_149 : decode cX5_thunder 149 = .ok (.lstore 11, 2) := by decide +kernel
theorem dX5_thunder_151 : decode cX5_thunder 151 = .ok (.aload_n 0, 1) := by decide +kernel
theorem dX5_thunder_152 : decode cX5_thunder 152 = .ok (.iload 10, 2) := by decide +kernel
theorem dX5_thunder_154 : decode cX5_thunder 154 = .ok (.iload 13, 2) := by decide +kernel
theorem dX5_thunder_156 : decode cX5_thunder 156 = .ok (.invokestatic 166, 3) := by decide +kernel
theorem dX5_thunder_159 : decode cX5_thunder 159 = .ok (.invokevirtual 197, 3) := by decide +kernel
theorem dX5_thunder_162 : decode cX5_thunder 162 = .ok (.iinc 13 1, 3) := by decide +kernel
theorem dX5_thunder_165 : decode cX5_thunder 165 = .ok (.goto (-43), 3) := by decide +kernel
theorem dX5_thunder_168 : decode cX5_thunder 168 = .ok (.lload 6, 2) := by decide +kernel
theorem dX5_thunder_170 : decode cX5_thunder 170 = .ok (.aload_n 0, 1) := by decide +kernel
theorem dX5_thunder_171 : decode cX5_thunder 171 = .ok (.invokevirtual 194, 3) := by decide +kernel
theorem dX5_thunder_174 : decode cX5_thunder 174 = .ok (.iload_n 1, 1) := by decide +kernel
theorem dX5_thunder_175 : decode cX5_thunder 175 = .ok (.if_icmp .ne 8, 3) := by decide +kernel
theorem dX5_thunder_178 : decode cX5_thunder 178 = .ok (.lload 11, 2) := by decide +kernel
theorem dX5_thunder_180 : decode cX5_thunder 180 = .ok (.goto 4, 3) := by decide +kernel
theorem dX5_thunder_183 : decode cX5_thunder 183 = .ok (.lconst 0, 1) := by decide +kernel
theorem dX5_thunder_184 : decode cX5_thunder 184 = .ok (.ladd, 1) := by decide +kernel
theorem dX5_thunder_185 : decode cX5_thunder 185 = .ok (.lstore 6, 2) := by decide +kernel
theorem dX5_thunder_187 : decode cX5_thunder 187 = .ok (.aload_n 0, 1) := by decide +kernel
theorem dX5_thunder_188 : decode cX5_thunder 188 = .ok (.invokevirtual 213, 3) := by decide +kernel
theorem dX5_thunder_191 : decode cX5_thunder 191 = .ok (.iinc 10 1, 3) := by decide +kernel
theorem dX5_thunder_194 : decode cX5_thunder 194 = .ok (.goto (-90), 3) := by decide +kernel
theorem dX5_thunder_197 : decode cX5_thunder 197 = .ok (.lload 6, 2) := by decide +kernel
theorem dX5_thunder_199 : decode cX5_thunder 199 = .ok (.lload 8, 2) := by decide +kernel
theorem dX5_thunder_201 : decode cX5_thunder 201 = .ok (.iload 4, 2) := by decide +kernel
theorem dX5_thunder_203 : decode cX5_thunder 203 = .ok (.invokestatic 277, 3) := by decide +kernel
theorem dX5_thunder_206 : decode cX5_thunder 206 = .ok (.lreturn, 1) := by decide +kernel
set_option maxRecDepth 20000 in
theorem ggX5_nearest_X5_isIn : GoodIn wsX5_nearest wsX5_isIn := goodIn_r _ [7] (by decide +kernel) (by decide +kernel)
set_option maxRecDepth 20000 in
theorem gX5_nearest_X5_isIn : GoodIn wsX5_nearest (va_wsS RX5 88 yX5_isIn wsX5_isIn) := goodIn_app (goodIn_of _ (by decide +kernel)) ggX5_nearest_X5_isIn
set_option maxRecDepth 20000 in
theorem ggX5_nearest_X5_no : GoodIn wsX5_nearest wsX5_no := goodIn_r _ [11, 12, 16, 17, 18, 19, 20, 21, 22, 23, 24, 25, 26, 27, 28, 29, 30, 31, 32, 33, 34, 35, 36, 37, 38, 39, 40, 41, 42, 43, 44, 45, 46, 47, 48] (by decide +kernel) (by decide +kernel)
set_option maxRecDepth 20000 in
theorem gX5_nearest_X5_no : GoodIn wsX5_nearest (wsV RX5 77 RX5 yX5_no wsX5_no) := goodIn_app (goodIn_of _ (by decide +kernel)) ggX5_nearest_X5_no
set_option maxRecDepth 20000 in
theorem ggX5_nearest_X5_far : GoodIn wsX5_nearest wsX5_far := goodIn_r _ [15] (by decide +kernel) (by decide +kernel)
set_option maxRecDepth 20000 in
theorem gX5_nearest_X5_far : GoodIn wsX5_nearest (va_wsS RX5 179 yX5_far wsX5_far) := goodIn_app (goodIn_of _ (by decide +kernel)) ggX5_nearest_X5_far
theorem dX5_nearest_0 : decode cX5_nearest 0 = .ok (.iload_n 1, 1) := by decide +kernel
theorem dX5_nearest_1 : decode cX5_nearest 1 = .ok (.iconst 0, 1) := by decide +kernel
theorem dX5_nearest_2 : decode cX5_nearest 2 = .ok (.iconst 1, 1) := by decide +kernel
theorem dX5_nearest_3 : decode cX5_nearest 3 = .ok (.invokestatic 88, 3) := by decide +kernel
theorem dX5_nearest_6 : decode cX5_nearest 6 = .ok (.ifCond .ne 10, 3) := by decide +kernel
theorem dX5_nearest_9 : decode cX5_nearest 9 = .ok (.aload_n 0, 1) := by decide +kernel
theorem dX5_nearest_10 : decode cX5_nearest 10 = .ok (.bipush (-2), 2) := by decide +kernel
theorem dX5_nearest_12 : decode cX5_nearest 12 = .ok (.invokevirtual 77, 3) := by decide +kernel
theorem dX5_nearest_15 : decode cX5_nearest 15 = .ok (.ireturn, 1) := by decide +kernel
theorem dX5_nearest_16 : decode cX5_nearest 16 = .ok (.bipush (-9), 2) := by decide +kernel
theorem dX5_nearest_18 : decode cX5_nearest 18 = .ok (.istore_n 2, 1) := by decide +kernel
theorem dX5_nearest_19 : decode cX5_nearest 19 = .ok (.iconst 0, 1) := by decide +kernel
theorem dX5_nearest_20 : decode cX5_nearest 20 = .ok (.istore_n 3, 1) := by decide +kernel
theorem dX5_nearest_21 : decode cX5_nearest 21 = .ok (.iload_n 3, 1) := by decide +kernel
theorem dX5_nearest_22 : decode cX5_nearest 22 = .ok (.aload_n 0, 1) := by decide +kernel
theorem dX5_nearest_23 : decode cX5_nearest 23 = .ok (.getfield 67, 3) := by decide +kernel
theorem dX5_nearest_26 : decode cX5_nearest 26 = .ok (.if_icmp .ge 44, 3) := by decide +kernel
theorem dX5_nearest_29 : decode cX5_nearest 29 = .ok (.iload_n 2, 1) := by decide +kernel
theorem dX5_nearest_30 : decode cX5_nearest 30 = .ok (.ifCond .lt 32, 3) := by decide +kernel
theorem dX5_nearest_33 : decode cX5_nearest 33 = .ok (.aload_n 0, 1) := by decide +kernel
theorem dX5_nearest_34 : decode cX5_nearest 34 = .ok (.getfield 19, 3) := by decide +kernel
theorem dX5_nearest_37 : decode cX5_nearest 37 = .ok (.iload_n 3, 1) := by decide +kernel
theorem dX5_nearest_38 : decode cX5_nearest 38 = .ok (.iaload, 1) := by decide +kernel
theorem dX5_nearest_39 : decode cX5_nearest 39 = .ok (.aload_n 0, 1) := by decide +kernel
theorem dX5_nearest_40 : decode cX5_nearest 40 = .ok (.getfield 55, 3) := by decide +kernel
theorem dX5_nearest_43 : decode cX5_nearest 43 = .ok (.invokestatic 179, 3) := by decide +kernel
theorem dX5_nearest_46 : decode cX5_nearest 46 = .ok (.aload_n 0, 1) := by decide +kernel
theorem dX5_nearest_47 : decode cX5_nearest 47 = .ok (.getfield 19, 3) := by decide +kernel
theorem dX5_nearest_50 : decode cX5_nearest 50 = .ok (.iload_n 2, 1) := by decide +kernel
theorem dX5_nearest_51 : decode cX5_nearest 51 = .ok (.iaload, 1) := by decide +kernel
theorem dX5_nearest_52 : decode cX5_nearest 52 = .ok (.aload_n 0, 1) := by decide +kernel
theorem dX5_nearest_53 : decode cX5_nearest 53 = .ok (.getfield 55, 3) := by decide +kernel
theorem dX5_nearest_56 : decode cX5_nearest 56 = .ok (.invokestatic 179, 3) := by decide +kernel
theorem dX5_nearest_59 : decode cX5_nearest 59 = .ok (.if_icmp .ge 5, 3) := by decide +kernel
theorem dX5_nearest_62 : decode cX5_nearest 62 = .ok (.iload_n 3, 1) := by decide +kernel
theorem dX5_nearest_63 : decode cX5_nearest 63 = .ok (.istore_n 2, 1) := by decide +kernel
theorem dX5_nearest_64 : decode cX5_nearest 64 = .ok (.iinc 3 1, 3) := by decide +kernel
theorem dX5_nearest_67 : decode cX5_nearest 67 = .ok (.goto (-46), 3) := by decide +kernel
theorem dX5_nearest_70 : decode cX5_nearest 70 = .ok (.iload_n 1, 1) := by decide +kernel
theorem dX5_nearest_71 : decode cX5_nearest 71 = .ok (.ifCond .eq 7, 3) := by decide +kernel
theorem dX5_nearest_74 : decode cX5_nearest 74 = .ok (.iload_n 2, 1) := by decide +kernel
theorem dX5_nearest_75 : decode cX5_nearest 75 = .ok (.ifCond .ge 7, 3) := by decide +kernel
theorem dX5_nearest_78 : decode cX5_nearest 78 = .ok (.iload_n 2, 1) := by decide +kernel
theorem dX5_nearest_79 : decode cX5_nearest 79 = .ok (.goto 16, 3) := by decide +kernel
theorem dX5_nearest_82 : decode cX5_nearest 82 = .ok (.aload_n 0, 1) := by decide +kernel
theorem dX5_nearest_83 : decode cX5_nearest 83 = .ok (.getfield 19, 3) := by decide +kernel
theorem dX5_nearest_86 : decode cX5_nearest 86 = .ok (.iload_n 2, 1) := by decide +kernel
theorem dX5_nearest_87 : decode cX5_nearest 87 = .ok (.iaload, 1) := by decide +kernel
theorem dX5_nearest_88 : decode cX5_nearest 88 = .ok (.aload_n 0, 1) := by decide +kernel
theorem dX5_nearest_89 : decode cX5_nearest 89 = .ok (.getfield 55, 3) := by decide +kernel
theorem dX5_nearest_92 : decode cX5_nearest 92 = .ok (.invokestatic 179, 3) := by decide +kernel
theorem dX5_nearest_95 : decode cX5_nearest 95 = .ok (.ireturn, 1) := by decide +kernel
theorem dX5_allJoy_0 : decode cX5_allJoy 0 = .ok (.iconst 0, 1) := by decide +kernel
theorem dX5_allJoy_1 : decode cX5_allJoy 1 = .ok (.istore_n 1, 1) := by decide +kernel
theorem dX5_allJoy_2 : decode cX5_allJoy 2 = .ok (.iconst 0, 1) := by decide +kernel
theorem dX5_allJoy_3 : decode cX5_allJoy 3 = .ok (.istore_n 2, 1) := by decide +kernel
theorem dX5_allJoy_4 : decode cX5_allJoy 4 = .ok (.iload_n 2, 1) := by decide +kernel
theorem dX5_allJoy_5 : decode cX5_allJoy 5 = .ok (.aload_n 0, 1) := by decide +kernel
theorem dX5_allJoy_6 : decode cX5_allJoy 6 = .ok (.getfield 67, 3) := by decide +kernel
theorem dX5_allJoy_9 : decode cX5_allJoy 9 = .ok (.if_icmp .ge 18, 3) := by decide +kernel
theorem dX5_allJoy_12 : decode cX5_allJoy 12 = .ok (.iload_n 1, 1) := by decide +kernel
theorem dX5_allJoy_13 : decode cX5_allJoy 13 = .ok (.aload_n 0, 1) := by decide +kernel
theorem dX5_allJoy_14 : decode cX5_allJoy 14 = .ok (.getfield 25, 3) := by decide +kernel
theorem dX5_allJoy_17 : decode cX5_allJoy 17 = .ok (.iload_n 2, 1) := by decide +kernel
theorem dX5_allJoy_18 : decode cX5_allJoy 18 = .ok (.iaload, 1) := by decide +kernel
theorem dX5_allJoy_19 : decode cX5_allJoy 19 = .ok (.iadd, 1) := by decide +kernel
theorem dX5_allJoy_20 : decode cX5_allJoy 20 = .ok (.istore_n 1, 1) := by decide +kernel
theorem dX5_allJoy_21 : decode cX5_allJoy 21 = .ok (.iinc 2 1, 3) := by decide +kernel
theorem dX5_allJoy_24 : decode cX5_allJoy 24 = .ok (.goto (-20), 3) := by decide +kernel
theorem dX5_allJoy_27 : decode cX5_allJoy 27 = .ok (.iload_n 1, 1) := by decide +kernel
theorem dX5_allJoy_28 : decode cX5_allJoy 28 = .ok (.ireturn, 1) := by decide +kernel
theorem dX5_joyless_0 : decode cX5_joyless 0 = .ok (.iconst 0, 1) := by decide +kernel
theorem dX5_joyless_1 : decode cX5_joyless 1 = .ok (.istore_n 1, 1) := by decide +kernel
theorem dX5_joyless_2 : decode cX5_joyless 2 = .ok (.iconst 0, 1) := by decide +kernel
theorem dX5_joyless_3 : decode cX5_joyless 3 = .ok (.istore_n 2, 1) := by decide +kernel
theorem dX5_joyless_4 : decode cX5_joyless 4 = .ok (.iload_n 2, 1) := by decide +kernel
theorem dX5_joyless_5 : decode cX5_joyless 5 = .ok (.aload_n 0, 1) := by decide +kernel
theorem dX5_joyless_6 : decode cX5_joyless 6 = .ok (.getfield 67, 3) := by decide +kernel
theorem dX5_joyless_9 : decode cX5_joyless 9 = .ok (.if_icmp .ge 28, 3) := by decide +kernel
theorem dX5_joyless_12 : decode cX5_joyless 12 = .ok (.iload_n 1, 1) := by decide +kernel
theorem dX5_joyless_13 : decode cX5_joyless 13 = .ok (.aload_n 0, 1) := by decide +kernel
theorem dX5_joyless_14 : decode cX5_joyless 14 = .ok (.getfield 25, 3) := by decide +kernel
theorem dX5_joyless_17 : decode cX5_joyless 17 = .ok (.iload_n 2, 1) := by decide +kernel
theorem dX5_joyless_18 : decode cX5_joyless 18 = .ok (.iaload, 1) := by decide +kernel
theorem dX5_joyless_19 : decode cX5_joyless 19 = .ok (.ifCond .ne 9, 3) := by decide +kernel
theorem dX5_joyless_22 : decode cX5_joyless 22 = .ok (.iconst 1, 1) := by decide +kernel
theorem dX5_joyless_23 : decode cX5_joyless 23 = .ok (.iload_n 2, 1) := by decide +kernel
theorem dX5_joyless_24 : decode cX5_joyless 24 = .ok (.ishl, 1) := by decide +kernel
theorem dX5_joyless_25 : decode cX5_joyless 25 = .ok (.goto 4, 3) := by decide +kernel
theorem dX5_joyless_28 : decode cX5_joyless 28 = .ok (.iconst 0, 1) := by decide +kernel
theorem dX5_joyless_29 : decode cX5_joyless 29 = .ok (.ior, 1) := by decide +kernel
theorem dX5_joyless_30 : decode cX5_joyless 30 = .ok (.istore_n 1, 1) := by decide +kernel
theorem dX5_joyless_31 : decode cX5_joyless 31 = .ok (.iinc 2 1, 3) := by decide +kernel
theorem dX5_joyless_34 : decode cX5_joyless 34 = .ok (.goto (-30), 3) := by decide +kernel
theorem dX5_joyless_37 : decode cX5_joyless 37 = .ok (.iload_n 1, 1) := by decide +kernel
theorem dX5_joyless_38 : decode cX5_joyless 38 = .ok (.ireturn, 1) := by decide +kernel
set_option maxRecDepth 20000 in
theorem ggX5_shared_X5_isIn : GoodIn wsX5_shared wsX5_isIn := goodIn_r _ [5] (by decide +kernel) (by decide +kernel)
set_option maxRecDepth 20000 in
theorem gX5_shared_X5_isIn : GoodIn wsX5_shared (va_wsS RX5 88 yX5_isIn wsX5_isIn) := goodIn_app (goodIn_of _ (by decide +kernel)) ggX5_shared_X5_isIn
set_option maxRecDepth 20000 in
theorem ggX5_shared_X5_no : GoodIn wsX5_shared wsX5_no := goodIn_r _ [9, 10, 20, 21, 22, 23, 24, 25, 26, 27, 28, 29, 30, 31, 32, 33, 34, 35, 36, 37, 38, 39, 40, 41, 42, 43, 44, 45, 46, 47, 48, 49, 50, 51, 52] (by decide +kernel) (by decide +kernel)
set_option maxRecDepth 20000 in
theorem gX5_shared_X5_no : GoodIn wsX5_shared (wsV RX5 77 RX5 yX5_no wsX5_no) := goodIn_app (goodIn_of _ (by decide +kernel)) ggX5_shared_X5_no
set_option maxRecDepth 20000 in
theorem ggX5_shared_X5_joyless : GoodIn wsX5_shared wsX5_joyless := goodIn_r _ [14, 1, 15, 20, 21, 22, 23, 24, 25, 26, 27, 28, 29, 30, 31, 32, 33, 34, 35, 36, 37, 38, 39, 40, 41, 42, 43, 44, 45, 46, 47, 48, 49, 50, 51, 52] (by decide +kernel) (by decide +kernel)
set_option maxRecDepth 20000 in
theorem gX5_shared_X5_joyless : GoodIn wsX5_shared (wsV RX5 281 RX5 yX5_joyless wsX5_joyless) := goodIn_app (goodIn_of _ (by decide +kernel)) ggX5_shared_X5_joyless
set_option maxRecDepth 20000 in
theorem ggX5_shared_X5_allJoy : GoodIn wsX5_shared wsX5_allJoy := goodIn_r _ [19, 1, 15, 20, 21, 22, 23, 24, 25, 26, 27, 28, 29, 30, 31, 32, 33, 34, 35, 36, 37, 38, 39, 40, 41, 42, 43, 44, 45, 46, 47, 48, 49, 50, 51, 52] (by decide +kernel) (by decide +kernel)
set_option maxRecDepth 20000 in
theorem gX5_shared_X5_allJoy : GoodIn wsX5_shared (wsV RX5 284 RX5 yX5_allJoy wsX5_allJoy) := goodIn_app (goodIn_of _ (by decide +kernel)) ggX5_shared_X5_allJoy
theorem dX5_shared_0 : decode cX5_shared 0 = .ok (.iload_n 1, 1) := by decide +kernel
theorem dX5_shared_1 : decode cX5_shared 1 = .ok (.iconst 0, 1) := by decide +kernel
theorem dX5_shared_2 : decode cX5_shared 2 = .ok (.iconst 2, 1) := by decide +kernel
theorem dX5_shared_3 : decode cX5_shared 3 = .ok (.invokestatic 88, 3) := by decide +kernel
theorem dX5_shared_6 : decode cX5_shared 6 = .ok (.ifCond .ne 10, 3) := by decide +kernel
theorem dX5_shared_9 : decode cX5_shared 9 = .ok (.aload_n 0, 1) := by decide +kernel
theorem dX5_shared_10 : decode cX5_shared 10 = .ok (.bipush (-2), 2) := by decide +kernel
theorem dX5_shared_12 : decode cX5_shared 12 = .ok (.invokevirtual 77, 3) := by decide +kernel
theorem dX5_shared_15 : decode cX5_shared 15 = .ok (.ireturn, 1) := by decide +kernel
theorem dX5_shared_16 : decode cX5_shared 16 = .ok (.iload_n 1, 1) := by decide +kernel
theorem dX5_shared_17 : decode cX5_shared 17 = .ok (.iconst 2, 1) := by decide +kernel
theorem dX5_shared_18 : decode cX5_shared 18 = .ok (.if_icmp .ne 8, 3) := by decide +kernel
theorem dX5_shared_21 : decode cX5_shared 21 = .ok (.aload_n 0, 1) := by decide +kernel
theorem dX5_shared_22 : decode cX5_shared 22 = .ok (.invokevirtual 281, 3) := by decide +kernel
theorem dX5_shared_25 : decode cX5_shared 25 = .ok (.ireturn, 1) := by decide +kernel
theorem dX5_shared_26 : decode cX5_shared 26 = .ok (.aload_n 0, 1) := by decide +kernel
theorem dX5_shared_27 : decode cX5_shared 27 = .ok (.getfield 67, 3) := by decide +kernel
theorem dX5_shared_30 : decode cX5_shared 30 = .ok (.ifCond .ne 7, 3) := by decide +kernel
theorem dX5_shared_33 : decode cX5_shared 33 = .ok (.iconst 0, 1) := by decide +kernel
theorem dX5_shared_34 : decode cX5_shared 34 = .ok (.goto 28, 3) := by decide +kernel
theorem dX5_shared_37 : decode cX5_shared 37 = .ok (.iload_n 1, 1) := by decide +kernel
theorem dX5_shared_38 : decode cX5_shared 38 = .ok (.ifCond .ne 15, 3) := by decide +kernel
theorem dX5_shared_41 : decode cX5_shared 41 = .ok (.aload_n 0, 1) := by decide +kernel
theorem dX5_shared_42 : decode cX5_shared 42 = .ok (.invokevirtual 284, 3) := by decide +kernel
theorem dX5_shared_45 : decode cX5_shared 45 = .ok (.aload_n 0, 1) := by decide +kernel
theorem dX5_shared_46 : decode cX5_shared 46 = .ok (.getfield 67, 3) := by decide +kernel
theorem dX5_shared_49 : decode cX5_shared 49 = .ok (.idiv, 1) := by decide +kernel
theorem dX5_shared_50 : decode cX5_shared 50 = .ok (.goto 12, 3) := by decide +kernel
theorem dX5_shared_53 : decode cX5_shared 53 = .ok (.aload_n 0, 1) := by decide +kernel
theorem dX5_shared_54 : decode cX5_shared 54 = .ok (.invokevirtual 284, 3) := by decide +kernel
theorem dX5_shared_57 : decode cX5_shared 57 = .ok (.aload_n 0, 1) := by decide +kernel
theorem dX5_shared_58 : decode cX5_shared 58 = .ok (.getfield 67, 3) := by decide +kernel
theorem dX5_shared_61 : decode cX5_shared 61 = .ok (.irem, 1) := by decide +kernel
theorem dX5_shared_62 : decode cX5_shared 62 = .ok (.ireturn, 1) := by decide +kernel
set_option maxRecDepth 20000 in
theorem ggX5_loudHour_X5_isIn : GoodIn wsX5_loudHour wsX5_isIn := goodIn_r _ [4] (by decide +kernel) (by decide +kernel)
set_option maxRecDepth 20000 in
theorem gX5_loudHour_X5_isIn : GoodIn wsX5_loudHour (va_wsS RX5 88 yX5_isIn wsX5_isIn) := goodIn_app (goodIn_of _ (by decide +kernel)) ggX5_loudHour_X5_isIn
set_option maxRecDepth 20000 in
theorem ggX5_loudHour_X5_no : GoodIn wsX5_loudHour wsX5_no := goodIn_r _ [8, 9, 36, 37, 38, 39, 40, 41, 42, 43, 44, 45, 46, 47, 48, 49, 50, 51, 52, 53, 54, 55, 56, 57, 58, 59, 60, 61, 62, 63, 64, 65, 66, 67, 68] (by decide +kernel) (by decide +kernel)
set_option maxRecDepth 20000 in
theorem gX5_loudHour_X5_no : GoodIn wsX5_loudHour (wsV RX5 77 RX5 yX5_no wsX5_no) := goodIn_app (goodIn_of _ (by decide +kernel)) ggX5_loudHour_X5_no
set_option maxRecDepth 20000 in
theorem ggX5_loudHour_X5_allNoise : GoodIn wsX5_loudHour wsX5_allNoise := goodIn_r _ [13, 14, 15, 16, 17, 3, 18, 19, 20, 21, 22, 23, 24, 25, 26, 27, 28, 29, 30, 31, 32, 33, 34, 35, 1, 2, 4, 36, 37, 38, 39, 40, 41, 42, 43, 44, 45, 46, 47, 48, 49, 50, 51, 52, 53, 54, 55, 56, 57, 58, 59, 60, 61, 62, 63, 64, 65, 66, 67, 68] (by decide +kernel) (by decide +kernel)
set_option maxRecDepth 20000 in
theorem gX5_loudHour_X5_allNoise : GoodIn wsX5_loudHour (wsV RX5 204 RX5 yX5_allNoise wsX5_allNoise) := goodIn_app (goodIn_of _ (by decide +kernel)) ggX5_loudHour_X5_allNoise
theorem dX5_loudHour_0 : decode cX5_loudHour 0 = .ok (.iload_n 1, 1) := by decide +kernel
theorem dX5_loudHour_1 : decode cX5_loudHour 1 = .ok (.iconst 0, 1) := by decide +kernel
theorem dX5_loudHour_2 : decode cX5_loudHour 2 = .ok (.iconst 1, 1) := by decide +kernel
theorem dX5_loudHour_3 : decode cX5_loudHour 3 = .ok (.invokestatic 88, 3) := by decide +kernel
theorem dX5_loudHour_6 : decode cX5_loudHour 6 = .ok (.ifCond .ne 10, 3) := by decide +kernel
theorem dX5_loudHour_9 : decode cX5_loudHour 9 = .ok (.aload_n 0, 1) := by decide +kernel
theorem dX5_loudHour_10 : decode cX5_loudHour 10 = .ok (.bipush (-2), 2) := by decide +kernel
theorem dX5_loudHour_12 : decode cX5_loudHour 12 = .ok (.invokevirtual 77, 3) := by decide +kernel
theorem dX5_loudHour_15 : decode cX5_loudHour 15 = .ok (.ireturn, 1) := by decide +kernel
theorem dX5_loudHour_16 : decode cX5_loudHour 16 = .ok (.iconst 0, 1) := by decide +kernel
theorem dX5_loudHour_17 : decode cX5_loudHour 17 = .ok (.istore_n 2, 1) := by decide +kernel
theorem dX5_loudHour_18 : decode cX5_loudHour 18 = .ok (.iconst 0, 1) := by decide +kernel
theorem dX5_loudHour_19 : decode cX5_loudHour 19 = .ok (.istore_n 3, 1) := by decide +kernel
theorem dX5_loudHour_20 : decode cX5_loudHour 20 = .ok (.iconst 0, 1) := by decide +kernel
theorem dX5_loudHour_21 : decode cX5_loudHour 21 = .ok (.istore 4, 2) := by decide +kernel
theorem dX5_loudHour_23 : decode cX5_loudHour 23 = .ok (.iload 4, 2) := by decide +kernel
theorem dX5_loudHour_25 : decode cX5_loudHour 25 = .ok (.bipush 24, 2) := by decide +kernel
theorem dX5_loudHour_27 : decode cX5_loudHour 27 = .ok (.if_icmp .ge 50, 3) := by decide +kernel
theorem dX5_loudHour_30 : decode cX5_loudHour 30 = .ok (.aload_n 0, 1) := by decide +kernel
theorem dX5_loudHour_31 : decode cX5_loudHour 31 = .ok (.iload 4, 2) := by decide +kernel
theorem dX5_loudHour_33 : decode cX5_loudHour 33 = .ok (.invokevirtual 204, 3) := by decide +kernel
theorem dX5_loudHour_36 : decode cX5_loudHour 36 = .ok (.aload_n 0, 1) := by decide +kernel
theorem dX5_loudHour_37 : decode cX5_loudHour 37 = .ok (.iload_n 2, 1) := by decide +kernel
theorem dX5_loudHour_38 : decode cX5_loudHour 38 = .ok (.invokevirtual 204, 3) := by decide +kernel
theorem dX5_loudHour_41 : decode cX5_loudHour 41 = .ok (.if_icmp .le 8, 3) := by decide +kernel
theorem dX5_loudHour_44 : decode cX5_loudHour 44 = .ok (.iload 4, 2) := by decide +kernel
theorem dX5_loudHour_46 : decode cX5_loudHour 46 = .ok (.goto 4, 3) := by decide +kernel
theorem dX5_loudHour_49 : decode cX5_loudHour 49 = .ok (.iload_n 2, 1) := by decide +kernel
theorem dX5_loudHour_50 : decode cX5_loudHour 50 = .ok (.istore_n 2, 1) := by decide +kernel
theorem dX5_loudHour_51 : decode cX5_loudHour 51 = .ok (.iload_n 3, 1) := by decide +kernel
theorem dX5_loudHour_52 : decode cX5_loudHour 52 = .ok (.aload_n 0, 1) := by decide +kernel
theorem dX5_loudHour_53 : decode cX5_loudHour 53 = .ok (.iload 4, 2) := by decide +kernel
theorem dX5_loudHour_55 : decode cX5_loudHour 55 = .ok (.invokevirtual 204, 3) := by decide +kernel
theorem dX5_loudHour_58 : decode cX5_loudHour 58 = .ok (.ifCond .ne 10, 3) := by decide +kernel
theorem dX5_loudHour_61 : decode cX5_loudHour 61 = .ok (.iconst 1, 1) := by decide +kernel
theorem dX5_loudHour_62 : decode cX5_loudHour 62 = .ok (.iload 4, 2) := by decide +kernel
theorem dX5_loudHour_64 : decode cX5_loudHour 64 = .ok (.ishl, 1) := by decide +kernel
theorem dX5_loudHour_65 : decode cX5_loudHour 65 = .ok (.goto 4, 3) := by decide +kernel
theorem dX5_loudHour_68 : decode cX5_loudHour 68 = .ok (.iconst 0, 1) := by decide +kernel
theorem dX5_loudHour_69 : decode cX5_loudHour 69 = .ok (.ior, 1) := by decide +kernel
theorem dX5_loudHour_70 : decode cX5_loudHour 70 = .ok (.istore_n 3, 1) := by decide +kernel
theorem dX5_loudHour_71 : decode cX5_loudHour 71 = .ok (.iinc 4 1, 3) := by decide +kernel
theorem dX5_loudHour_74 : decode cX5_loudHour 74 = .ok (.goto (-51), 3) := by decide +kernel
theorem dX5_loudHour_77 : decode cX5_loudHour 77 = .ok (.iload_n 1, 1) := by decide +kernel
theorem dX5_loudHour_78 : decode cX5_loudHour 78 = .ok (.ifCond .ne 7, 3) := by decide +kernel
theorem dX5_loudHour_81 : decode cX5_loudHour 81 = .ok (.iload_n 2, 1) := by decide +kernel
theorem dX5_loudHour_82 : decode cX5_loudHour 82 = .ok (.goto 4, 3) := by decide +kernel
theorem dX5_loudHour_85 : decode cX5_loudHour 85 = .ok (.iload_n 3, 1) := by decide +kernel
theorem dX5_loudHour_86 : decode cX5_loudHour 86 = .ok (.ireturn, 1) := by decide +kernel
set_option maxRecDepth 20000 in
theorem ggX5_mean_X5_isIn : GoodIn wsX5_mean wsX5_isIn := goodIn_r _ [6] (by decide +kernel) (by decide +kernel)
set_option maxRecDepth 20000 in
theorem gX5_mean_X5_isIn : GoodIn wsX5_mean (va_wsS RX5 88 yX5_isIn wsX5_isIn) := goodIn_app (goodIn_of _ (by decide +kernel)) ggX5_mean_X5_isIn
set_option maxRecDepth 20000 in
theorem ggX5_mean_X5_lowestOf : GoodIn wsX5_mean wsX5_lowestOf := goodIn_r _ [10, 11, 12, 19, 20, 21, 22, 23, 24, 25, 26, 27, 28, 29, 30, 31, 32, 33, 34, 35, 36, 37, 38, 39, 40, 41, 42, 43, 44, 45, 46, 47, 48, 49, 50, 51] (by decide +kernel) (by decide +kernel)
set_option maxRecDepth 20000 in
theorem gX5_mean_X5_lowestOf : GoodIn wsX5_mean (wsV RX5 273 RX5 yX5_lowestOf wsX5_lowestOf) := goodIn_app (goodIn_of _ (by decide +kernel)) ggX5_mean_X5_lowestOf
set_option maxRecDepth 20000 in
theorem ggX5_mean_X5_partOf : GoodIn wsX5_mean wsX5_partOf := goodIn_r _ [15, 16, 17, 5, 18] (by decide +kernel) (by decide +kernel)
set_option maxRecDepth 20000 in
theorem gX5_mean_X5_partOf : GoodIn wsX5_mean (va_wsS RX5 277 yX5_partOf wsX5_partOf) := goodIn_app (goodIn_of _ (by decide +kernel)) ggX5_mean_X5_partOf
theorem dX5_mean_0 : decode cX5_mean 0 = .ok (.iload_n 1, 1) := by decide +kernel
theorem dX5_mean_1 : decode cX5_mean 1 = .ok (.iconst 0, 1) := by decide +kernel
theorem dX5_mean_2 : decode cX5_mean 2 = .ok (.iconst 1, 1) := by decide +kernel
theorem dX5_mean_3 : decode cX5_mean 3 = .ok (.invokestatic 88, 3) := by decide +kernel
theorem dX5_mean_6 : decode cX5_mean 6 = .ok (.ifCond .ne 10, 3) := by decide +kernel
theorem dX5_mean_9 : decode cX5_mean 9 = .ok (.aload_n 0, 1) := by decide +kernel
theorem dX5_mean_10 : decode cX5_mean 10 = .ok (.bipush (-2), 2) := by decide +kernel
theorem dX5_mean_12 : decode cX5_mean 12 = .ok (.invokevirtual 273, 3) := by decide +kernel
theorem dX5_mean_15 : decode cX5_mean 15 = .ok (.lreturn, 1) := by decide +kernel
theorem dX5_mean_16 : decode cX5_mean 16 = .ok (.lconst 0, 1) := by decide +kernel
theorem dX5_mean_17 : decode cX5_mean 17 = .ok (.lstore_n 2, 1) := by decide +kernel
theorem dX5_mean_18 : decode cX5_mean 18 = .ok (.iconst 0, 1) := by decide +kernel
theorem dX5_mean_19 : decode cX5_mean 19 = .ok (.istore 4, 2) := by decide +kernel
theorem dX5_mean_21 : decode cX5_mean 21 = .ok (.iload 4, 2) := by decide +kernel
theorem dX5_mean_23 : decode cX5_mean 23 = .ok (.aload_n 0, 1) := by decide +kernel
theorem dX5_mean_24 : decode cX5_mean 24 = .ok (.getfield 67, 3) := by decide +kernel
theorem dX5_mean_27 : decode cX5_mean 27 = .ok (.if_icmp .ge 20, 3) := by decide +kernel
theorem dX5_mean_30 : decode cX5_mean 30 = .ok (.lload_n 2, 1) := by decide +kernel
theorem dX5_mean_31 : decode cX5_mean 31 = .ok (.aload_n 0, 1) := by decide +kernel
theorem dX5_mean_32 : decode cX5_mean 32 = .ok (.getfield 19, 3) := by decide +kernel
theorem dX5_mean_35 : decode cX5_mean 35 = .ok (.iload 4, 2) := by decide +kernel
theorem dX5_mean_37 : decode cX5_mean 37 = .ok (.iaload, 1) := by decide +kernel
theorem dX5_mean_38 : decode cX5_mean 38 = .ok (.i2l, 1) := by decide +kernel
theorem dX5_mean_39 : decode cX5_mean 39 = .ok (.ladd, 1) := by decide +kernel
theorem dX5_mean_40 : decode cX5_mean 40 = .ok (.lstore_n 2, 1) := by decide +kernel
theorem dX5_mean_41 : decode cX5_mean 41 = .ok (.iinc 4 1, 3) := by decide +kernel
theorem dX5_mean_44 : decode cX5_mean 44 = .ok (.goto (-23), 3) := by decide +kernel
theorem dX5_mean_47 : decode cX5_mean 47 = .ok (.aload_n 0, 1) := by decide +kernel
theorem dX5_mean_48 : decode cX5_mean 48 = .ok (.getfield 67, 3) := by decide +kernel
theorem dX5_mean_51 : decode cX5_mean 51 = .ok (.ifCond .ne 8, 3) := by decide +kernel
theorem dX5_mean_54 : decode cX5_mean 54 = .ok (.iload_n 1, 1) := by decide +kernel
theorem dX5_mean_55 : decode cX5_mean 55 = .ok (.i2l, 1) := by decide +kernel
theorem dX5_mean_56 : decode cX5_mean 56 = .ok (.goto 13, 3) := by decide +kernel
theorem dX5_mean_59 : decode cX5_mean 59 = .ok (.lload_n 2, 1) := by decide +kernel
theorem dX5_mean_60 : decode cX5_mean 60 = .ok (.aload_n 0, 1) := by decide +kernel
theorem dX5_mean_61 : decode cX5_mean 61 = .ok (.getfield 67, 3) := by decide +kernel
theorem dX5_mean_64 : decode cX5_mean 64 = .ok (.i2l, 1) := by decide +kernel
theorem dX5_mean_65 : decode cX5_mean 65 = .ok (.iload_n 1, 1) := by decide +kernel
theorem dX5_mean_66 : decode cX5_mean 66 = .ok (.invokestatic 277, 3) := by decide +kernel
theorem dX5_mean_69 : decode cX5_mean 69 = .ok (.lreturn, 1) := by decide +kernel
set_option maxRecDepth 20000 in
theorem ggX5_gap_X5_isIn : GoodIn wsX5_gap wsX5_isIn := goodIn_r _ [4] (by decide +kernel) (by decide +kernel)
set_option maxRecDepth 20000 in
theorem gX5_gap_X5_isIn : GoodIn wsX5_gap (va_wsS RX5 88 yX5_isIn wsX5_isIn) := goodIn_app (goodIn_of _ (by decide +kernel)) ggX5_gap_X5_isIn
set_option maxRecDepth 20000 in
theorem ggX5_gap_X5_no : GoodIn wsX5_gap wsX5_no := goodIn_r _ [8, 9, 16, 17, 18, 19, 20, 21, 22, 23, 24, 25, 26, 27, 28, 29, 30, 31, 32, 33, 34, 35, 36, 37, 38, 39, 40, 41, 42, 43, 44, 45, 46, 47, 48] (by decide +kernel) (by decide +kernel)
set_option maxRecDepth 20000 in
theorem gX5_gap_X5_no : GoodIn wsX5_gap (wsV RX5 77 RX5 yX5_no wsX5_no) := goodIn_app (goodIn_of _ (by decide +kernel)) ggX5_gap_X5_no
set_option maxRecDepth 20000 in
theorem ggX5_gap_X5_shoreAt : GoodIn wsX5_gap wsX5_shoreAt := goodIn_r _ [13, 14, 15, 16, 17, 18, 19, 20, 21, 22, 23, 24, 25, 26, 27, 28, 29, 30, 31, 32, 33, 34, 35, 36, 37, 38, 39, 40, 41, 42, 43, 44, 45, 46, 47, 48] (by decide +kernel) (by decide +kernel)
set_option maxRecDepth 20000 in
theorem gX5_gap_X5_shoreAt : GoodIn wsX5_gap (wsV RX5 106 RX5 yX5_shoreAt wsX5_shoreAt) := goodIn_app (goodIn_of _ (by decide +kernel)) ggX5_gap_X5_shoreAt
theorem dX5_gap_0 : decode cX5_gap 0 = .ok (.iload_n 1, 1) := by decide +kernel
theorem dX5_gap_1 : decode cX5_gap 1 = .ok (.iconst 0, 1) := by decide +kernel
theorem dX5_gap_2 : decode cX5_gap 2 = .ok (.iconst 1, 1) := by decide +kernel
theorem dX5_gap_3 : decode cX5_gap 3 = .ok (.invokestatic 88, 3) := by decide +kernel
theorem dX5_gap_6 : decode cX5_gap 6 = .ok (.ifCond .ne 10, 3) := by decide +kernel
theorem dX5_gap_9 : decode cX5_gap 9 = .ok (.aload_n 0, 1) := by decide +kernel
theorem dX5_gap_10 : decode cX5_gap 10 = .ok (.bipush (-2), 2) := by decide +kernel
theorem dX5_gap_12 : decode cX5_gap 12 = .ok (.invokevirtual 77, 3) := by decide +kernel
theorem dX5_gap_15 : decode cX5_gap 15 = .ok (.ireturn, 1) := by decide +kernel
theorem dX5_gap_16 : decode cX5_gap 16 = .ok (.bipush (-9), 2) := by decide +kernel
theorem dX5_gap_18 : decode cX5_gap 18 = .ok (.istore_n 2, 1) := by decide +kernel
theorem dX5_gap_19 : decode cX5_gap 19 = .ok (.bipush (-9), 2) := by decide +kernel
theorem dX5_gap_21 : decode cX5_gap 21 = .ok (.istore_n 3, 1) := by decide +kernel
theorem dX5_gap_22 : decode cX5_gap 22 = .ok (.bipush (-9), 2) := by decide +kernel
theorem dX5_gap_24 : decode cX5_gap 24 = .ok (.istore 4, 2) := by decide +kernel
theorem dX5_gap_26 : decode cX5_gap 26 = .ok (.iconst 0, 1) := by decide +kernel
theorem dX5_gap_27 : decode cX5_gap 27 = .ok (.istore 5, 2) := by decide +kernel
theorem dX5_gap_29 : decode cX5_gap 29 = .ok (.iload 5, 2) := by decide +kernel
theorem dX5_gap_31 : decode cX5_gap 31 = .ok (.bipush 30, 2) := by decide +kernel
theorem dX5_gap_33 : decode cX5_gap 33 = .ok (.if_icmp .gt 44, 3) := by decide +kernel
theorem dX5_gap_36 : decode cX5_gap 36 = .ok (.aload_n 0, 1) := by decide +kernel
theorem dX5_gap_37 : decode cX5_gap 37 = .ok (.iload 5, 2) := by decide +kernel
theorem dX5_gap_39 : decode cX5_gap 39 = .ok (.invokevirtual 106, 3) := by decide +kernel
theorem dX5_gap_42 : decode cX5_gap 42 = .ok (.ifCond .ge 6, 3) := by decide +kernel
theorem dX5_gap_45 : decode cX5_gap 45 = .ok (.goto 26, 3) := by decide +kernel
theorem dX5_gap_48 : decode cX5_gap 48 = .ok (.iload_n 2, 1) := by decide +kernel
theorem dX5_gap_49 : decode cX5_gap 49 = .ok (.ifCond .lt 19, 3) := by decide +kernel
theorem dX5_gap_52 : decode cX5_gap 52 = .ok (.iload 5, 2) := by decide +kernel
theorem dX5_gap_54 : decode cX5_gap 54 = .ok (.iload_n 2, 1) := by decide +kernel
theorem dX5_gap_55 : decode cX5_gap 55 = .ok (.isub, 1) := by decide +kernel
theorem dX5_gap_56 : decode cX5_gap 56 = .ok (.iload_n 3, 1) := by decide +kernel
theorem dX5_gap_57 : decode cX5_gap 57 = .ok (.if_icmp .le 11, 3) := by decide +kernel
theorem dX5_gap_60 : decode cX5_gap 60 = .ok (.iload 5, 2) := by decide +kernel
theorem dX5_gap_62 : decode cX5_gap 62 = .ok (.iload_n 2, 1) := by decide +kernel
theorem dX5_gap_63 : decode cX5_gap 63 = .ok (.isub, 1) := by decide +kernel
theorem dX5_gap_64 : decode cX5_gap 64 = .ok (.istore_n 3, 1) := by decide +kernel
theorem dX5_gap_65 : decode cX5_gap 65 = .ok (.iload_n 2, 1) := by decide +kernel
theorem dX5_gap_66 : decode cX5_gap 66 = .ok (.istore 4, 2) := by decide +kernel
theorem dX5_gap_68 : decode cX5_gap 68 = .ok (.iload 5, 2) := by decide +kernel
theorem dX5_gap_70 : decode cX5_gap 70 = .ok (.istore_n 2, 1) := by decide +kernel
theorem dX5_gap_71 : decode cX5_gap 71 = .ok (.iinc 5 1, 3) := by decide +kernel
theorem dX5_gap_74 : decode cX5_gap 74 = .ok (.goto (-45), 3) := by decide +kernel
theorem dX5_gap_77 : decode cX5_gap 77 = .ok (.iload_n 1, 1) := by decide +kernel
theorem dX5_gap_78 : decode cX5_gap 78 = .ok (.ifCond .ne 7, 3) := by decide +kernel
theorem dX5_gap_81 : decode cX5_gap 81 = .ok (.iload_n 3, 1) := by decide +kernel
theorem dX5_gap_82 : decode cX5_gap 82 = .ok (.goto 5, 3) := by decide +kernel
theorem dX5_gap_85 : decode cX5_gap 85 = .ok (.iload 4, 2) := by decide +kernel
theorem dX5_gap_87 : decode cX5_gap 87 = .ok (.ireturn, 1) := by decide +kernel
theorem dX5_allPowder_0 : decode cX5_allPowder 0 = .ok (.iconst 0, 1) := by decide +kernel
theorem dX5_allPowder_1 : decode cX5_allPowder 1 = .ok (.istore_n 1, 1) := by decide +kernel
theorem dX5_allPowder_2 : decode cX5_allPowder 2 = .ok (.iconst 0, 1) := by decide +kernel
theorem dX5_allPowder_3 : decode cX5_allPowder 3 = .ok (.istore_n 2, 1) := by decide +kernel
theorem dX5_allPowder_4 : decode cX5_allPowder 4 = .ok (.iload_n 2, 1) := by decide +kernel
theorem dX5_allPowder_5 : decode cX5_allPowder 5 = .ok (.aload_n 0, 1) := by decide +kernel
theorem dX5_allPowder_6 : decode cX5_allPowder 6 = .ok (.getfield 67, 3) := by decide +kernel
theorem dX5_allPowder_9 : decode cX5_allPowder 9 = .ok (.if_icmp .ge 18, 3) := by decide +kernel
theorem dX5_allPowder_12 : decode cX5_allPowder 12 = .ok (.iload_n 1, 1) := by decide +kernel
theorem dX5_allPowder_13 : decode cX5_allPowder 13 = .ok (.aload_n 0, 1) := by decide +kernel
theorem dX5_allPowder_14 : decode cX5_allPowder 14 = .ok (.getfield 22, 3) := by decide +kernel
theorem dX5_allPowder_17 : decode cX5_allPowder 17 = .ok (.iload_n 2, 1) := by decide +kernel
theorem dX5_allPowder_18 : decode cX5_allPowder 18 = .ok (.iaload, 1) := by decide +kernel
theorem dX5_allPowder_19 : decode cX5_allPowder 19 = .ok (.iadd, 1) := by decide +kernel
theorem dX5_allPowder_20 : decode cX5_allPowder 20 = .ok (.istore_n 1, 1) := by decide +kernel
theorem dX5_allPowder_21 : decode cX5_allPowder 21 = .ok (.iinc 2 1, 3) := by decide +kernel
theorem dX5_allPowder_24 : decode cX5_allPowder 24 = .ok (.goto (-20), 3) := by decide +kernel
theorem dX5_allPowder_27 : decode cX5_allPowder 27 = .ok (.iload_n 1, 1) := by decide +kernel
theorem dX5_allPowder_28 : decode cX5_allPowder 28 = .ok (.ireturn, 1) := by decide +kernel
set_option maxRecDepth 20000 in
theorem ggX5_spent_X5_notHours : GoodIn wsX5_spent wsX5_notHours := goodIn_r _ [4, 5, 6, 3, 7] (by decide +kernel) (by decide +kernel)
set_option maxRecDepth 20000 in
theorem gX5_spent_X5_notHours : GoodIn wsX5_spent (va_wsS RX5 207 yX5_notHours wsX5_notHours) := goodIn_app (goodIn_of _ (by decide +kernel)) ggX5_spent_X5_notHours
set_option maxRecDepth 20000 in
theorem ggX5_spent_X5_no : GoodIn wsX5_spent wsX5_no := goodIn_r _ [11, 12, 103, 104, 105, 106, 107, 108, 109, 110, 111, 112, 113, 114, 115, 116, 117, 118, 119, 120, 121, 122, 123, 124, 125, 126, 127, 128, 129, 130, 131, 132, 133, 134, 135] (by decide +kernel) (by decide +kernel)
set_option maxRecDepth 20000 in
theorem gX5_spent_X5_no : GoodIn wsX5_spent (wsV RX5 77 RX5 yX5_no wsX5_no) := goodIn_app (goodIn_of _ (by decide +kernel)) ggX5_spent_X5_no
set_option maxRecDepth 20000 in
theorem ggX5_spent_X5_allPowder : GoodIn wsX5_spent wsX5_allPowder := goodIn_r _ [16, 17, 18, 103, 104, 105, 106, 107, 108, 109, 110, 111, 112, 113, 114, 115, 116, 117, 118, 119, 120, 121, 122, 123, 124, 125, 126, 127, 128, 129, 130, 131, 132, 133, 134, 135] (by decide +kernel) (by decide +kernel)
set_option maxRecDepth 20000 in
theorem gX5_spent_X5_allPowder : GoodIn wsX5_spent (wsV RX5 287 RX5 yX5_allPowder wsX5_allPowder) := goodIn_app (goodIn_of _ (by decide +kernel)) ggX5_spent_X5_allPowder
set_option maxRecDepth 20000 in
theorem ggX5_spent_X5_thinks : GoodIn wsX5_spent wsX5_thinks := goodIn_r _ [22, 23, 24, 25, 3, 26, 27, 28, 29, 30, 31, 18, 32, 17, 33, 34, 35, 36, 37, 38, 39, 40, 41, 42, 43, 44, 45, 46, 103, 104, 105, 106, 107, 108, 109, 110, 111, 112, 113, 114, 115, 116, 117, 118, 119, 120, 121, 122, 123, 124, 125, 126, 127, 128, 129, 130, 131, 132, 133, 134, 135] (by decide +kernel) (by decide +kernel)
set_option maxRecDepth 20000 in
theorem gX5_spent_X5_thinks : GoodIn wsX5_spent (wsV RX5 210 RX5 yX5_thinks wsX5_thinks) := goodIn_app (goodIn_of _ (by decide +kernel)) ggX5_spent_X5_thinks
set_option maxRecDepth 20000 in
theorem ggX5_spent_X5_goes : GoodIn wsX5_spent wsX5_goes := goodIn_r _ [50, 51, 52, 53, 3, 54, 36, 17, 18, 31, 37, 32, 55, 56, 57, 58, 59, 60, 61, 62, 33, 34, 63, 64, 65, 66, 67, 68, 69, 29, 30, 70, 71, 72, 73, 74, 75, 76, 77, 78, 79, 80, 81, 82, 83, 84, 85, 86, 87, 35, 88, 89, 90, 91, 92, 93, 94, 95, 96, 97, 98, 103, 104, 105, 106, 107, 108, 109, 110, 111, 112, 113, 114, 115, 116, 117, 118, 119, 120, 121, 122, 123, 124, 125, 126, 127, 128, 129, 130, 131, 132, 133, 134, 135] (by decide +kernel) (by decide +kernel)
set_option maxRecDepth 20000 in
theorem gX5_spent_X5_goes : GoodIn wsX5_spent (wsV RX5 116 RX5 yX5_goes wsX5_goes) := goodIn_app (goodIn_of _ (by decide +kernel)) ggX5_spent_X5_goes
set_option maxRecDepth 20000 in
theorem ggX5_spent_X5_forgets : GoodIn wsX5_spent wsX5_forgets := goodIn_r _ [102, 23, 24, 25, 3, 26, 27, 28, 29, 30, 31, 18, 32, 17, 33, 34, 35, 36, 37, 38, 39, 40, 41, 42, 43, 44, 45, 46, 103, 104, 105, 106, 107, 108, 109, 110, 111, 112, 113, 114, 115, 116, 117, 118, 119, 120, 121, 122, 123, 124, 125, 126, 127, 128, 129, 130, 131, 132, 133, 134, 135] (by decide +kernel) (by decide +kernel)
set_option maxRecDepth 20000 in
theorem gX5_spent_X5_forgets : GoodIn wsX5_spent (wsV RX5 213 RX5 yX5_forgets wsX5_forgets) := goodIn_app (goodIn_of _ (by decide +kernel)) ggX5_spent_X5_forgets
theorem dX5_spent_0 : decode cX5_spent 0 = .ok (.iload_n 1, 1) := by decide +kernel
theorem dX5_spent_1 : decode cX5_spent 1 = .ok (.invokestatic 207, 3) := by decide +kernel
theorem dX5_spent_4 : decode cX5_spent 4 = .ok (.istore_n 2, 1) := by decide +kernel
theorem dX5_spent_5 : decode cX5_spent 5 = .ok (.iload_n 2, 1) := by decide +kernel
theorem dX5_spent_6 : decode cX5_spent 6 = .ok (.ifCond .eq 9, 3) := by decide +kernel
theorem dX5_spent_9 : decode cX5_spent 9 = .ok (.aload_n 0, 1) := by decide +kernel
theorem dX5_spent_10 : decode cX5_spent 10 = .ok (.iload_n 2, 1) := by decide +kernel
theorem dX5_spent_11 : decode cX5_spent 11 = .ok (.invokevirtual 77, 3) := by decide +kernel
theorem dX5_spent_14 : decode cX5_spent 14 = .ok (.ireturn, 1) := by decide +kernel
theorem dX5_spent_15 : decode cX5_spent 15 = .ok (.aload_n 0, 1) := by decide +kernel
theorem dX5_spent_16 : decode cX5_spent 16 = .ok (.invokevirtual 287, 3) := by decide +kernel
theorem dX5_spent_19 : decode cX5_spent 19 = .ok (.istore_n 3, 1) := by decide +kernel
theorem dX5_spent_20 : decode cX5_spent 20 = .ok (.aload_n 0, 1) := by decide +kernel
theorem dX5_spent_21 : decode cX5_spent 21 = .ok (.invokevirtual 210, 3) := by decide +kernel
theorem dX5_spent_24 : decode cX5_spent 24 = .ok (.aload_n 0, 1) := by decide +kernel
theorem dX5_spent_25 : decode cX5_spent 25 = .ok (.iload_n 1, 1) := by decide +kernel
theorem dX5_spent_26 : decode cX5_spent 26 = .ok (.invokevirtual 116, 3) := by decide +kernel
theorem dX5_spent_29 : decode cX5_spent 29 = .ok (.iload_n 3, 1) := by decide +kernel
theorem dX5_spent_30 : decode cX5_spent 30 = .ok (.aload_n 0, 1) := by decide +kernel
theorem dX5_spent_31 : decode cX5_spent 31 = .ok (.invokevirtual 287, 3) := by decide +kernel
theorem dX5_spent_34 : decode cX5_spent 34 = .ok (.isub, 1) := by decide +kernel
theorem dX5_spent_35 : decode cX5_spent 35 = .ok (.istore 4, 2) := by decide +kernel
theorem dX5_spent_37 : decode cX5_spent 37 = .ok (.aload_n 0, 1) := by decide +kernel
theorem dX5_spent_38 : decode cX5_spent 38 = .ok (.invokevirtual 213, 3) := by decide +kernel
theorem dX5_spent_41 : decode cX5_spent 41 = .ok (.iload 4, 2) := by decide +kernel
theorem dX5_spent_43 : decode cX5_spent 43 = .ok (.ireturn, 1) := by decide +kernel
set_option maxRecDepth 20000 in
theorem ggX5_oftenSwapped_X5_oftenOf : GoodIn wsX5_oftenSwapped wsX5_oftenOf := goodIn_r _ [6, 7, 8, 9, 10, 5, 11, 12, 13, 14, 15, 16, 17, 18, 19, 20, 21, 22, 23, 24, 25, 26, 27, 28, 1, 29, 30, 31, 32, 33, 34, 35, 36, 37, 38, 39, 40, 41, 42, 43, 44, 45, 46, 47, 48, 49, 50, 51, 52, 53, 54, 55, 56, 57, 58, 59, 60, 61, 62, 63, 64, 65, 66, 67, 68, 69, 70, 71, 72, 73, 74, 75, 76, 77, 78, 79, 80, 81, 82, 83, 84, 85, 86, 87, 88, 89, 90, 91, 92, 93, 94, 95, 96, 97, 98, 99, 100, 101, 102, 103, 104, 105, 106, 107, 108, 109, 110, 111, 112, 113, 114, 115, 116, 117, 118, 119, 120, 121, 122, 123, 124, 125, 126, 127, 128, 129] (by decide +kernel) (by decide +kernel)
set_option maxRecDepth 20000 in
theorem gX5_oftenSwapped_X5_oftenOf : GoodIn wsX5_oftenSwapped (wsV RX5 229 RX5 yX5_oftenOf wsX5_oftenOf) := goodIn_app (goodIn_of _ (by decide +kernel)) ggX5_oftenSwapped_X5_oftenOf
theorem dX5_oftenSwapped_0 : decode cX5_oftenSwapped 0 = .ok (.aload_n 0, 1) := by decide +kernel
theorem dX5_oftenSwapped_1 : decode cX5_oftenSwapped 1 = .ok (.getfield 19, 3) := by decide +kernel
theorem dX5_oftenSwapped_4 : decode cX5_oftenSwapped 4 = .ok (.iload_n 1, 1) := by decide +kernel
theorem dX5_oftenSwapped_5 : decode cX5_oftenSwapped 5 = .ok (.iaload, 1) := by decide +kernel
theorem dX5_oftenSwapped_6 : decode cX5_oftenSwapped 6 = .ok (.istore 5, 2) := by decide +kernel
theorem dX5_oftenSwapped_8 : decode cX5_oftenSwapped 8 = .ok (.aload_n 0, 1) := by decide +kernel
theorem dX5_oftenSwapped_9 : decode cX5_oftenSwapped 9 = .ok (.getfield 19, 3) := by decide +kernel
theorem dX5_oftenSwapped_12 : decode cX5_oftenSwapped 12 = .ok (.iload_n 1, 1) := by decide +kernel
theorem dX5_oftenSwapped_13 : decode cX5_oftenSwapped 13 = .ok (.aload_n 0, 1) := by decide +kernel
theorem dX5_oftenSwapped_14 : decode cX5_oftenSwapped 14 = .ok (.getfield 19, 3) := by decide +kernel
theorem dX5_oftenSwapped_17 : decode cX5_oftenSwapped 17 = .ok (.iload_n 2, 1) := by decide +kernel
theorem dX5_oftenSwapped_18 : decode cX5_oftenSwapped 18 = .ok (.iaload, 1) := by decide +kernel
theorem dX5_oftenSwapped_19 : decode cX5_oftenSwapped 19 = .ok (.iastore, 1) := by decide +kernel
theorem dX5_oftenSwapped_20 : decode cX5_oftenSwapped 20 = .ok (.aload_n 0, 1) := by decide +kernel
theorem dX5_oftenSwapped_21 : decode cX5_oftenSwapped 21 = .ok (.getfield 19, 3) := by decide +kernel
theorem dX5_oftenSwapped_24 : decode cX5_oftenSwapped 24 = .ok (.iload_n 2, 1) := by decide +kernel
theorem dX5_oftenSwapped_25 : decode cX5_oftenSwapped 25 = .ok (.iload 5, 2) := by decide +kernel
theorem dX5_oftenSwapped_27 : decode cX5_oftenSwapped 27 = .ok (.iastore, 1) := by decide +kernel
theorem dX5_oftenSwapped_28 : decode cX5_oftenSwapped 28 = .ok (.aload_n 0, 1) := by decide +kernel
theorem dX5_oftenSwapped_29 : decode cX5_oftenSwapped 29 = .ok (.iload_n 3, 1) := by decide +kernel
theorem dX5_oftenSwapped_30 : decode cX5_oftenSwapped 30 = .ok (.iload 4, 2) := by decide +kernel
theorem dX5_oftenSwapped_32 : decode cX5_oftenSwapped 32 = .ok (.invokevirtual 229, 3) := by decide +kernel
theorem dX5_oftenSwapped_35 : decode cX5_oftenSwapped 35 = .ok (.istore 6, 2) := by decide +kernel
theorem dX5_oftenSwapped_37 : decode cX5_oftenSwapped 37 = .ok (.aload_n 0, 1) := by decide +kernel
theorem dX5_oftenSwapped_38 : decode cX5_oftenSwapped 38 = .ok (.getfield 19, 3) := by decide +kernel
theorem dX5_oftenSwapped_41 : decode cX5_oftenSwapped 41 = .ok (.iload_n 2, 1) := by decide +kernel
theorem dX5_oftenSwapped_42 : decode cX5_oftenSwapped 42 = .ok (.aload_n 0, 1) := by decide +kernel
theorem dX5_oftenSwapped_43 : decode cX5_oftenSwapped 43 = .ok (.getfield 19, 3) := by decide +kernel
theorem dX5_oftenSwapped_46 : decode cX5_oftenSwapped 46 = .ok (.iload_n 1, 1) := by decide +kernel
theorem dX5_oftenSwapped_47 : decode cX5_oftenSwapped 47 = .ok (.iaload, 1) := by decide +kernel
theorem dX5_oftenSwapped_48 : decode cX5_oftenSwapped 48 = .ok (.iastore, 1) := by decide +kernel
theorem dX5_oftenSwapped_49 : decode cX5_oftenSwapped 49 = .ok (.aload_n 0, 1) := by decide +kernel
theorem dX5_oftenSwapped_50 : decode cX5_oftenSwapped 50 = .ok (.getfield 19, 3) := by decide +kernel
theorem dX5_oftenSwapped_53 : decode cX5_oftenSwapped 53 = .ok (.iload_n 1, 1) := by decide +kernel
theorem dX5_oftenSwapped_54 : decode cX5_oftenSwapped 54 = .ok (.iload 5, 2) := by decide +kernel
theorem dX5_oftenSwapped_56 : decode cX5_oftenSwapped 56 = .ok (.iastore, 1) := by decide +kernel
theorem dX5_oftenSwapped_57 : decode cX5_oftenSwapped 57 = .ok (.iload 6, 2) := by decide +kernel
theorem dX5_oftenSwapped_59 : decode cX5_oftenSwapped 59 = .ok (.ireturn, 1) := by decide +kernel
set_option maxRecDepth 20000 in
theorem ggX5_swap_X5_isShore : GoodIn wsX5_swap wsX5_isShore := goodIn_r _ [6, 1, 116, 117, 118, 119, 120, 121, 122, 123, 124, 125, 126, 127, 128, 129, 130, 131, 132, 133, 134, 135, 136, 137, 138, 139, 140, 141, 142, 143, 144, 145, 146, 147, 148] (by decide +kernel) (by decide +kernel)
set_option maxRecDepth 20000 in
theorem gX5_swap_X5_isShore : GoodIn wsX5_swap (wsV RX5 123 RX5 yX5_isShore wsX5_isShore) := goodIn_app (goodIn_of _ (by decide +kernel)) ggX5_swap_X5_isShore
set_option maxRecDepth 20000 in
theorem ggX5_swap_X5_notHours : GoodIn wsX5_swap wsX5_notHours := goodIn_r _ [9, 10, 11, 5, 12] (by decide +kernel) (by decide +kernel)
set_option maxRecDepth 20000 in
theorem gX5_swap_X5_notHours : GoodIn wsX5_swap (va_wsS RX5 207 yX5_notHours wsX5_notHours) := goodIn_app (goodIn_of _ (by decide +kernel)) ggX5_swap_X5_notHours
set_option maxRecDepth 20000 in
theorem ggX5_swap_X5_no : GoodIn wsX5_swap wsX5_no := goodIn_r _ [16, 17, 116, 117, 118, 119, 120, 121, 122, 123, 124, 125, 126, 127, 128, 129, 130, 131, 132, 133, 134, 135, 136, 137, 138, 139, 140, 141, 142, 143, 144, 145, 146, 147, 148] (by decide +kernel) (by decide +kernel)
set_option maxRecDepth 20000 in
theorem gX5_swap_X5_no : GoodIn wsX5_swap (wsV RX5 77 RX5 yX5_no wsX5_no) := goodIn_app (goodIn_of _ (by decide +kernel)) ggX5_swap_X5_no
set_option maxRecDepth 20000 in
theorem ggX5_swap_X5_oftenOf : GoodIn wsX5_swap wsX5_oftenOf := goodIn_r _ [21, 22, 23, 24, 25, 5, 26, 27, 28, 29, 30, 31, 32, 33, 34, 35, 36, 37, 38, 39, 40, 41, 42, 43, 44, 45, 46, 1, 47, 48, 49, 50, 51, 52, 53, 54, 55, 56, 57, 58, 59, 60, 61, 62, 63, 64, 65, 66, 67, 68, 69, 70, 71, 72, 73, 74, 75, 76, 77, 78, 79, 80, 81, 82, 83, 84, 85, 86, 87, 88, 89, 90, 91, 92, 93, 94, 95, 96, 97, 98, 99, 100, 101, 102, 103, 104, 105, 106, 107, 108, 109, 110, 111, 116, 117, 118, 119, 120, 121, 122, 123, 124, 125, 126, 127, 128, 129, 130, 131, 132, 133, 134, 135, 136, 137, 138, 139, 140, 141, 142, 143, 144, 145, 146, 147, 148] (by decide +kernel) (by decide +kernel)
set_option maxRecDepth 20000 in
theorem gX5_swap_X5_oftenOf : GoodIn wsX5_swap (wsV RX5 229 RX5 yX5_oftenOf wsX5_oftenOf) := goodIn_app (goodIn_of _ (by decide +kernel)) ggX5_swap_X5_oftenOf
set_option maxRecDepth 20000 in
theorem ggX5_swap_X5_oftenSwapped : GoodIn wsX5_swap wsX5_oftenSwapped := goodIn_r _ [115, 44, 18, 19, 20, 5, 21, 22, 23, 24, 25, 26, 27, 28, 29, 30, 31, 32, 33, 34, 35, 36, 37, 38, 39, 40, 41, 42, 43, 45, 46, 1, 47, 48, 49, 50, 51, 52, 53, 54, 55, 56, 57, 58, 59, 60, 61, 62, 63, 64, 65, 66, 67, 68, 69, 70, 71, 72, 73, 74, 75, 76, 77, 78, 79, 80, 81, 82, 83, 84, 85, 86, 87, 88, 89, 90, 91, 92, 93, 94, 95, 96, 97, 98, 99, 100, 101, 102, 103, 104, 105, 106, 107, 108, 109, 110, 111, 116, 117, 118, 119, 120, 121, 122, 123, 124, 125, 126, 127, 128, 129, 130, 131, 132, 133, 134, 135, 136, 137, 138, 139, 140, 141, 142, 143, 144, 145, 146, 147, 148] (by decide +kernel) (by decide +kernel)
set_option maxRecDepth 20000 in
theorem gX5_swap_X5_oftenSwapped : GoodIn wsX5_swap (wsV RX5 290 RX5 yX5_oftenSwapped wsX5_oftenSwapped) := goodIn_app (goodIn_of _ (by decide +kernel)) ggX5_swap_X5_oftenSwapped
theorem dX5_swap_0 : decode cX5_swap 0 = .ok (.aload_n 0, 1) := by decide +kernel
theorem dX5_swap_1 : decode cX5_swap 1 = .ok (.iload_n 1, 1) := by decide +kernel
theorem dX5_swap_2 : decode cX5_swap 2 = .ok (.invokevirtual 123, 3) := by decide +kernel
theorem dX5_swap_5 : decode cX5_swap 5 = .ok (.ifCond .ne 7, 3) := by decide +kernel
theorem dX5_swap_8 : decode cX5_swap 8 = .ok (.iconst (-1), 1) := by decide +kernel
theorem dX5_swap_9 : decode cX5_swap 9 = .ok (.goto 7, 3) := by decide +kernel
theorem dX5_swap_12 : decode cX5_swap 12 = .ok (.iload_n 2, 1) := by decide +kernel
theorem dX5_swap_13 : decode cX5_swap 13 = .ok (.invokestatic 207, 3) := by decide +kernel
theorem dX5_swap_16 : decode cX5_swap 16 = .ok (.istore_n 3, 1) := by decide +kernel
theorem dX5_swap_17 : decode cX5_swap 17 = .ok (.iload_n 3, 1) := by decide +kernel
theorem dX5_swap_18 : decode cX5_swap 18 = .ok (.ifCond .eq 9, 3) := by decide +kernel
theorem dX5_swap_21 : decode cX5_swap 21 = .ok (.aload_n 0, 1) := by decide +kernel
theorem dX5_swap_22 : decode cX5_swap 22 = .ok (.iload_n 3, 1) := by decide +kernel
theorem dX5_swap_23 : decode cX5_swap 23 = .ok (.invokevirtual 77, 3) := by decide +kernel
theorem dX5_swap_26 : decode cX5_swap 26 = .ok (.ireturn, 1) := by decide +kernel
theorem dX5_swap_27 : decode cX5_swap 27 = .ok (.bipush (-9), 2) := by decide +kernel
theorem dX5_swap_29 : decode cX5_swap 29 = .ok (.istore 4, 2) := by decide +kernel
theorem dX5_swap_31 : decode cX5_swap 31 = .ok (.aload_n 0, 1) := by decide +kernel
theorem dX5_swap_32 : decode cX5_swap 32 = .ok (.iload_n 1, 1) := by decide +kernel
theorem dX5_swap_33 : decode cX5_swap 33 = .ok (.iload_n 2, 1) := by decide +kernel
theorem dX5_swap_34 : decode cX5_swap 34 = .ok (.invokevirtual 229, 3) := by decide +kernel
theorem dX5_swap_37 : decode cX5_swap 37 = .ok (.istore 5, 2) := by decide +kernel
theorem dX5_swap_39 : decode cX5_swap 39 = .ok (.iconst 0, 1) := by decide +kernel
theorem dX5_swap_40 : decode cX5_swap 40 = .ok (.istore 6, 2) := by decide +kernel
theorem dX5_swap_42 : decode cX5_swap 42 = .ok (.iload 6, 2) := by decide +kernel
theorem dX5_swap_44 : decode cX5_swap 44 = .ok (.aload_n 0, 1) := by decide +kernel
theorem dX5_swap_45 : decode cX5_swap 45 = .ok (.getfield 67, 3) := by decide +kernel
theorem dX5_swap_48 : decode cX5_swap 48 = .ok (.if_icmp .ge 66, 3) := by decide +kernel
theorem dX5_swap_51 : decode cX5_swap 51 = .ok (.iload 6, 2) := by decide +kernel
theorem dX5_swap_53 : decode cX5_swap 53 = .ok (.iconst 1, 1) := by decide +kernel
theorem dX5_swap_54 : decode cX5_swap 54 = .ok (.iadd, 1) := by decide +kernel
theorem dX5_swap_55 : decode cX5_swap 55 = .ok (.istore 7, 2) := by decide +kernel
theorem dX5_swap_57 : decode cX5_swap 57 = .ok (.iload 7, 2) := by decide +kernel
theorem dX5_swap_59 : decode cX5_swap 59 = .ok (.aload_n 0, 1) := by decide +kernel
theorem dX5_swap_60 : decode cX5_swap 60 = .ok (.getfield 67, 3) := by decide +kernel
theorem dX5_swap_63 : decode cX5_swap 63 = .ok (.if_icmp .ge 45, 3) := by decide +kernel
theorem dX5_swap_66 : decode cX5_swap 66 = .ok (.aload_n 0, 1) := by decide +kernel
theorem dX5_swap_67 : decode cX5_swap 67 = .ok (.iload 6, 2) := by decide +kernel
theorem dX5_swap_69 : decode cX5_swap 69 = .ok (.iload 7, 2) := by decide +kernel
theorem dX5_swap_71 : decode cX5_swap 71 = .ok (.iload_n 1, 1) := by decide +kernel
theorem dX5_swap_72 : decode cX5_swap 72 = .ok (.iload_n 2, 1) := by decide +kernel
theorem dX5_swap_73 : decode cX5_swap 73 = .ok (.invokevirtual 290, 3) := by decide +kernel
theorem dX5_swap_76 : decode cX5_swap 76 = .ok (.istore 8, 2) := by decide +kernel
theorem dX5_swap_78 : decode cX5_swap 78 = .ok (.iload 8, 2) := by decide +kernel
theorem dX5_swap_80 : decode cX5_swap 80 = .ok (.iload 5, 2) := by decide +kernel
theorem dX5_swap_82 : decode cX5_swap 82 = .ok (.if_icmp .gt 6, 3) := by decide +kernel
theorem dX5_swap_85 : decode cX5_swap 85 = .ok (.goto 17, 3) := by decide +kernel
theorem dX5_swap_88 : decode cX5_swap 88 = .ok (.bipush 10, 2) := by decide +kernel
theorem dX5_swap_90 : decode cX5_swap 90 = .ok (.iload 6, 2) := by decide +kernel
theorem dX5_swap_92 : decode cX5_swap 92 = .ok (.imul, 1) := by decide +kernel
theorem dX5_swap_93 : decode cX5_swap 93 = .ok (.iload 7, 2) := by decide +kernel
theorem dX5_swap_95 : decode cX5_swap 95 = .ok (.iadd, 1) := by decide +kernel
theorem dX5_swap_96 : decode cX5_swap 96 = .ok (.istore 4, 2) := by decide +kernel
theorem dX5_swap_98 : decode cX5_swap 98 = .ok (.iload 8, 2) := by decide +kernel
theorem dX5_swap_100 : decode cX5_swap 100 = .ok (.istore 5, 2) := by decide +kernel
theorem dX5_swap_102 : decode cX5_swap 102 = .ok (.iinc 7 1, 3) := by decide +kernel
theorem dX5_swap_105 : decode cX5_swap 105 = .ok (.goto (-48), 3) := by decide +kernel
theorem dX5_swap_108 : decode cX5_swap 108 = .ok (.iinc 6 1, 3) := by decide +kernel
theorem dX5_swap_111 : decode cX5_swap 111 = .ok (.goto (-69), 3) := by decide +kernel
theorem dX5_swap_114 : decode cX5_swap 114 = .ok (.iload 4, 2) := by decide +kernel
theorem dX5_swap_116 : decode cX5_swap 116 = .ok (.ireturn, 1) := by decide +kernel
set_option maxRecDepth 20000 in
theorem ggX5_ring_X5_notHours : GoodIn wsX5_ring wsX5_notHours := goodIn_r _ [5, 6, 7, 4, 8] (by decide +kernel) (by decide +kernel)
set_option maxRecDepth 20000 in
theorem gX5_ring_X5_notHours : GoodIn wsX5_ring (va_wsS RX5 207 yX5_notHours wsX5_notHours) := goodIn_app (goodIn_of _ (by decide +kernel)) ggX5_ring_X5_notHours
set_option maxRecDepth 20000 in
theorem ggX5_ring_X5_no : GoodIn wsX5_ring wsX5_no := goodIn_r _ [12, 13, 99, 100, 101, 102, 103, 104, 105, 106, 107, 108, 109, 110, 111, 112, 113, 114, 115, 116, 117, 118, 119, 120, 121, 122, 123, 124, 125, 126, 127, 128, 129, 130, 131] (by decide +kernel) (by decide +kernel)
set_option maxRecDepth 20000 in
theorem gX5_ring_X5_no : GoodIn wsX5_ring (wsV RX5 77 RX5 yX5_no wsX5_no) := goodIn_app (goodIn_of _ (by decide +kernel)) ggX5_ring_X5_no
set_option maxRecDepth 20000 in
theorem ggX5_ring_X5_thinks : GoodIn wsX5_ring wsX5_thinks := goodIn_r _ [17, 18, 19, 20, 4, 21, 22, 23, 24, 25, 26, 27, 28, 29, 30, 1, 31, 32, 33, 34, 35, 36, 37, 38, 39, 40, 41, 42, 99, 100, 101, 102, 103, 104, 105, 106, 107, 108, 109, 110, 111, 112, 113, 114, 115, 116, 117, 118, 119, 120, 121, 122, 123, 124, 125, 126, 127, 128, 129, 130, 131] (by decide +kernel) (by decide +kernel)
set_option maxRecDepth 20000 in
theorem gX5_ring_X5_thinks : GoodIn wsX5_ring (wsV RX5 210 RX5 yX5_thinks wsX5_thinks) := goodIn_app (goodIn_of _ (by decide +kernel)) ggX5_ring_X5_thinks
set_option maxRecDepth 20000 in
theorem ggX5_ring_X5_goes : GoodIn wsX5_ring wsX5_goes := goodIn_r _ [46, 47, 48, 49, 4, 50, 32, 29, 27, 26, 33, 28, 51, 52, 53, 54, 55, 56, 57, 58, 30, 1, 59, 60, 61, 62, 63, 64, 65, 24, 25, 66, 67, 68, 69, 70, 71, 72, 73, 74, 75, 76, 77, 78, 79, 80, 81, 82, 83, 31, 84, 85, 86, 87, 88, 89, 90, 91, 92, 93, 94, 99, 100, 101, 102, 103, 104, 105, 106, 107, 108, 109, 110, 111, 112, 113, 114, 115, 116, 117, 118, 119, 120, 121, 122, 123, 124, 125, 126, 127, 128, 129, 130, 131] (by decide +kernel) (by decide +kernel)
set_option maxRecDepth 20000 in
theorem gX5_ring_X5_goes : GoodIn wsX5_ring (wsV RX5 116 RX5 yX5_goes wsX5_goes) := goodIn_app (goodIn_of _ (by decide +kernel)) ggX5_ring_X5_goes
set_option maxRecDepth 20000 in
theorem ggX5_ring_X5_forgets : GoodIn wsX5_ring wsX5_forgets := goodIn_r _ [98, 18, 19, 20, 4, 21, 22, 23, 24, 25, 26, 27, 28, 29, 30, 1, 31, 32, 33, 34, 35, 36, 37, 38, 39, 40, 41, 42, 99, 100, 101, 102, 103, 104, 105, 106, 107, 108, 109, 110, 111, 112, 113, 114, 115, 116, 117, 118, 119, 120, 121, 122, 123, 124, 125, 126, 127, 128, 129, 130, 131] (by decide +kernel) (by decide +kernel)
set_option maxRecDepth 20000 in
theorem gX5_ring_X5_forgets : GoodIn wsX5_ring (wsV RX5 213 RX5 yX5_forgets wsX5_forgets) := goodIn_app (goodIn_of _ (by decide +kernel)) ggX5_ring_X5_forgets
theorem dX5_ring_0 : decode cX5_ring 0 = .ok (.iload_n 1, 1) := by decide +kernel
theorem dX5_ring_1 : decode cX5_ring 1 = .ok (.invokestatic 207, 3) := by decide +kernel
theorem dX5_ring_4 : decode cX5_ring 4 = .ok (.istore_n 2, 1) := by decide +kernel
theorem dX5_ring_5 : decode cX5_ring 5 = .ok (.iload_n 2, 1) := by decide +kernel
theorem dX5_ring_6 : decode cX5_ring 6 = .ok (.ifCond .eq 9, 3) := by decide +kernel
theorem dX5_ring_9 : decode cX5_ring 9 = .ok (.aload_n 0, 1) := by decide +kernel
theorem dX5_ring_10 : decode cX5_ring 10 = .ok (.iload_n 2, 1) := by decide +kernel
theorem dX5_ring_11 : decode cX5_ring 11 = .ok (.invokevirtual 77, 3) := by decide +kernel
theorem dX5_ring_14 : decode cX5_ring 14 = .ok (.ireturn, 1) := by decide +kernel
theorem dX5_ring_15 : decode cX5_ring 15 = .ok (.aload_n 0, 1) := by decide +kernel
theorem dX5_ring_16 : decode cX5_ring 16 = .ok (.invokevirtual 210, 3) := by decide +kernel
theorem dX5_ring_19 : decode cX5_ring 19 = .ok (.aload_n 0, 1) := by decide +kernel
theorem dX5_ring_20 : decode cX5_ring 20 = .ok (.iload_n 1, 1) := by decide +kernel
theorem dX5_ring_21 : decode cX5_ring 21 = .ok (.invokevirtual 116, 3) := by decide +kernel
theorem dX5_ring_24 : decode cX5_ring 24 = .ok (.aload_n 0, 1) := by decide +kernel
theorem dX5_ring_25 : decode cX5_ring 25 = .ok (.getfield 55, 3) := by decide +kernel
theorem dX5_ring_28 : decode cX5_ring 28 = .ok (.istore_n 3, 1) := by decide +kernel
theorem dX5_ring_29 : decode cX5_ring 29 = .ok (.aload_n 0, 1) := by decide +kernel
theorem dX5_ring_30 : decode cX5_ring 30 = .ok (.bipush 24, 2) := by decide +kernel
theorem dX5_ring_32 : decode cX5_ring 32 = .ok (.invokevirtual 116, 3) := by decide +kernel
theorem dX5_ring_35 : decode cX5_ring 35 = .ok (.aload_n 0, 1) := by decide +kernel
theorem dX5_ring_36 : decode cX5_ring 36 = .ok (.getfield 55, 3) := by decide +kernel
theorem dX5_ring_39 : decode cX5_ring 39 = .ok (.iload_n 3, 1) := by decide +kernel
theorem dX5_ring_40 : decode cX5_ring 40 = .ok (.if_icmp .ne 8, 3) := by decide +kernel
theorem dX5_ring_43 : decode cX5_ring 43 = .ok (.bipush 24, 2) := by decide +kernel
theorem dX5_ring_45 : decode cX5_ring 45 = .ok (.goto 5, 3) := by decide +kernel
theorem dX5_ring_48 : decode cX5_ring 48 = .ok (.bipush (-9), 2) := by decide +kernel
theorem dX5_ring_50 : decode cX5_ring 50 = .ok (.istore 4, 2) := by decide +kernel
theorem dX5_ring_52 : decode cX5_ring 52 = .ok (.aload_n 0, 1) := by decide +kernel
theorem dX5_ring_53 : decode cX5_ring 53 = .ok (.bipush 24, 2) := by decide +kernel
theorem dX5_ring_55 : decode cX5_ring 55 = .ok (.invokevirtual 116, 3) := by decide +kernel
theorem dX5_ring_58 : decode cX5_ring 58 = .ok (.iload 4, 2) := by decide +kernel
theorem dX5_ring_60 : decode cX5_ring 60 = .ok (.ifCond .ge 16, 3) := by decide +kernel
theorem dX5_ring_63 : decode cX5_ring 63 = .ok (.aload_n 0, 1) := by decide +kernel
theorem dX5_ring_64 : decode cX5_ring 64 = .ok (.getfield 55, 3) := by decide +kernel
theorem dX5_ring_67 : decode cX5_ring 67 = .ok (.iload_n 3, 1) := by decide +kernel
theorem dX5_ring_68 : decode cX5_ring 68 = .ok (.if_icmp .ne 8, 3) := by decide +kernel
theorem dX5_ring_71 : decode cX5_ring 71 = .ok (.bipush 48, 2) := by decide +kernel
theorem dX5_ring_73 : decode cX5_ring 73 = .ok (.goto 5, 3) := by decide +kernel
theorem dX5_ring_76 : decode cX5_ring 76 = .ok (.iload 4, 2) := by decide +kernel
theorem dX5_ring_78 : decode cX5_ring 78 = .ok (.istore 4, 2) := by decide +kernel
theorem dX5_ring_80 : decode cX5_ring 80 = .ok (.aload_n 0, 1) := by decide +kernel
theorem dX5_ring_81 : decode cX5_ring 81 = .ok (.invokevirtual 213, 3) := by decide +kernel
theorem dX5_ring_84 : decode cX5_ring 84 = .ok (.iload 4, 2) := by decide +kernel
theorem dX5_ring_86 : decode cX5_ring 86 = .ok (.ireturn, 1) := by decide +kernel
set_option maxRecDepth 20000 in
theorem ggX5_row_X5_bound : GoodIn wsX5_row wsX5_bound := goodIn_r _ [6] (by decide +kernel) (by decide +kernel)
set_option maxRecDepth 20000 in
theorem gX5_row_X5_bound : GoodIn wsX5_row (va_wsS RX5 70 yX5_bound wsX5_bound) := goodIn_app (goodIn_of _ (by decide +kernel)) ggX5_row_X5_bound
set_option maxRecDepth 20000 in
theorem ggX5_row_X5_no : GoodIn wsX5_row wsX5_no := goodIn_r _ [10, 11, 12, 13, 14, 15, 16, 17, 18, 19, 20, 21, 22, 23, 24, 25, 26, 27, 28, 29, 30, 31, 32, 33, 34, 35, 36, 37, 38, 39, 40, 41, 42, 43, 44] (by decide +kernel) (by decide +kernel)
set_option maxRecDepth 20000 in
theorem gX5_row_X5_no : GoodIn wsX5_row (wsV RX5 77 RX5 yX5_no wsX5_no) := goodIn_app (goodIn_of _ (by decide +kernel)) ggX5_row_X5_no
theorem dX5_row_0 : decode cX5_row 0 = .ok (.iload_n 1, 1) := by decide +kernel
theorem dX5_row_1 : decode cX5_row 1 = .ok (.iconst 0, 1) := by decide +kernel
theorem dX5_row_2 : decode cX5_row 2 = .ok (.bipush 99, 2) := by decide +kernel
theorem dX5_row_4 : decode cX5_row 4 = .ok (.invokestatic 70, 3) := by decide +kernel
theorem dX5_row_7 : decode cX5_row 7 = .ok (.istore_n 2, 1) := by decide +kernel
theorem dX5_row_8 : decode cX5_row 8 = .ok (.iload_n 2, 1) := by decide +kernel
theorem dX5_row_9 : decode cX5_row 9 = .ok (.ifCond .ne 15, 3) := by decide +kernel
theorem dX5_row_12 : decode cX5_row 12 = .ok (.aload_n 0, 1) := by decide +kernel
theorem dX5_row_13 : decode cX5_row 13 = .ok (.getfield 250, 3) := by decide +kernel
theorem dX5_row_16 : decode cX5_row 16 = .ok (.bipush 12, 2) := by decide +kernel
theorem dX5_row_18 : decode cX5_row 18 = .ok (.if_icmp .ne 6, 3) := by decide +kernel
theorem dX5_row_21 : decode cX5_row 21 = .ok (.bipush (-6), 2) := by decide +kernel
theorem dX5_row_23 : decode cX5_row 23 = .ok (.istore_n 2, 1) := by decide +kernel
theorem dX5_row_24 : decode cX5_row 24 = .ok (.iload_n 2, 1) := by decide +kernel
theorem dX5_row_25 : decode cX5_row 25 = .ok (.ifCond .eq 9, 3) := by decide +kernel
theorem dX5_row_28 : decode cX5_row 28 = .ok (.aload_n 0, 1) := by decide +kernel
theorem dX5_row_29 : decode cX5_row 29 = .ok (.iload_n 2, 1) := by decide +kernel
theorem dX5_row_30 : decode cX5_row 30 = .ok (.invokevirtual 77, 3) := by decide +kernel
theorem dX5_row_33 : decode cX5_row 33 = .ok (.ireturn, 1) := by decide +kernel
theorem dX5_row_34 : decode cX5_row 34 = .ok (.aload_n 0, 1) := by decide +kernel
theorem dX5_row_35 : decode cX5_row 35 = .ok (.getfield 49, 3) := by decide +kernel
theorem dX5_row_38 : decode cX5_row 38 = .ok (.aload_n 0, 1) := by decide +kernel
theorem dX5_row_39 : decode cX5_row 39 = .ok (.getfield 250, 3) := by decide +kernel
theorem dX5_row_42 : decode cX5_row 42 = .ok (.iload_n 1, 1) := by decide +kernel
theorem dX5_row_43 : decode cX5_row 43 = .ok (.iastore, 1) := by decide +kernel
theorem dX5_row_44 : decode cX5_row 44 = .ok (.aload_n 0, 1) := by decide +kernel
theorem dX5_row_45 : decode cX5_row 45 = .ok (.dup, 1) := by decide +kernel
theorem dX5_row_46 : decode cX5_row 46 = .ok (.getfield 250, 3) := by decide +kernel
theorem dX5_row_49 : decode cX5_row 49 = .ok (.iconst 1, 1) := by decide +kernel
theorem dX5_row_50 : decode cX5_row 50 = .ok (.iadd, 1) := by decide +kernel
theorem dX5_row_51 : decode cX5_row 51 = .ok (.putfield 250, 3) := by decide +kernel
theorem dX5_row_54 : decode cX5_row 54 = .ok (.aload_n 0, 1) := by decide +kernel
theorem dX5_row_55 : decode cX5_row 55 = .ok (.getfield 250, 3) := by decide +kernel
theorem dX5_row_58 : decode cX5_row 58 = .ok (.ireturn, 1) := by decide +kernel
set_option maxRecDepth 20000 in
theorem ggX5_judge_X5_thinks : GoodIn wsX5_judge wsX5_thinks := goodIn_r _ [8, 9, 10, 11, 7, 12, 13, 14, 15, 16, 17, 18, 19, 20, 21, 22, 23, 2, 24, 25, 26, 27, 28, 29, 30, 31, 32, 33, 86, 87, 88, 89, 90, 91, 92, 93, 94, 95, 96, 97, 98, 99, 100, 101, 102, 103, 104, 105, 106, 107, 108, 109, 110, 111, 112, 113, 114, 115, 116, 117, 118] (by decide +kernel) (by decide +kernel)
set_option maxRecDepth 20000 in
theorem gX5_judge_X5_thinks : GoodIn wsX5_judge (wsV RX5 210 RX5 yX5_thinks wsX5_thinks) := goodIn_app (goodIn_of _ (by decide +kernel)) ggX5_judge_X5_thinks
set_option maxRecDepth 20000 in
theorem ggX5_judge_X5_loudestAt : GoodIn wsX5_judge wsX5_loudestAt := goodIn_r _ [37, 20, 38, 39, 40, 7, 41, 21, 18, 17, 22, 42, 43, 44, 45, 46, 47, 48, 15, 16, 49, 50, 51, 52, 53, 54, 55, 56, 57, 58, 59, 60, 61, 62, 86, 87, 88, 89, 90, 91, 92, 93, 94, 95, 96, 97, 98, 99, 100, 101, 102, 103, 104, 105, 106, 107, 108, 109, 110, 111, 112, 113, 114, 115, 116, 117, 118] (by decide +kernel) (by decide +kernel)
set_option maxRecDepth 20000 in
theorem gX5_judge_X5_loudestAt : GoodIn wsX5_judge (wsV RX5 188 RX5 yX5_loudestAt wsX5_loudestAt) := goodIn_app (goodIn_of _ (by decide +kernel)) ggX5_judge_X5_loudestAt
set_option maxRecDepth 20000 in
theorem ggX5_judge_X5_goesHour : GoodIn wsX5_judge wsX5_goesHour := goodIn_r _ [66, 2, 20, 18, 17, 24, 19, 34, 35, 36, 7, 37, 38, 39, 40, 41, 21, 22, 42, 43, 44, 45, 46, 47, 48, 15, 16, 49, 50, 51, 52, 53, 54, 55, 56, 57, 58, 59, 60, 61, 62, 67, 68, 69, 70, 23, 71, 72, 73, 74, 75, 76, 77, 78, 79, 80, 81, 86, 87, 88, 89, 90, 91, 92, 93, 94, 95, 96, 97, 98, 99, 100, 101, 102, 103, 104, 105, 106, 107, 108, 109, 110, 111, 112, 113, 114, 115, 116, 117, 118] (by decide +kernel) (by decide +kernel)
set_option maxRecDepth 20000 in
theorem gX5_judge_X5_goesHour : GoodIn wsX5_judge (wsV RX5 197 RX5 yX5_goesHour wsX5_goesHour) := goodIn_app (goodIn_of _ (by decide +kernel)) ggX5_judge_X5_goesHour
set_option maxRecDepth 20000 in
theorem ggX5_judge_X5_forgets : GoodIn wsX5_judge wsX5_forgets := goodIn_r _ [85, 9, 10, 11, 7, 12, 13, 14, 15, 16, 17, 18, 19, 20, 21, 22, 23, 2, 24, 25, 26, 27, 28, 29, 30, 31, 32, 33, 86, 87, 88, 89, 90, 91, 92, 93, 94, 95, 96, 97, 98, 99, 100, 101, 102, 103, 104, 105, 106, 107, 108, 109, 110, 111, 112, 113, 114, 115, 116, 117, 118] (by decide +kernel) (by decide +kernel)
set_option maxRecDepth 20000 in
theorem gX5_judge_X5_forgets : GoodIn wsX5_judge (wsV RX5 213 RX5 yX5_forgets wsX5_forgets) := goodIn_app (goodIn_of _ (by decide +kernel)) ggX5_judge_X5_forgets
theorem dX5_judge_0 : decode cX5_judge 0 = .ok (.aload_n 0, 1) := by decide +kernel
theorem dX5_judge_1 : decode cX5_judge 1 = .ok (.getfield 250, 3) := by decide +kernel
theorem dX5_judge_4 : decode cX5_judge 4 = .ok (.istore_n 1, 1) := by decide +kernel
theorem dX5_judge_5 : decode cX5_judge 5 = .ok (.aload_n 0, 1) := by decide +kernel
theorem dX5_judge_6 : decode cX5_judge 6 = .ok (.iconst 0, 1) := by decide +kernel
theorem dX5_judge_7 : decode cX5_judge 7 = .ok (.putfield 250, 3) := by decide +kernel
theorem dX5_judge_10 : decode cX5_judge 10 = .ok (.aload_n 0, 1) := by decide +kernel
theorem dX5_judge_11 : decode cX5_judge 11 = .ok (.invokevirtual 210, 3) := by decide +kernel
theorem dX5_judge_14 : decode cX5_judge 14 = .ok (.bipush (-9), 2) := by decide +kernel
theorem dX5_judge_16 : decode cX5_judge 16 = .ok (.istore_n 2, 1) := by decide +kernel
theorem dX5_judge_17 : decode cX5_judge 17 = .ok (.iconst 0, 1) := by decide +kernel
theorem dX5_judge_18 : decode cX5_judge 18 = .ok (.istore_n 3, 1) := by decide +kernel
theorem dX5_judge_19 : decode cX5_judge 19 = .ok (.iload_n 3, 1) := by decide +kernel
theorem dX5_judge_20 : decode cX5_judge 20 = .ok (.iload_n 1, 1) := by decide +kernel
theorem dX5_judge_21 : decode cX5_judge 21 = .ok (.if_icmp .ge 56, 3) := by decide +kernel
theorem dX5_judge_24 : decode cX5_judge 24 = .ok (.iload_n 2, 1) := by decide +kernel
theorem dX5_judge_25 : decode cX5_judge 25 = .ok (.ifCond .ge 52, 3) := by decide +kernel
theorem dX5_judge_28 : decode cX5_judge 28 = .ok (.aload_n 0, 1) := by decide +kernel
theorem dX5_judge_29 : decode cX5_judge 29 = .ok (.aload_n 0, 1) := by decide +kernel
theorem dX5_judge_30 : decode cX5_judge 30 = .ok (.getfield 62, 3) := by decide +kernel
theorem dX5_judge_33 : decode cX5_judge 33 = .ok (.invokevirtual 188, 3) := by decide +kernel
theorem dX5_judge_36 : decode cX5_judge 36 = .ok (.istore 4, 2) := by decide +kernel
theorem dX5_judge_38 : decode cX5_judge 38 = .ok (.iload 4, 2) := by decide +kernel
theorem dX5_judge_40 : decode cX5_judge 40 = .ok (.ifCond .ge 8, 3) := by decide +kernel
theorem dX5_judge_43 : decode cX5_judge 43 = .ok (.bipush 9, 2) := by decide +kernel
theorem dX5_judge_45 : decode cX5_judge 45 = .ok (.goto 5, 3) := by decide +kernel
theorem dX5_judge_48 : decode cX5_judge 48 = .ok (.iload 4, 2) := by decide +kernel
theorem dX5_judge_50 : decode cX5_judge 50 = .ok (.aload_n 0, 1) := by decide +kernel
theorem dX5_judge_51 : decode cX5_judge 51 = .ok (.getfield 49, 3) := by decide +kernel
theorem dX5_judge_54 : decode cX5_judge 54 = .ok (.iload_n 3, 1) := by decide +kernel
theorem dX5_judge_55 : decode cX5_judge 55 = .ok (.iaload, 1) := by decide +kernel
theorem dX5_judge_56 : decode cX5_judge 56 = .ok (.if_icmp .ne 8, 3) := by decide +kernel
theorem dX5_judge_59 : decode cX5_judge 59 = .ok (.bipush (-9), 2) := by decide +kernel
theorem dX5_judge_61 : decode cX5_judge 61 = .ok (.goto 4, 3) := by decide +kernel
theorem dX5_judge_64 : decode cX5_judge 64 = .ok (.iload_n 3, 1) := by decide +kernel
theorem dX5_judge_65 : decode cX5_judge 65 = .ok (.istore_n 2, 1) := by decide +kernel
theorem dX5_judge_66 : decode cX5_judge 66 = .ok (.aload_n 0, 1) := by decide +kernel
theorem dX5_judge_67 : decode cX5_judge 67 = .ok (.iconst 0, 1) := by decide +kernel
theorem dX5_judge_68 : decode cX5_judge 68 = .ok (.invokevirtual 197, 3) := by decide +kernel
theorem dX5_judge_71 : decode cX5_judge 71 = .ok (.iinc 3 1, 3) := by decide +kernel
theorem dX5_judge_74 : decode cX5_judge 74 = .ok (.goto (-55), 3) := by decide +kernel
theorem dX5_judge_77 : decode cX5_judge 77 = .ok (.aload_n 0, 1) := by decide +kernel
theorem dX5_judge_78 : decode cX5_judge 78 = .ok (.invokevirtual 213, 3) := by decide +kernel
theorem dX5_judge_81 : decode cX5_judge 81 = .ok (.iload_n 2, 1) := by decide +kernel
theorem dX5_judge_82 : decode cX5_judge 82 = .ok (.ireturn, 1) := by decide +kernel
theorem dX5_clear_0 : decode cX5_clear 0 = .ok (.aload_n 0, 1) := by decide +kernel
theorem dX5_clear_1 : decode cX5_clear 1 = .ok (.getfield 250, 3) := by decide +kernel
theorem dX5_clear_4 : decode cX5_clear 4 = .ok (.istore_n 1, 1) := by decide +kernel
theorem dX5_clear_5 : decode cX5_clear 5 = .ok (.aload_n 0, 1) := by decide +kernel
theorem dX5_clear_6 : decode cX5_clear 6 = .ok (.iconst 0, 1) := by decide +kernel
theorem dX5_clear_7 : decode cX5_clear 7 = .ok (.putfield 250, 3) := by decide +kernel
theorem dX5_clear_10 : decode cX5_clear 10 = .ok (.iload_n 1, 1) := by decide +kernel
theorem dX5_clear_11 : decode cX5_clear 11 = .ok (.ireturn, 1) := by decide +kernel
theorem dX5_draw_0 : decode cX5_draw 0 = .ok (.aload_n 0, 1) := by decide +kernel
theorem dX5_draw_1 : decode cX5_draw 1 = .ok (.aload_n 0, 1) := by decide +kernel
theorem dX5_draw_2 : decode cX5_draw 2 = .ok (.getfield 294, 3) := by decide +kernel
theorem dX5_draw_5 : decode cX5_draw 5 = .ok (.ldc_w 297, 3) := by decide +kernel
theorem dX5_draw_8 : decode cX5_draw 8 = .ok (.imul, 1) := by decide +kernel
theorem dX5_draw_9 : decode cX5_draw 9 = .ok (.sipush 12345, 3) := by decide +kernel
theorem dX5_draw_12 : decode cX5_draw 12 = .ok (.iadd, 1) := by decide +kernel
theorem dX5_draw_13 : decode cX5_draw 13 = .ok (.putfield 294, 3) := by decide +kernel
theorem dX5_draw_16 : decode cX5_draw 16 = .ok (.aload_n 0, 1) := by decide +kernel
theorem dX5_draw_17 : decode cX5_draw 17 = .ok (.getfield 294, 3) := by decide +kernel
theorem dX5_draw_20 : decode cX5_draw 20 = .ok (.ldc_w 298, 3) := by decide +kernel
theorem dX5_draw_23 : decode cX5_draw 23 = .ok (.iand, 1) := by decide +kernel
theorem dX5_draw_24 : decode cX5_draw 24 = .ok (.ldc_w 299, 3) := by decide +kernel
theorem dX5_draw_27 : decode cX5_draw 27 = .ok (.idiv, 1) := by decide +kernel
theorem dX5_draw_28 : decode cX5_draw 28 = .ok (.iload_n 1, 1) := by decide +kernel
theorem dX5_draw_29 : decode cX5_draw 29 = .ok (.irem, 1) := by decide +kernel
theorem dX5_draw_30 : decode cX5_draw 30 = .ok (.ireturn, 1) := by decide +kernel
set_option maxRecDepth 20000 in
theorem ggX5_lots_X5_bound : GoodIn wsX5_lots wsX5_bound := goodIn_r _ [8] (by decide +kernel) (by decide +kernel)
set_option maxRecDepth 20000 in
theorem gX5_lots_X5_bound : GoodIn wsX5_lots (va_wsS RX5 70 yX5_bound wsX5_bound) := goodIn_app (goodIn_of _ (by decide +kernel)) ggX5_lots_X5_bound
set_option maxRecDepth 20000 in
theorem ggX5_lots_X5_isIn : GoodIn wsX5_lots wsX5_isIn := goodIn_r _ [11] (by decide +kernel) (by decide +kernel)
set_option maxRecDepth 20000 in
theorem gX5_lots_X5_isIn : GoodIn wsX5_lots (va_wsS RX5 88 yX5_isIn wsX5_isIn) := goodIn_app (goodIn_of _ (by decide +kernel)) ggX5_lots_X5_isIn
set_option maxRecDepth 20000 in
theorem ggX5_lots_X5_no : GoodIn wsX5_lots wsX5_no := goodIn_r _ [15, 16, 111, 112, 113, 114, 115, 116, 117, 118, 119, 120, 121, 122, 123, 124, 125, 126, 127, 128, 129, 130, 131, 132, 133, 134, 135, 136, 137, 138, 139, 140, 141, 142, 143] (by decide +kernel) (by decide +kernel)
set_option maxRecDepth 20000 in
theorem gX5_lots_X5_no : GoodIn wsX5_lots (wsV RX5 77 RX5 yX5_no wsX5_no) := goodIn_app (goodIn_of _ (by decide +kernel)) ggX5_lots_X5_no
set_option maxRecDepth 20000 in
theorem ggX5_lots_X5_allJoy : GoodIn wsX5_lots wsX5_allJoy := goodIn_r _ [20, 3, 21, 111, 112, 113, 114, 115, 116, 117, 118, 119, 120, 121, 122, 123, 124, 125, 126, 127, 128, 129, 130, 131, 132, 133, 134, 135, 136, 137, 138, 139, 140, 141, 142, 143] (by decide +kernel) (by decide +kernel)
set_option maxRecDepth 20000 in
theorem gX5_lots_X5_allJoy : GoodIn wsX5_lots (wsV RX5 284 RX5 yX5_allJoy wsX5_allJoy) := goodIn_app (goodIn_of _ (by decide +kernel)) ggX5_lots_X5_allJoy
set_option maxRecDepth 20000 in
theorem ggX5_lots_X5_thinks : GoodIn wsX5_lots wsX5_thinks := goodIn_r _ [25, 26, 27, 28, 7, 29, 30, 31, 32, 33, 34, 35, 21, 3, 4, 2, 36, 37, 38, 39, 40, 41, 42, 43, 44, 45, 46, 47, 111, 112, 113, 114, 115, 116, 117, 118, 119, 120, 121, 122, 123, 124, 125, 126, 127, 128, 129, 130, 131, 132, 133, 134, 135, 136, 137, 138, 139, 140, 141, 142, 143] (by decide +kernel) (by decide +kernel)
set_option maxRecDepth 20000 in
theorem gX5_lots_X5_thinks : GoodIn wsX5_lots (wsV RX5 210 RX5 yX5_thinks wsX5_thinks) := goodIn_app (goodIn_of _ (by decide +kernel)) ggX5_lots_X5_thinks
set_option maxRecDepth 20000 in
theorem ggX5_lots_X5_draw : GoodIn wsX5_lots wsX5_draw := goodIn_r _ [51, 1, 52, 53, 54, 111, 112, 113, 114, 115, 116, 117, 118, 119, 120, 121, 122, 123, 124, 125, 126, 127, 128, 129, 130, 131, 132, 133, 134, 135, 136, 137, 138, 139, 140, 141, 142, 143] (by decide +kernel) (by decide +kernel)
set_option maxRecDepth 20000 in
theorem gX5_lots_X5_draw : GoodIn wsX5_lots (wsV RX5 300 RX5 yX5_draw wsX5_draw) := goodIn_app (goodIn_of _ (by decide +kernel)) ggX5_lots_X5_draw
set_option maxRecDepth 20000 in
theorem ggX5_lots_X5_hushed : GoodIn wsX5_lots wsX5_hushed := goodIn_r _ [57] (by decide +kernel) (by decide +kernel)
set_option maxRecDepth 20000 in
theorem gX5_lots_X5_hushed : GoodIn wsX5_lots (va_wsS RX5 263 yX5_hushed wsX5_hushed) := goodIn_app (goodIn_of _ (by decide +kernel)) ggX5_lots_X5_hushed
set_option maxRecDepth 20000 in
theorem ggX5_lots_X5_goes : GoodIn wsX5_lots wsX5_goes := goodIn_r _ [61, 62, 63, 64, 7, 65, 37, 3, 35, 34, 38, 21, 66, 67, 68, 69, 70, 71, 72, 73, 4, 2, 74, 75, 76, 77, 78, 79, 80, 32, 33, 81, 82, 83, 84, 9, 10, 11, 85, 86, 87, 88, 89, 90, 91, 92, 93, 94, 95, 36, 96, 97, 98, 99, 100, 101, 102, 103, 104, 105, 106, 111, 112, 113, 114, 115, 116, 117, 118, 119, 120, 121, 122, 123, 124, 125, 126, 127, 128, 129, 130, 131, 132, 133, 134, 135, 136, 137, 138, 139, 140, 141, 142, 143] (by decide +kernel) (by decide +kernel)
set_option maxRecDepth 20000 in
theorem gX5_lots_X5_goes : GoodIn wsX5_lots (wsV RX5 116 RX5 yX5_goes wsX5_goes) := goodIn_app (goodIn_of _ (by decide +kernel)) ggX5_lots_X5_goes
set_option maxRecDepth 20000 in
theorem ggX5_lots_X5_holder : GoodIn wsX5_lots wsX5_holder := goodIn_r _ [102, 2, 103, 104, 105, 7, 106, 3, 34, 111, 112, 113, 114, 115, 116, 117, 118, 119, 120, 121, 122, 123, 124, 125, 126, 127, 128, 129, 130, 131, 132, 133, 134, 135, 136, 137, 138, 139, 140, 141, 142, 143] (by decide +kernel) (by decide +kernel)
set_option maxRecDepth 20000 in
theorem gX5_lots_X5_holder : GoodIn wsX5_lots (wsV RX5 194 RX5 yX5_holder wsX5_holder) := goodIn_app (goodIn_of _ (by decide +kernel)) ggX5_lots_X5_holder
set_option maxRecDepth 20000 in
theorem ggX5_lots_X5_forgets : GoodIn wsX5_lots wsX5_forgets := goodIn_r _ [110, 26, 27, 28, 7, 29, 30, 31, 32, 33, 34, 35, 21, 3, 4, 2, 36, 37, 38, 39, 40, 41, 42, 43, 44, 45, 46, 47, 111, 112, 113, 114, 115, 116, 117, 118, 119, 120, 121, 122, 123, 124, 125, 126, 127, 128, 129, 130, 131, 132, 133, 134, 135, 136, 137, 138, 139, 140, 141, 142, 143] (by decide +kernel) (by decide +kernel)
set_option maxRecDepth 20000 in
theorem gX5_lots_X5_forgets : GoodIn wsX5_lots (wsV RX5 213 RX5 yX5_forgets wsX5_forgets) := goodIn_app (goodIn_of _ (by decide +kernel)) ggX5_lots_X5_forgets
theorem dX5_lots_0 : decode cX5_lots 0 = .ok (.iload_n 1, 1) := by decide +kernel
theorem dX5_lots_1 : decode cX5_lots 1 = .ok (.iconst 1, 1) := by decide +kernel
theorem dX5_lots_2 : decode cX5_lots 2 = .ok (.bipush 20, 2) := by decide +kernel
theorem dX5_lots_4 : decode cX5_lots 4 = .ok (.invokestatic 70, 3) := by decide +kernel
theorem dX5_lots_7 : decode cX5_lots 7 = .ok (.istore 4, 2) := by decide +kernel
theorem dX5_lots_9 : decode cX5_lots 9 = .ok (.iload 4, 2) := by decide +kernel
theorem dX5_lots_11 : decode cX5_lots 11 = .ok (.ifCond .ne 16, 3) := by decide +kernel
theorem dX5_lots_14 : decode cX5_lots 14 = .ok (.iload_n 3, 1) := by decide +kernel
theorem dX5_lots_15 : decode cX5_lots 15 = .ok (.iconst 0, 1) := by decide +kernel
theorem dX5_lots_16 : decode cX5_lots 16 = .ok (.iconst 1, 1) := by decide +kernel
theorem dX5_lots_17 : decode cX5_lots 17 = .ok (.invokestatic 88, 3) := by decide +kernel
theorem dX5_lots_20 : decode cX5_lots 20 = .ok (.ifCond .ne 7, 3) := by decide +kernel
theorem dX5_lots_23 : decode cX5_lots 23 = .ok (.bipush (-2), 2) := by decide +kernel
theorem dX5_lots_25 : decode cX5_lots 25 = .ok (.istore 4, 2) := by decide +kernel
theorem dX5_lots_27 : decode cX5_lots 27 = .ok (.iload 4, 2) := by decide +kernel
theorem dX5_lots_29 : decode cX5_lots 29 = .ok (.ifCond .eq 10, 3) := by decide +kernel
theorem dX5_lots_32 : decode cX5_lots 32 = .ok (.aload_n 0, 1) := by decide +kernel
theorem dX5_lots_33 : decode cX5_lots 33 = .ok (.iload 4, 2) := by decide +kernel
theorem dX5_lots_35 : decode cX5_lots 35 = .ok (.invokevirtual 77, 3) := by decide +kernel
theorem dX5_lots_38 : decode cX5_lots 38 = .ok (.ireturn, 1) := by decide +kernel
theorem dX5_lots_39 : decode cX5_lots 39 = .ok (.aload_n 0, 1) := by decide +kernel
theorem dX5_lots_40 : decode cX5_lots 40 = .ok (.iload_n 2, 1) := by decide +kernel
theorem dX5_lots_41 : decode cX5_lots 41 = .ok (.putfield 294, 3) := by decide +kernel
theorem dX5_lots_44 : decode cX5_lots 44 = .ok (.iconst 0, 1) := by decide +kernel
theorem dX5_lots_45 : decode cX5_lots 45 = .ok (.istore 5, 2) := by decide +kernel
theorem dX5_lots_47 : decode cX5_lots 47 = .ok (.iconst 0, 1) := by decide +kernel
theorem dX5_lots_48 : decode cX5_lots 48 = .ok (.istore 6, 2) := by decide +kernel
theorem dX5_lots_50 : decode cX5_lots 50 = .ok (.aload_n 0, 1) := by decide +kernel
theorem dX5_lots_51 : decode cX5_lots 51 = .ok (.invokevirtual 284, 3) := by decide +kernel
theorem dX5_lots_54 : decode cX5_lots 54 = .ok (.istore 7, 2) := by decide +kernel
theorem dX5_lots_56 : decode cX5_lots 56 = .ok (.iconst 0, 1) := by decide +kernel
theorem dX5_lots_57 : decode cX5_lots 57 = .ok (.istore 8, 2) := by decide +kernel
theorem dX5_lots_59 : decode cX5_lots 59 = .ok (.iload 8, 2) := by decide +kernel
theorem dX5_lots_61 : decode cX5_lots 61 = .ok (.iload_n 1, 1) := by decide +kernel
theorem dX5_lots_62 : decode cX5_lots 62 = .ok (.if_icmp .ge 98, 3) := by decide +kernel
theorem dX5_lots_65 : decode cX5_lots 65 = .ok (.aload_n 0, 1) := by decide +kernel
theorem dX5_lots_66 : decode cX5_lots 66 = .ok (.invokevirtual 210, 3) := by decide +kernel
theorem dX5_lots_69 : decode cX5_lots 69 = .ok (.aload_n 0, 1) := by decide +kernel
theorem dX5_lots_70 : decode cX5_lots 70 = .ok (.aload_n 0, 1) := by decide +kernel
theorem dX5_lots_71 : decode cX5_lots 71 = .ok (.bipush 31, 2) := by decide +kernel
theorem dX5_lots_73 : decode cX5_lots 73 = .ok (.invokevirtual 300, 3) := by decide +kernel
theorem dX5_lots_76 : decode cX5_lots 76 = .ok (.putfield 55, 3) := by decide +kernel
theorem dX5_lots_79 : decode cX5_lots 79 = .ok (.iconst 0, 1) := by decide +kernel
theorem dX5_lots_80 : decode cX5_lots 80 = .ok (.istore 9, 2) := by decide +kernel
theorem dX5_lots_82 : decode cX5_lots 82 = .ok (.iload 9, 2) := by decide +kernel
theorem dX5_lots_84 : decode cX5_lots 84 = .ok (.aload_n 0, 1) := by decide +kernel
theorem dX5_lots_85 : decode cX5_lots 85 = .ok (.getfield 67, 3) := by decide +kernel
theorem dX5_lots_88 : decode cX5_lots 88 = .ok (.if_icmp .ge 27, 3) := by decide +kernel
theorem dX5_lots_91 : decode cX5_lots 91 = .ok (.aload_n 0, 1) := by decide +kernel
theorem dX5_lots_92 : decode cX5_lots 92 = .ok (.aload_n 0, 1) := by decide +kernel
theorem dX5_lots_93 : decode cX5_lots 93 = .ok (.getfield 126, 3) := by decide +kernel
theorem dX5_lots_96 : decode cX5_lots 96 = .ok (.iload 9, 2) := by decide +kernel
theorem dX5_lots_98 : decode cX5_lots 98 = .ok (.aload_n 0, 1) := by decide +kernel
theorem dX5_lots_99 : decode cX5_lots 99 = .ok (.iconst 4, 1) := by decide +kernel
theorem dX5_lots_100 : decode cX5_lots 100 = .ok (.invokevirtual 300, 3) := by decide +kernel
theorem dX5_lots_103 : decode cX5_lots 103 = .ok (.invokestatic 263, 3) := by decide +kernel
theorem dX5_lots_106 : decode cX5_lots 106 = .ok (.putfield 126, 3) := by decide +kernel
theorem dX5_lots_109 : decode cX5_lots 109 = .ok (.iinc 9 1, 3) := by decide +kernel
theorem dX5_lots_112 : decode cX5_lots 112 = .ok (.goto (-30), 3) := by decide +kernel
theorem dX5_lots_115 : decode cX5_lots 115 = .ok (.aload_n 0, 1) := by decide +kernel
theorem dX5_lots_116 : decode cX5_lots 116 = .ok (.bipush 24, 2) := by decide +kernel
theorem dX5_lots_118 : decode cX5_lots 118 = .ok (.invokevirtual 116, 3) := by decide +kernel
theorem dX5_lots_121 : decode cX5_lots 121 = .ok (.iload 5, 2) := by decide +kernel
theorem dX5_lots_123 : decode cX5_lots 123 = .ok (.aload_n 0, 1) := by decide +kernel
theorem dX5_lots_124 : decode cX5_lots 124 = .ok (.invokevirtual 284, 3) := by decide +kernel
theorem dX5_lots_127 : decode cX5_lots 127 = .ok (.iload 7, 2) := by decide +kernel
theorem dX5_lots_129 : decode cX5_lots 129 = .ok (.isub, 1) := by decide +kernel
theorem dX5_lots_130 : decode cX5_lots 130 = .ok (.iadd, 1) := by decide +kernel
theorem dX5_lots_131 : decode cX5_lots 131 = .ok (.istore 5, 2) := by decide +kernel
theorem dX5_lots_133 : decode cX5_lots 133 = .ok (.iload 6, 2) := by decide +kernel
theorem dX5_lots_135 : decode cX5_lots 135 = .ok (.aload_n 0, 1) := by decide +kernel
theorem dX5_lots_136 : decode cX5_lots 136 = .ok (.invokevirtual 194, 3) := by decide +kernel
theorem dX5_lots_139 : decode cX5_lots 139 = .ok (.ifCond .lt 7, 3) := by decide +kernel
theorem dX5_lots_142 : decode cX5_lots 142 = .ok (.iconst 1, 1) := by decide +kernel
theorem dX5_lots_143 : decode cX5_lots 143 = .ok (.goto 4, 3) := by decide +kernel
theorem dX5_lots_146 : decode cX5_lots 146 = .ok (.iconst 0, 1) := by decide +kernel
theorem dX5_lots_147 : decode cX5_lots 147 = .ok (.iadd, 1) := by decide +kernel
theorem dX5_lots_148 : decode cX5_lots 148 = .ok (.istore 6, 2) := by decide +kernel
theorem dX5_lots_150 : decode cX5_lots 150 = .ok (.aload_n 0, 1) := by decide +kernel
theorem dX5_lots_151 : decode cX5_lots 151 = .ok (.invokevirtual 213, 3) := by decide +kernel
theorem dX5_lots_154 : decode cX5_lots 154 = .ok (.iinc 8 1, 3) := by decide +kernel
theorem dX5_lots_157 : decode cX5_lots 157 = .ok (.goto (-98), 3) := by decide +kernel
theorem dX5_lots_160 : decode cX5_lots 160 = .ok (.iload_n 3, 1) := by decide +kernel
theorem dX5_lots_161 : decode cX5_lots 161 = .ok (.ifCond .ne 8, 3) := by decide +kernel
theorem dX5_lots_164 : decode cX5_lots 164 = .ok (.iload 5, 2) := by decide +kernel
theorem dX5_lots_166 : decode cX5_lots 166 = .ok (.goto 5, 3) := by decide +kernel
theorem dX5_lots_169 : decode cX5_lots 169 = .ok (.iload 6, 2) := by decide +kernel
theorem dX5_lots_171 : decode cX5_lots 171 = .ok (.ireturn, 1) := by decide +kernel
set_option maxRecDepth 20000 in
theorem ggX5_count_X5_isIn : GoodIn wsX5_count wsX5_isIn := goodIn_r _ [12] (by decide +kernel) (by decide +kernel)
set_option maxRecDepth 20000 in
theorem gX5_count_X5_isIn : GoodIn wsX5_count (va_wsS RX5 88 yX5_isIn wsX5_isIn) := goodIn_app (goodIn_of _ (by decide +kernel)) ggX5_count_X5_isIn
set_option maxRecDepth 20000 in
theorem ggX5_count_X5_allJoy : GoodIn wsX5_count wsX5_allJoy := goodIn_r _ [16, 2, 17, 23, 24, 25, 26, 27, 28, 29, 30, 31, 32, 33, 34, 35, 36, 37, 38, 39, 40, 41, 42, 43, 44, 45, 46, 47, 48, 49, 50, 51, 52, 53, 54, 55] (by decide +kernel) (by decide +kernel)
set_option maxRecDepth 20000 in
theorem gX5_count_X5_allJoy : GoodIn wsX5_count (wsV RX5 284 RX5 yX5_allJoy wsX5_allJoy) := goodIn_app (goodIn_of _ (by decide +kernel)) ggX5_count_X5_allJoy
set_option maxRecDepth 20000 in
theorem ggX5_count_X5_allPowder : GoodIn wsX5_count wsX5_allPowder := goodIn_r _ [21, 2, 22, 23, 24, 25, 26, 27, 28, 29, 30, 31, 32, 33, 34, 35, 36, 37, 38, 39, 40, 41, 42, 43, 44, 45, 46, 47, 48, 49, 50, 51, 52, 53, 54, 55] (by decide +kernel) (by decide +kernel)
set_option maxRecDepth 20000 in
theorem gX5_count_X5_allPowder : GoodIn wsX5_count (wsV RX5 287 RX5 yX5_allPowder wsX5_allPowder) := goodIn_app (goodIn_of _ (by decide +kernel)) ggX5_count_X5_allPowder
theorem dX5_count_0 : decode cX5_count 0 = .ok (.iload_n 1, 1) := by decide +kernel
theorem dX5_count_1 : decode cX5_count 1 = .ok (.bipush 11, 2) := by decide +kernel
theorem dX5_count_3 : decode cX5_count 3 = .ok (.bipush 16, 2) := by decide +kernel
theorem dX5_count_5 : decode cX5_count 5 = .ok (.invokestatic 88, 3) := by decide +kernel
theorem dX5_count_8 : decode cX5_count 8 = .ok (.ifCond .eq 13, 3) := by decide +kernel
theorem dX5_count_11 : decode cX5_count 11 = .ok (.aload_n 0, 1) := by decide +kernel
theorem dX5_count_12 : decode cX5_count 12 = .ok (.getfield 7, 3) := by decide +kernel
theorem dX5_count_15 : decode cX5_count 15 = .ok (.iload_n 1, 1) := by decide +kernel
theorem dX5_count_16 : decode cX5_count 16 = .ok (.bipush 10, 2) := by decide +kernel
theorem dX5_count_18 : decode cX5_count 18 = .ok (.isub, 1) := by decide +kernel
theorem dX5_count_19 : decode cX5_count 19 = .ok (.iaload, 1) := by decide +kernel
theorem dX5_count_20 : decode cX5_count 20 = .ok (.ireturn, 1) := by decide +kernel
theorem dX5_count_21 : decode cX5_count 21 = .ok (.iload_n 1, 1) := by decide +kernel
theorem dX5_count_22 : decode cX5_count 22 = .ok (.tableswitch 95 0 8 #[50, 55, 60, 65, 70, 75, 80, 85, 90], 50) := by decide +kernel
theorem dX5_count_72 : decode cX5_count 72 = .ok (.aload_n 0, 1) := by decide +kernel
theorem dX5_count_73 : decode cX5_count 73 = .ok (.getfield 67, 3) := by decide +kernel
theorem dX5_count_76 : decode cX5_count 76 = .ok (.ireturn, 1) := by decide +kernel
theorem dX5_count_77 : decode cX5_count 77 = .ok (.aload_n 0, 1) := by decide +kernel
theorem dX5_count_78 : decode cX5_count 78 = .ok (.getfield 62, 3) := by decide +kernel
theorem dX5_count_81 : decode cX5_count 81 = .ok (.ireturn, 1) := by decide +kernel
theorem dX5_count_82 : decode cX5_count 82 = .ok (.aload_n 0, 1) := by decide +kernel
theorem dX5_count_83 : decode cX5_count 83 = .ok (.getfield 160, 3) := by decide +kernel
theorem dX5_count_86 : decode cX5_count 86 = .ok (.ireturn, 1) := by decide +kernel
theorem dX5_count_87 : decode cX5_count 87 = .ok (.aload_n 0, 1) := by decide +kernel
theorem dX5_count_88 : decode cX5_count 88 = .ok (.getfield 126, 3) := by decide +kernel
theorem dX5_count_91 : decode cX5_count 91 = .ok (.ireturn, 1) := by decide +kernel
theorem dX5_count_92 : decode cX5_count 92 = .ok (.aload_n 0, 1) := by decide +kernel
theorem dX5_count_93 : decode cX5_count 93 = .ok (.invokevirtual 284, 3) := by decide +kernel
theorem dX5_count_96 : decode cX5_count 96 = .ok (.ireturn, 1) := by decide +kernel
theorem dX5_count_97 : decode cX5_count 97 = .ok (.aload_n 0, 1) := by decide +kernel
theorem dX5_count_98 : decode cX5_count 98 = .ok (.invokevirtual 287, 3) := by decide +kernel
theorem dX5_count_101 : decode cX5_count 101 = .ok (.ireturn, 1) := by decide +kernel
theorem dX5_count_102 : decode cX5_count 102 = .ok (.aload_n 0, 1) := by decide +kernel
theorem dX5_count_103 : decode cX5_count 103 = .ok (.getfield 74, 3) := by decide +kernel
theorem dX5_count_106 : decode cX5_count 106 = .ok (.ireturn, 1) := by decide +kernel
theorem dX5_count_107 : decode cX5_count 107 = .ok (.aload_n 0, 1) := by decide +kernel
theorem dX5_count_108 : decode cX5_count 108 = .ok (.getfield 250, 3) := by decide +kernel
theorem dX5_count_111 : decode cX5_count 111 = .ok (.ireturn, 1) := by decide +kernel
theorem dX5_count_112 : decode cX5_count 112 = .ok (.aload_n 0, 1) := by decide +kernel
theorem dX5_count_113 : decode cX5_count 113 = .ok (.getfield 143, 3) := by decide +kernel
theorem dX5_count_116 : decode cX5_count 116 = .ok (.ireturn, 1) := by decide +kernel
theorem dX5_count_117 : decode cX5_count 117 = .ok (.bipush (-9), 2) := by decide +kernel
theorem dX5_count_119 : decode cX5_count 119 = .ok (.ireturn, 1) := by decide +kernel
theorem dJ6_bitCount_0f7a4_0 : decode cJ6_bitCount_0f7a4 0 = .ok (.iload_n 0, 1) := by decide +kernel
theorem dJ6_bitCount_0f7a4_1 : decode cJ6_bitCount_0f7a4 1 = .ok (.iload_n 0, 1) := by decide +kernel
theorem dJ6_bitCount_0f7a4_2 : decode cJ6_bitCount_0f7a4 2 = .ok (.iconst 1, 1) := by decide +kernel
theorem dJ6_bitCount_0f7a4_3 : decode cJ6_bitCount_0f7a4 3 = .ok (.iushr, 1) := by decide +kernel
theorem dJ6_bitCount_0f7a4_4 : decode cJ6_bitCount_0f7a4 4 = .ok (.ldc_w 265, 3) := by decide +kernel
theorem dJ6_bitCount_0f7a4_7 : decode cJ6_bitCount_0f7a4 7 = .ok (.iand, 1) := by decide +kernel
theorem dJ6_bitCount_0f7a4_8 : decode cJ6_bitCount_0f7a4 8 = .ok (.isub, 1) := by decide +kernel
theorem dJ6_bitCount_0f7a4_9 : decode cJ6_bitCount_0f7a4 9 = .ok (.istore_n 0, 1) := by decide +kernel
theorem dJ6_bitCount_0f7a4_10 : decode cJ6_bitCount_0f7a4 10 = .ok (.iload_n 0, 1) := by decide +kernel
theorem dJ6_bitCount_0f7a4_11 : decode cJ6_bitCount_0f7a4 11 = .ok (.ldc_w 266, 3) := by decide +kernel
theorem dJ6_bitCount_0f7a4_14 : decode cJ6_bitCount_0f7a4 14 = .ok (.iand, 1) := by decide +kernel
theorem dJ6_bitCount_0f7a4_15 : decode cJ6_bitCount_0f7a4 15 = .ok (.iload_n 0, 1) := by decide +kernel
theorem dJ6_bitCount_0f7a4_16 : decode cJ6_bitCount_0f7a4 16 = .ok (.iconst 2, 1) := by decide +kernel
theorem dJ6_bitCount_0f7a4_17 : decode cJ6_bitCount_0f7a4 17 = .ok (.iushr, 1) := by decide +kernel
theorem dJ6_bitCount_0f7a4_18 : decode cJ6_bitCount_0f7a4 18 = .ok (.ldc_w 266, 3) := by decide +kernel
theorem dJ6_bitCount_0f7a4_21 : decode cJ6_bitCount_0f7a4 21 = .ok (.iand, 1) := by decide +kernel
theorem dJ6_bitCount_0f7a4_22 : decode cJ6_bitCount_0f7a4 22 = .ok (.iadd, 1) := by decide +kernel
theorem dJ6_bitCount_0f7a4_23 : decode cJ6_bitCount_0f7a4 23 = .ok (.istore_n 0, 1) := by decide +kernel
theorem dJ6_bitCount_0f7a4_24 : decode cJ6_bitCount_0f7a4 24 = .ok (.iload_n 0, 1) := by decide +kernel
theorem dJ6_bitCount_0f7a4_25 : decode cJ6_bitCount_0f7a4 25 = .ok (.iload_n 0, 1) := by decide +kernel
theorem dJ6_bitCount_0f7a4_26 : decode cJ6_bitCount_0f7a4 26 = .ok (.iconst 4, 1) := by decide +kernel
theorem dJ6_bitCount_0f7a4_27 : decode cJ6_bitCount_0f7a4 27 = .ok (.iushr, 1) := by decide +kernel
theorem dJ6_bitCount_0f7a4_28 : decode cJ6_bitCount_0f7a4 28 = .ok (.iadd, 1) := by decide +kernel
theorem dJ6_bitCount_0f7a4_29 : decode cJ6_bitCount_0f7a4 29 = .ok (.ldc_w 267, 3) := by decide +kernel
theorem dJ6_bitCount_0f7a4_32 : decode cJ6_bitCount_0f7a4 32 = .ok (.iand, 1) := by decide +kernel
theorem dJ6_bitCount_0f7a4_33 : decode cJ6_bitCount_0f7a4 33 = .ok (.istore_n 0, 1) := by decide +kernel
theorem dJ6_bitCount_0f7a4_34 : decode cJ6_bitCount_0f7a4 34 = .ok (.iload_n 0, 1) := by decide +kernel
theorem dJ6_bitCount_0f7a4_35 : decode cJ6_bitCount_0f7a4 35 = .ok (.iload_n 0, 1) := by decide +kernel
theorem dJ6_bitCount_0f7a4_36 : decode cJ6_bitCount_0f7a4 36 = .ok (.bipush 8, 2) := by decide +kernel
theorem dJ6_bitCount_0f7a4_38 : decode cJ6_bitCount_0f7a4 38 = .ok (.iushr, 1) := by decide +kernel
theorem dJ6_bitCount_0f7a4_39 : decode cJ6_bitCount_0f7a4 39 = .ok (.iadd, 1) := by decide +kernel
theorem dJ6_bitCount_0f7a4_40 : decode cJ6_bitCount_0f7a4 40 = .ok (.istore_n 0, 1) := by decide +kernel
theorem dJ6_bitCount_0f7a4_41 : decode cJ6_bitCount_0f7a4 41 = .ok (.iload_n 0, 1) := by decide +kernel
theorem dJ6_bitCount_0f7a4_42 : decode cJ6_bitCount_0f7a4 42 = .ok (.iload_n 0, 1) := by decide +kernel
theorem dJ6_bitCount_0f7a4_43 : decode cJ6_bitCount_0f7a4 43 = .ok (.bipush 16, 2) := by decide +kernel
theorem dJ6_bitCount_0f7a4_45 : decode cJ6_bitCount_0f7a4 45 = .ok (.iushr, 1) := by decide +kernel
theorem dJ6_bitCount_0f7a4_46 : decode cJ6_bitCount_0f7a4 46 = .ok (.iadd, 1) := by decide +kernel
theorem dJ6_bitCount_0f7a4_47 : decode cJ6_bitCount_0f7a4 47 = .ok (.istore_n 0, 1) := by decide +kernel
theorem dJ6_bitCount_0f7a4_48 : decode cJ6_bitCount_0f7a4 48 = .ok (.iload_n 0, 1) := by decide +kernel
theorem dJ6_bitCount_0f7a4_49 : decode cJ6_bitCount_0f7a4 49 = .ok (.bipush 63, 2) := by decide +kernel
theorem dJ6_bitCount_0f7a4_51 : decode cJ6_bitCount_0f7a4 51 = .ok (.iand, 1) := by decide +kernel
theorem dJ6_bitCount_0f7a4_52 : decode cJ6_bitCount_0f7a4 52 = .ok (.ireturn, 1) := by decide +kernel
theorem dJ9_abs_0f7a4_0 : decode cJ9_abs_0f7a4 0 = .ok (.iload_n 0, 1) := by decide +kernel
theorem dJ9_abs_0f7a4_1 : decode cJ9_abs_0f7a4 1 = .ok (.ifCond .ge 8, 3) := by decide +kernel
theorem dJ9_abs_0f7a4_4 : decode cJ9_abs_0f7a4 4 = .ok (.iload_n 0, 1) := by decide +kernel
theorem dJ9_abs_0f7a4_5 : decode cJ9_abs_0f7a4 5 = .ok (.ineg, 1) := by decide +kernel
theorem dJ9_abs_0f7a4_6 : decode cJ9_abs_0f7a4 6 = .ok (.goto 4, 3) := by decide +kernel
theorem dJ9_abs_0f7a4_9 : decode cJ9_abs_0f7a4 9 = .ok (.iload_n 0, 1) := by decide +kernel
theorem dJ9_abs_0f7a4_10 : decode cJ9_abs_0f7a4 10 = .ok (.ireturn, 1) := by decide +kernel
theorem dJ9_max_7cf53_0 : decode cJ9_max_7cf53 0 = .ok (.iload_n 0, 1) := by decide +kernel
theorem dJ9_max_7cf53_1 : decode cJ9_max_7cf53 1 = .ok (.iload_n 1, 1) := by decide +kernel
theorem dJ9_max_7cf53_2 : decode cJ9_max_7cf53 2 = .ok (.if_icmp .lt 7, 3) := by decide +kernel
theorem dJ9_max_7cf53_5 : decode cJ9_max_7cf53 5 = .ok (.iload_n 0, 1) := by decide +kernel
theorem dJ9_max_7cf53_6 : decode cJ9_max_7cf53 6 = .ok (.goto 4, 3) := by decide +kernel
theorem dJ9_max_7cf53_9 : decode cJ9_max_7cf53 9 = .ok (.iload_n 1, 1) := by decide +kernel
theorem dJ9_max_7cf53_10 : decode cJ9_max_7cf53 10 = .ok (.ireturn, 1) := by decide +kernel
theorem dJ9_min_7cf53_0 : decode cJ9_min_7cf53 0 = .ok (.iload_n 0, 1) := by decide +kernel
theorem dJ9_min_7cf53_1 : decode cJ9_min_7cf53 1 = .ok (.iload_n 1, 1) := by decide +kernel
theorem dJ9_min_7cf53_2 : decode cJ9_min_7cf53 2 = .ok (.if_icmp .gt 7, 3) := by decide +kernel
theorem dJ9_min_7cf53_5 : decode cJ9_min_7cf53 5 = .ok (.iload_n 0, 1) := by decide +kernel
theorem dJ9_min_7cf53_6 : decode cJ9_min_7cf53 6 = .ok (.goto 4, 3) := by decide +kernel
theorem dJ9_min_7cf53_9 : decode cJ9_min_7cf53 9 = .ok (.iload_n 1, 1) := by decide +kernel
theorem dJ9_min_7cf53_10 : decode cJ9_min_7cf53 10 = .ok (.ireturn, 1) := by decide +kernel
set_option maxRecDepth 20000 in
theorem ggL_law_X4_init : GoodIn wsL_law wsX4_init := goodIn_r _ [8, 9, 10, 11, 12, 13, 14, 15, 16, 17, 18, 19, 20, 21, 22, 23, 24, 25, 26, 27, 28, 29, 30, 31, 32, 33, 34, 35, 36, 37, 38, 39, 40, 41, 42, 43, 44, 45, 46, 47, 48, 49, 50, 51, 52, 53, 54, 55, 56, 57, 58, 59, 1039, 1040, 1041, 1042, 997, 998, 999, 1000, 1001, 1002, 1003, 1004, 1005, 1043, 1044, 1045, 1046, 1047, 1048, 1049, 1050, 1051, 1052, 1053, 1054, 1055, 1056, 1057, 1058] (by decide +kernel) (by decide +kernel)
set_option maxRecDepth 20000 in
theorem gL_law_X4_init : GoodIn wsL_law (wsX4_init) := ggL_law_X4_init
set_option maxRecDepth 20000 in
theorem ggL_law_X5_init : GoodIn wsL_law wsX5_init := goodIn_r _ [62, 63, 10, 11, 29, 64, 65, 66, 67, 68, 69, 70, 71, 72, 73, 74, 75, 76, 77, 78, 79, 80, 81, 1006, 1007, 1008, 1009, 1010, 1011, 1012, 1013, 1014, 1015, 1016, 1017, 1018, 1019, 1020, 1021, 1022, 1023, 1024, 1025, 1026, 1027, 1028, 1029, 1030, 1031, 1032, 1033, 1034, 1035, 1036, 1037, 1038] (by decide +kernel) (by decide +kernel)
set_option maxRecDepth 20000 in
theorem gL_law_X5_init : GoodIn wsL_law (wsX5_init) := ggL_law_X5_init
set_option maxRecDepth 20000 in
theorem ggL_law_X4_feed : GoodIn wsL_law wsX4_feed := goodIn_r _ [85, 28, 86, 87, 2, 88, 89, 90, 91, 92, 27, 93, 94, 95, 96, 97, 98, 99, 100, 101, 102, 31, 103, 104, 105, 59, 106, 997, 998, 999, 1000, 1001, 1002, 1003, 1004, 1005, 1057, 1058] (by decide +kernel) (by decide +kernel)
set_option maxRecDepth 20000 in
theorem gL_law_X4_feed : GoodIn wsL_law (wsV RL 13 RX4 yX4_feed wsX4_feed) := goodIn_app (goodIn_of _ (by decide +kernel)) ggL_law_X4_feed
set_option maxRecDepth 20000 in
theorem ggL_law_X5_feed : GoodIn wsL_law wsX5_feed := goodIn_r _ [110, 111, 70, 112, 113, 5, 114, 115, 116, 117, 118, 64, 1006, 1007, 1008, 1009, 1010, 1011, 1012, 1013, 1014, 1015, 1016, 1017, 1018, 1019, 1020, 1021, 1022, 1023, 1024, 1025, 1026, 1027, 1028, 1029, 1030, 1031, 1032, 1033, 1034, 1035, 1036, 1037, 1038] (by decide +kernel) (by decide +kernel)
set_option maxRecDepth 20000 in
theorem gL_law_X5_feed : GoodIn wsL_law (wsV RL 17 RX5 yX5_feed wsX5_feed) := goodIn_app (goodIn_of _ (by decide +kernel)) ggL_law_X5_feed
set_option maxRecDepth 20000 in
theorem ggL_law_X4_bay : GoodIn wsL_law wsX4_bay := goodIn_r _ [122, 28, 123, 27, 124, 125, 95, 126, 127, 128, 129, 59, 130, 131, 132, 133, 134, 135, 2, 136, 15, 16, 24, 137, 14, 138, 139, 37, 36, 140, 19, 141, 142, 43, 143, 144, 145, 146, 44, 45, 46, 47, 147, 148, 48, 49, 50, 149, 150, 151, 152, 153, 154, 155, 156, 157, 158, 159, 160, 161, 162, 163, 164, 165, 166, 167, 168, 169, 170, 171, 172, 87, 88, 89, 90, 91, 97, 98, 173, 174, 175, 176, 177, 178, 179, 180, 181, 182, 183, 184, 185, 186, 187, 188, 189, 190, 191, 192, 193, 194, 195, 196, 197, 198, 199, 200, 201, 202, 203, 204, 205, 206, 207, 208, 209, 210, 211, 212, 213, 214, 215, 216, 217, 218, 219, 220, 221, 222, 223, 224, 225, 226, 227, 228, 229, 230, 231, 232, 233, 234, 235, 236, 237, 238, 239, 240, 241, 242, 243, 244, 245, 246, 247, 248, 249, 250, 251, 252, 253, 254, 255, 256, 257, 258, 259, 997, 998, 999, 1000, 1001, 1002, 1003, 1004, 1005, 1057, 1058, 1054, 1055, 1056, 1039, 1040, 1041, 1042, 1043, 1044, 1045, 1046, 1047, 1048, 1049, 1050, 1051, 1052, 1053] (by decide +kernel) (by decide +kernel)
set_option maxRecDepth 20000 in
theorem gL_law_X4_bay : GoodIn wsL_law (wsV RL 18 RX4 yX4_bay wsX4_bay) := goodIn_app (goodIn_of _ (by decide +kernel)) ggL_law_X4_bay
set_option maxRecDepth 20000 in
theorem ggL_law_X5_bay : GoodIn wsL_law wsX5_bay := goodIn_r _ [263, 264, 265, 111, 72, 266, 267, 268, 269, 5, 270, 71, 271, 272, 273, 274, 70, 275, 276, 277, 278, 279, 280, 281, 282, 73, 283, 284, 285, 286, 287, 288, 289, 290, 291, 65, 66, 67, 68, 69, 292, 293, 79, 80, 81, 294, 295, 296, 297, 298, 74, 299, 300, 301, 302, 303, 304, 305, 306, 307, 308, 309, 310, 311, 312, 313, 314, 315, 316, 317, 318, 319, 320, 321, 322, 323, 324, 325, 326, 327, 328, 329, 330, 331, 332, 333, 334, 335, 336, 337, 338, 339, 340, 341, 342, 343, 344, 345, 346, 347, 348, 349, 350, 351, 352, 353, 354, 355, 356, 357, 358, 359, 360, 361, 362, 363, 364, 365, 366, 367, 368, 369, 370, 371, 372, 373, 374, 375, 376, 377, 378, 1006, 1007, 1008, 1009, 1010, 1011, 1012, 1013, 1014, 1015, 1016, 1017, 1018, 1019, 1020, 1021, 1022, 1023, 1024, 1025, 1026, 1027, 1028, 1029, 1030, 1031, 1032, 1033, 1034, 1035, 1036, 1037, 1038] (by decide +kernel) (by decide +kernel)
set_option maxRecDepth 20000 in
theorem gL_law_X5_bay : GoodIn wsL_law (wsV RL 22 RX5 yX5_bay wsX5_bay) := goodIn_app (goodIn_of _ (by decide +kernel)) ggL_law_X5_bay
set_option maxRecDepth 20000 in
theorem ggL_law_X4_shoreOf : GoodIn wsL_law wsX4_shoreOf := goodIn_r _ [382, 16, 383, 171, 2, 172, 384, 176, 177, 96, 97, 98, 99, 100, 101, 102, 31, 216, 19, 217, 218, 147, 224, 225, 226, 43, 44, 220, 221, 222, 45, 48, 997, 998, 999, 1000, 1001, 1002, 1003, 1004, 1005, 1043, 1044, 1045, 1046, 1047, 1048, 1049, 1050, 1051, 1052, 1053] (by decide +kernel) (by decide +kernel)
set_option maxRecDepth 20000 in
theorem gL_law_X4_shoreOf : GoodIn wsL_law (wsV RL 23 RX4 yX4_shoreOf wsX4_shoreOf) := goodIn_app (goodIn_of _ (by decide +kernel)) ggL_law_X4_shoreOf
set_option maxRecDepth 20000 in
theorem ggL_law_X5_shoreOf : GoodIn wsL_law wsX5_shoreOf := goodIn_r _ [388, 65, 66, 67, 68, 293, 69, 79, 322, 323, 324, 5, 325, 292, 115, 116, 117, 118, 64, 353, 354, 355, 356, 1006, 1007, 1008, 1009, 1010, 1011, 1012, 1013, 1014, 1015, 1016, 1017, 1018, 1019, 1020, 1021, 1022, 1023, 1024, 1025, 1026, 1027, 1028, 1029, 1030, 1031, 1032, 1033, 1034, 1035, 1036, 1037, 1038] (by decide +kernel) (by decide +kernel)
set_option maxRecDepth 20000 in
theorem gL_law_X5_shoreOf : GoodIn wsL_law (wsV RL 27 RX5 yX5_shoreOf wsX5_shoreOf) := goodIn_app (goodIn_of _ (by decide +kernel)) ggL_law_X5_shoreOf
set_option maxRecDepth 20000 in
theorem ggL_law_X4_isleOf : GoodIn wsL_law wsX4_isleOf := goodIn_r _ [392, 16, 254, 19, 255, 256, 48, 164, 165, 166, 167, 148, 45, 99, 100, 101, 2, 102, 31, 997, 998, 999, 1000, 1001, 1002, 1003, 1004, 1005, 1043, 1044, 1045, 1046, 1047, 1048, 1049, 1050, 1051, 1052, 1053] (by decide +kernel) (by decide +kernel)
set_option maxRecDepth 20000 in
theorem gL_law_X4_isleOf : GoodIn wsL_law (wsV RL 28 RX4 yX4_isleOf wsX4_isleOf) := goodIn_app (goodIn_of _ (by decide +kernel)) ggL_law_X4_isleOf
set_option maxRecDepth 20000 in
theorem ggL_law_X5_isleOf : GoodIn wsL_law wsX5_isleOf := goodIn_r _ [396, 79, 80, 375, 376, 377, 5, 378, 314, 315, 316, 317, 292, 67, 115, 116, 117, 118, 64, 1006, 1007, 1008, 1009, 1010, 1011, 1012, 1013, 1014, 1015, 1016, 1017, 1018, 1019, 1020, 1021, 1022, 1023, 1024, 1025, 1026, 1027, 1028, 1029, 1030, 1031, 1032, 1033, 1034, 1035, 1036, 1037, 1038] (by decide +kernel) (by decide +kernel)
set_option maxRecDepth 20000 in
theorem gL_law_X5_isleOf : GoodIn wsL_law (wsV RL 31 RX5 yX5_isleOf wsX5_isleOf) := goodIn_app (goodIn_of _ (by decide +kernel)) ggL_law_X5_isleOf
set_option maxRecDepth 20000 in
theorem ggL_law_X4_shore : GoodIn wsL_law wsX4_shore := goodIn_r _ [400, 16, 24, 161, 19, 162, 163, 148, 164, 165, 166, 167, 45, 99, 100, 101, 2, 102, 31, 184, 185, 186, 43, 44, 46, 47, 997, 998, 999, 1000, 1001, 1002, 1003, 1004, 1005, 1054, 1055, 1056, 1043, 1044, 1045, 1046, 1047, 1048, 1049, 1050, 1051, 1052, 1053] (by decide +kernel) (by decide +kernel)
set_option maxRecDepth 20000 in
theorem gL_law_X4_shore : GoodIn wsL_law (wsV RL 32 RX4 yX4_shore wsX4_shore) := goodIn_app (goodIn_of _ (by decide +kernel)) ggL_law_X4_shore
set_option maxRecDepth 20000 in
theorem ggL_law_X5_shore : GoodIn wsL_law wsX5_shore := goodIn_r _ [404, 292, 266, 283, 284, 5, 285, 112, 113, 114, 311, 312, 313, 314, 315, 316, 317, 67, 115, 116, 117, 118, 64, 318, 319, 320, 321, 65, 66, 68, 69, 293, 1006, 1007, 1008, 1009, 1010, 1011, 1012, 1013, 1014, 1015, 1016, 1017, 1018, 1019, 1020, 1021, 1022, 1023, 1024, 1025, 1026, 1027, 1028, 1029, 1030, 1031, 1032, 1033, 1034, 1035, 1036, 1037, 1038] (by decide +kernel) (by decide +kernel)
set_option maxRecDepth 20000 in
theorem gL_law_X5_shore : GoodIn wsL_law (wsV RL 36 RX5 yX5_shore wsX5_shore) := goodIn_app (goodIn_of _ (by decide +kernel)) ggL_law_X5_shore
set_option maxRecDepth 20000 in
theorem ggL_law_X4_powders : GoodIn wsL_law wsX4_powders := goodIn_r _ [408, 16, 24, 168, 19, 169, 170, 148, 171, 2, 172, 87, 88, 89, 90, 91, 97, 98, 99, 100, 101, 102, 31, 409, 23, 410, 411, 412, 55, 413, 414, 204, 205, 206, 140, 141, 142, 43, 143, 144, 145, 146, 44, 45, 46, 47, 147, 48, 49, 50, 149, 187, 188, 189, 997, 998, 999, 1000, 1001, 1002, 1003, 1004, 1005, 1043, 1044, 1045, 1046, 1047, 1048, 1049, 1050, 1051, 1052, 1053, 1054, 1055, 1056] (by decide +kernel) (by decide +kernel)
set_option maxRecDepth 20000 in
theorem gL_law_X4_powders : GoodIn wsL_law (wsV RL 37 RX4 yX4_powders wsX4_powders) := goodIn_app (goodIn_of _ (by decide +kernel)) ggL_law_X4_powders
set_option maxRecDepth 20000 in
theorem ggL_law_X5_powders : GoodIn wsL_law wsX5_powders := goodIn_r _ [418, 68, 322, 323, 324, 5, 325, 292, 112, 113, 114, 115, 116, 117, 118, 64, 419, 420, 421, 422, 266, 74, 286, 287, 288, 289, 290, 291, 65, 66, 67, 69, 293, 79, 80, 81, 294, 295, 296, 297, 298, 299, 300, 301, 302, 1006, 1007, 1008, 1009, 1010, 1011, 1012, 1013, 1014, 1015, 1016, 1017, 1018, 1019, 1020, 1021, 1022, 1023, 1024, 1025, 1026, 1027, 1028, 1029, 1030, 1031, 1032, 1033, 1034, 1035, 1036, 1037, 1038] (by decide +kernel) (by decide +kernel)
set_option maxRecDepth 20000 in
theorem gL_law_X5_powders : GoodIn wsL_law (wsV RL 40 RX5 yX5_powders wsX5_powders) := goodIn_app (goodIn_of _ (by decide +kernel)) ggL_law_X5_powders
set_option maxRecDepth 20000 in
theorem ggL_law_X4_hushes : GoodIn wsL_law wsX4_hushes := goodIn_r _ [426, 16, 24, 383, 171, 2, 172, 99, 100, 101, 102, 31, 409, 23, 410, 411, 412, 55, 413, 414, 204, 205, 206, 140, 19, 141, 142, 43, 143, 144, 145, 146, 44, 45, 46, 47, 147, 148, 48, 49, 50, 149, 190, 191, 192, 216, 217, 218, 997, 998, 999, 1000, 1001, 1002, 1003, 1004, 1005, 1043, 1044, 1045, 1046, 1047, 1048, 1049, 1050, 1051, 1052, 1053, 1054, 1055, 1056] (by decide +kernel) (by decide +kernel)
set_option maxRecDepth 20000 in
theorem gL_law_X4_hushes : GoodIn wsL_law (wsV RL 41 RX4 yX4_hushes wsX4_hushes) := goodIn_app (goodIn_of _ (by decide +kernel)) ggL_law_X4_hushes
set_option maxRecDepth 20000 in
theorem ggL_law_X5_hushes : GoodIn wsL_law wsX5_hushes := goodIn_r _ [430, 293, 322, 323, 324, 5, 325, 292, 115, 116, 117, 118, 64, 419, 420, 421, 422, 266, 74, 286, 287, 288, 289, 290, 291, 65, 66, 67, 68, 69, 79, 80, 81, 294, 295, 296, 297, 298, 299, 300, 301, 302, 1006, 1007, 1008, 1009, 1010, 1011, 1012, 1013, 1014, 1015, 1016, 1017, 1018, 1019, 1020, 1021, 1022, 1023, 1024, 1025, 1026, 1027, 1028, 1029, 1030, 1031, 1032, 1033, 1034, 1035, 1036, 1037, 1038] (by decide +kernel) (by decide +kernel)
set_option maxRecDepth 20000 in
theorem gL_law_X5_hushes : GoodIn wsL_law (wsV RL 44 RX5 yX5_hushes wsX5_hushes) := goodIn_app (goodIn_of _ (by decide +kernel)) ggL_law_X5_hushes
set_option maxRecDepth 20000 in
theorem ggL_law_X4_isle : GoodIn wsL_law wsX4_isle := goodIn_r _ [434, 16, 24, 173, 19, 174, 175, 87, 2, 88, 89, 90, 91, 176, 177, 97, 98, 99, 100, 101, 102, 31, 409, 23, 410, 411, 412, 55, 413, 414, 204, 205, 206, 140, 141, 142, 43, 143, 144, 145, 146, 44, 45, 46, 47, 147, 148, 48, 49, 50, 149, 193, 194, 195, 997, 998, 999, 1000, 1001, 1002, 1003, 1004, 1005, 1043, 1044, 1045, 1046, 1047, 1048, 1049, 1050, 1051, 1052, 1053, 1054, 1055, 1056] (by decide +kernel) (by decide +kernel)
set_option maxRecDepth 20000 in
theorem gL_law_X4_isle : GoodIn wsL_law (wsV RL 45 RX4 yX4_isle wsX4_isle) := goodIn_app (goodIn_of _ (by decide +kernel)) ggL_law_X4_isle
set_option maxRecDepth 20000 in
theorem ggL_law_X5_isle : GoodIn wsL_law wsX5_isle := goodIn_r _ [438, 79, 80, 283, 284, 5, 285, 112, 113, 114, 115, 116, 117, 118, 64, 419, 420, 421, 422, 266, 74, 286, 287, 288, 289, 290, 291, 65, 66, 67, 68, 69, 292, 293, 81, 294, 295, 296, 297, 298, 299, 300, 301, 302, 1006, 1007, 1008, 1009, 1010, 1011, 1012, 1013, 1014, 1015, 1016, 1017, 1018, 1019, 1020, 1021, 1022, 1023, 1024, 1025, 1026, 1027, 1028, 1029, 1030, 1031, 1032, 1033, 1034, 1035, 1036, 1037, 1038] (by decide +kernel) (by decide +kernel)
set_option maxRecDepth 20000 in
theorem gL_law_X5_isle : GoodIn wsL_law (wsV RL 48 RX5 yX5_isle wsX5_isle) := goodIn_app (goodIn_of _ (by decide +kernel)) ggL_law_X5_isle
set_option maxRecDepth 20000 in
theorem ggL_law_X4_hours : GoodIn wsL_law wsX4_hours := goodIn_r _ [442, 16, 24, 178, 19, 179, 180, 149, 50, 87, 2, 88, 89, 90, 91, 99, 100, 101, 102, 31, 409, 23, 410, 411, 412, 55, 413, 414, 204, 205, 206, 140, 141, 142, 43, 143, 144, 145, 146, 44, 45, 46, 47, 147, 148, 48, 49, 196, 197, 198, 199, 200, 201, 202, 203, 207, 208, 209, 210, 211, 212, 213, 214, 215, 216, 217, 218, 219, 220, 221, 222, 223, 224, 225, 226, 227, 228, 229, 230, 231, 232, 233, 234, 235, 236, 237, 238, 239, 240, 241, 242, 243, 244, 245, 246, 247, 248, 249, 250, 251, 252, 253, 254, 255, 256, 164, 165, 166, 167, 997, 998, 999, 1000, 1001, 1002, 1003, 1004, 1005, 1043, 1044, 1045, 1046, 1047, 1048, 1049, 1050, 1051, 1052, 1053, 1054, 1055, 1056] (by decide +kernel) (by decide +kernel)
set_option maxRecDepth 20000 in
theorem gL_law_X4_hours : GoodIn wsL_law (wsV RL 49 RX4 yX4_hours wsX4_hours) := goodIn_app (goodIn_of _ (by decide +kernel)) ggL_law_X4_hours
set_option maxRecDepth 20000 in
theorem ggL_law_X5_hours : GoodIn wsL_law wsX5_hours := goodIn_r _ [446, 79, 112, 113, 5, 114, 330, 331, 332, 333, 294, 81, 115, 116, 117, 118, 64, 419, 420, 421, 422, 266, 74, 286, 287, 288, 289, 290, 291, 65, 66, 67, 68, 69, 292, 293, 80, 295, 296, 297, 298, 299, 300, 301, 302, 334, 335, 336, 337, 338, 339, 340, 341, 342, 343, 344, 345, 346, 347, 348, 349, 350, 351, 352, 353, 354, 355, 356, 357, 358, 359, 360, 283, 284, 285, 361, 362, 363, 364, 365, 366, 367, 368, 369, 370, 371, 372, 373, 374, 375, 376, 377, 378, 314, 315, 316, 317, 1006, 1007, 1008, 1009, 1010, 1011, 1012, 1013, 1014, 1015, 1016, 1017, 1018, 1019, 1020, 1021, 1022, 1023, 1024, 1025, 1026, 1027, 1028, 1029, 1030, 1031, 1032, 1033, 1034, 1035, 1036, 1037, 1038] (by decide +kernel) (by decide +kernel)
set_option maxRecDepth 20000 in
theorem gL_law_X5_hours : GoodIn wsL_law (wsV RL 52 RX5 yX5_hours wsX5_hours) := goodIn_app (goodIn_of _ (by decide +kernel)) ggL_law_X5_hours
set_option maxRecDepth 20000 in
theorem ggL_law_X4_back : GoodIn wsL_law wsX4_back := goodIn_r _ [450, 24, 16, 99, 100, 101, 2, 102, 31, 451, 23, 452, 453, 55, 412, 413, 140, 19, 141, 142, 43, 143, 144, 145, 146, 44, 45, 46, 47, 147, 148, 48, 49, 50, 149, 997, 998, 999, 1000, 1001, 1002, 1003, 1004, 1005, 1054, 1055, 1056, 1043, 1044, 1045, 1046, 1047, 1048, 1049, 1050, 1051, 1052, 1053] (by decide +kernel) (by decide +kernel)
set_option maxRecDepth 20000 in
theorem gL_law_X4_back : GoodIn wsL_law (wsV RL 53 RX4 yX4_back wsX4_back) := goodIn_app (goodIn_of _ (by decide +kernel)) ggL_law_X4_back
set_option maxRecDepth 20000 in
theorem ggL_law_X5_back : GoodIn wsL_law wsX5_back := goodIn_r _ [457, 266, 115, 116, 117, 5, 118, 64, 286, 287, 288, 289, 290, 291, 65, 66, 67, 68, 69, 292, 293, 79, 80, 81, 294, 295, 296, 297, 298, 74, 299, 300, 301, 302, 1006, 1007, 1008, 1009, 1010, 1011, 1012, 1013, 1014, 1015, 1016, 1017, 1018, 1019, 1020, 1021, 1022, 1023, 1024, 1025, 1026, 1027, 1028, 1029, 1030, 1031, 1032, 1033, 1034, 1035, 1036, 1037, 1038] (by decide +kernel) (by decide +kernel)
set_option maxRecDepth 20000 in
theorem gL_law_X5_back : GoodIn wsL_law (wsV RL 56 RX5 yX5_back wsX5_back) := goodIn_app (goodIn_of _ (by decide +kernel)) ggL_law_X5_back
set_option maxRecDepth 20000 in
theorem ggL_law_X4_noise : GoodIn wsL_law wsX4_noise := goodIn_r _ [461, 16, 383, 171, 2, 172, 96, 97, 98, 99, 100, 101, 102, 31, 212, 19, 213, 214, 46, 215, 216, 217, 218, 147, 219, 220, 221, 222, 45, 48, 223, 224, 225, 226, 43, 44, 227, 228, 229, 230, 997, 998, 999, 1000, 1001, 1002, 1003, 1004, 1005, 1043, 1044, 1045, 1046, 1047, 1048, 1049, 1050, 1051, 1052, 1053] (by decide +kernel) (by decide +kernel)
set_option maxRecDepth 20000 in
theorem gL_law_X4_noise : GoodIn wsL_law (wsV RL 57 RX4 yX4_noise wsX4_noise) := goodIn_app (goodIn_of _ (by decide +kernel)) ggL_law_X4_noise
set_option maxRecDepth 20000 in
theorem ggL_law_X5_noise : GoodIn wsL_law wsX5_noise := goodIn_r _ [465, 322, 323, 324, 5, 325, 292, 283, 284, 285, 346, 347, 348, 349, 293, 68, 67, 79, 350, 351, 352, 353, 354, 355, 356, 65, 66, 357, 358, 359, 360, 115, 116, 117, 118, 64, 1006, 1007, 1008, 1009, 1010, 1011, 1012, 1013, 1014, 1015, 1016, 1017, 1018, 1019, 1020, 1021, 1022, 1023, 1024, 1025, 1026, 1027, 1028, 1029, 1030, 1031, 1032, 1033, 1034, 1035, 1036, 1037, 1038] (by decide +kernel) (by decide +kernel)
set_option maxRecDepth 20000 in
theorem gL_law_X5_noise : GoodIn wsL_law (wsV RL 60 RX5 yX5_noise wsX5_noise) := goodIn_app (goodIn_of _ (by decide +kernel)) ggL_law_X5_noise
set_option maxRecDepth 20000 in
theorem ggL_law_X4_loudest : GoodIn wsL_law wsX4_loudest := goodIn_r _ [469, 16, 383, 171, 2, 172, 384, 176, 177, 96, 97, 98, 99, 100, 101, 102, 31, 208, 19, 209, 210, 148, 211, 212, 213, 214, 46, 215, 216, 217, 218, 147, 219, 220, 221, 222, 45, 48, 223, 224, 225, 226, 43, 44, 227, 228, 229, 230, 231, 232, 233, 234, 235, 236, 205, 237, 470, 471, 472, 997, 998, 999, 1000, 1001, 1002, 1003, 1004, 1005, 1043, 1044, 1045, 1046, 1047, 1048, 1049, 1050, 1051, 1052, 1053] (by decide +kernel) (by decide +kernel)
set_option maxRecDepth 20000 in
theorem gL_law_X4_loudest : GoodIn wsL_law (wsV RL 61 RX4 yX4_loudest wsX4_loudest) := goodIn_app (goodIn_of _ (by decide +kernel)) ggL_law_X4_loudest
set_option maxRecDepth 20000 in
theorem ggL_law_X5_loudest : GoodIn wsL_law wsX5_loudest := goodIn_r _ [476, 283, 284, 5, 285, 115, 116, 117, 118, 64, 342, 343, 344, 345, 292, 346, 347, 348, 349, 293, 68, 67, 79, 350, 351, 352, 353, 354, 355, 356, 65, 66, 357, 358, 359, 360, 361, 362, 363, 364, 365, 366, 367, 477, 478, 479, 480, 1006, 1007, 1008, 1009, 1010, 1011, 1012, 1013, 1014, 1015, 1016, 1017, 1018, 1019, 1020, 1021, 1022, 1023, 1024, 1025, 1026, 1027, 1028, 1029, 1030, 1031, 1032, 1033, 1034, 1035, 1036, 1037, 1038] (by decide +kernel) (by decide +kernel)
set_option maxRecDepth 20000 in
theorem gL_law_X5_loudest : GoodIn wsL_law (wsV RL 64 RX5 yX5_loudest wsX5_loudest) := goodIn_app (goodIn_of _ (by decide +kernel)) ggL_law_X5_loudest
set_option maxRecDepth 20000 in
theorem ggL_law_X4_behind : GoodIn wsL_law wsX4_behind := goodIn_r _ [484, 15, 485, 486, 2, 487, 86, 87, 88, 89, 90, 91, 384, 176, 177, 96, 97, 98, 99, 100, 101, 102, 31, 488, 14, 489, 490, 491, 137, 138, 139, 37, 36, 140, 19, 141, 142, 43, 143, 144, 145, 146, 44, 45, 46, 47, 147, 148, 48, 49, 50, 149, 196, 197, 198, 199, 200, 201, 202, 203, 204, 205, 206, 207, 208, 209, 210, 211, 212, 213, 214, 215, 216, 217, 218, 219, 220, 221, 222, 223, 224, 225, 226, 227, 228, 229, 230, 231, 232, 233, 234, 235, 236, 237, 238, 239, 240, 241, 242, 243, 244, 245, 246, 247, 248, 249, 250, 251, 252, 253, 254, 255, 256, 164, 165, 166, 167, 997, 998, 999, 1000, 1001, 1002, 1003, 1004, 1005, 1043, 1044, 1045, 1046, 1047, 1048, 1049, 1050, 1051, 1052, 1053, 1039, 1040, 1041, 1042] (by decide +kernel) (by decide +kernel)
set_option maxRecDepth 20000 in
theorem gL_law_X4_behind : GoodIn wsL_law (wsV RL 65 RX4 yX4_behind wsX4_behind) := goodIn_app (goodIn_of _ (by decide +kernel)) ggL_law_X4_behind
set_option maxRecDepth 20000 in
theorem ggL_law_X5_behind : GoodIn wsL_law wsX5_behind := goodIn_r _ [495, 79, 496, 497, 5, 498, 112, 113, 114, 283, 284, 285, 115, 116, 117, 118, 64, 499, 500, 501, 502, 286, 287, 288, 289, 290, 291, 65, 66, 67, 68, 69, 292, 293, 80, 81, 294, 295, 296, 297, 298, 74, 299, 300, 301, 302, 334, 335, 336, 337, 338, 339, 340, 341, 342, 343, 344, 345, 346, 347, 348, 349, 350, 351, 352, 353, 354, 355, 356, 357, 358, 359, 360, 361, 362, 363, 364, 365, 366, 367, 368, 369, 370, 371, 372, 373, 374, 375, 376, 377, 378, 314, 315, 316, 317, 503, 504, 505, 506, 1006, 1007, 1008, 1009, 1010, 1011, 1012, 1013, 1014, 1015, 1016, 1017, 1018, 1019, 1020, 1021, 1022, 1023, 1024, 1025, 1026, 1027, 1028, 1029, 1030, 1031, 1032, 1033, 1034, 1035, 1036, 1037, 1038] (by decide +kernel) (by decide +kernel)
set_option maxRecDepth 20000 in
theorem gL_law_X5_behind : GoodIn wsL_law (wsV RL 68 RX5 yX5_behind wsX5_behind) := goodIn_app (goodIn_of _ (by decide +kernel)) ggL_law_X5_behind
set_option maxRecDepth 20000 in
theorem ggL_law_X4_shoreBehind : GoodIn wsL_law wsX4_shoreBehind := goodIn_r _ [510, 15, 511, 512, 513, 2, 514, 515, 516, 517, 518, 16, 383, 171, 172, 86, 87, 88, 89, 90, 91, 96, 97, 98, 384, 176, 177, 99, 100, 101, 102, 31, 488, 14, 489, 490, 491, 137, 138, 139, 37, 36, 140, 19, 141, 142, 43, 143, 144, 145, 146, 44, 45, 46, 47, 147, 148, 48, 49, 50, 149, 196, 197, 198, 199, 200, 201, 202, 203, 204, 205, 206, 207, 208, 209, 210, 211, 212, 213, 214, 215, 216, 217, 218, 219, 220, 221, 222, 223, 224, 225, 226, 227, 228, 229, 230, 231, 232, 233, 234, 235, 236, 237, 238, 239, 240, 241, 242, 243, 244, 245, 246, 247, 248, 249, 250, 251, 252, 253, 254, 255, 256, 164, 165, 166, 167, 997, 998, 999, 1000, 1001, 1002, 1003, 1004, 1005, 1043, 1044, 1045, 1046, 1047, 1048, 1049, 1050, 1051, 1052, 1053, 1039, 1040, 1041, 1042] (by decide +kernel) (by decide +kernel)
set_option maxRecDepth 20000 in
theorem gL_law_X4_shoreBehind : GoodIn wsL_law (wsV RL 69 RX4 yX4_shoreBehind wsX4_shoreBehind) := goodIn_app (goodIn_of _ (by decide +kernel)) ggL_law_X4_shoreBehind
set_option maxRecDepth 20000 in
theorem ggL_law_X5_shoreBehind : GoodIn wsL_law wsX5_shoreBehind := goodIn_r _ [522, 69, 68, 322, 323, 324, 5, 325, 292, 496, 497, 498, 112, 113, 114, 283, 284, 285, 115, 116, 117, 118, 64, 499, 500, 501, 502, 286, 287, 288, 289, 290, 291, 65, 66, 67, 293, 79, 80, 81, 294, 295, 296, 297, 298, 74, 299, 300, 301, 302, 334, 335, 336, 337, 338, 339, 340, 341, 342, 343, 344, 345, 346, 347, 348, 349, 350, 351, 352, 353, 354, 355, 356, 357, 358, 359, 360, 361, 362, 363, 364, 365, 366, 367, 368, 369, 370, 371, 372, 373, 374, 375, 376, 377, 378, 314, 315, 316, 317, 503, 504, 505, 506, 1006, 1007, 1008, 1009, 1010, 1011, 1012, 1013, 1014, 1015, 1016, 1017, 1018, 1019, 1020, 1021, 1022, 1023, 1024, 1025, 1026, 1027, 1028, 1029, 1030, 1031, 1032, 1033, 1034, 1035, 1036, 1037, 1038] (by decide +kernel) (by decide +kernel)
set_option maxRecDepth 20000 in
theorem gL_law_X5_shoreBehind : GoodIn wsL_law (wsV RL 72 RX5 yX5_shoreBehind wsX5_shoreBehind) := goodIn_app (goodIn_of _ (by decide +kernel)) ggL_law_X5_shoreBehind
set_option maxRecDepth 20000 in
theorem ggL_law_X4_first : GoodIn wsL_law wsX4_first := goodIn_r _ [526, 16, 15, 383, 171, 2, 172, 99, 100, 101, 102, 31, 527, 14, 528, 529, 491, 137, 138, 139, 37, 36, 140, 19, 141, 142, 43, 143, 144, 145, 146, 44, 45, 46, 47, 147, 148, 48, 49, 50, 149, 220, 221, 222, 200, 201, 202, 203, 204, 205, 206, 207, 208, 209, 210, 211, 212, 213, 214, 215, 216, 217, 218, 219, 223, 224, 225, 226, 227, 228, 229, 230, 231, 232, 233, 234, 235, 236, 237, 238, 239, 240, 241, 242, 243, 244, 245, 246, 247, 248, 249, 250, 251, 252, 253, 254, 255, 256, 164, 165, 166, 167, 997, 998, 999, 1000, 1001, 1002, 1003, 1004, 1005, 1043, 1044, 1045, 1046, 1047, 1048, 1049, 1050, 1051, 1052, 1053, 1039, 1040, 1041, 1042] (by decide +kernel) (by decide +kernel)
set_option maxRecDepth 20000 in
theorem gL_law_X4_first : GoodIn wsL_law (wsV RL 73 RX4 yX4_first wsX4_first) := goodIn_app (goodIn_of _ (by decide +kernel)) ggL_law_X4_first
set_option maxRecDepth 20000 in
theorem ggL_law_X5_first : GoodIn wsL_law wsX5_first := goodIn_r _ [533, 76, 322, 323, 324, 5, 325, 292, 115, 116, 117, 118, 64, 534, 535, 536, 537, 75, 538, 539, 540, 79, 499, 500, 501, 502, 286, 287, 288, 289, 290, 291, 65, 66, 67, 68, 69, 293, 80, 81, 294, 295, 296, 297, 298, 74, 299, 300, 301, 302, 375, 376, 377, 378, 314, 315, 316, 317, 338, 339, 340, 341, 342, 343, 344, 345, 346, 347, 348, 349, 350, 351, 352, 353, 354, 355, 356, 357, 358, 359, 360, 283, 284, 285, 361, 362, 363, 364, 365, 366, 367, 368, 369, 370, 371, 372, 373, 374, 503, 504, 505, 506, 1006, 1007, 1008, 1009, 1010, 1011, 1012, 1013, 1014, 1015, 1016, 1017, 1018, 1019, 1020, 1021, 1022, 1023, 1024, 1025, 1026, 1027, 1028, 1029, 1030, 1031, 1032, 1033, 1034, 1035, 1036, 1037, 1038] (by decide +kernel) (by decide +kernel)
set_option maxRecDepth 20000 in
theorem gL_law_X5_first : GoodIn wsL_law (wsV RL 76 RX5 yX5_first wsX5_first) := goodIn_app (goodIn_of _ (by decide +kernel)) ggL_law_X5_first
set_option maxRecDepth 20000 in
theorem ggL_law_X4_whoFirst : GoodIn wsL_law wsX4_whoFirst := goodIn_r _ [544, 15, 545, 14, 546, 547, 491, 137, 138, 139, 37, 36, 140, 19, 141, 142, 43, 143, 144, 145, 146, 44, 45, 46, 47, 147, 148, 48, 49, 50, 149, 254, 255, 256, 164, 165, 166, 167, 200, 201, 202, 203, 204, 205, 206, 207, 208, 209, 210, 211, 212, 213, 214, 215, 216, 217, 218, 219, 220, 221, 222, 223, 224, 225, 226, 227, 228, 229, 230, 231, 232, 233, 234, 235, 236, 237, 238, 239, 240, 241, 242, 243, 244, 245, 246, 247, 248, 249, 250, 251, 252, 253, 548, 549, 550, 551, 527, 528, 529, 552, 553, 554, 99, 100, 101, 2, 102, 31, 997, 998, 999, 1000, 1001, 1002, 1003, 1004, 1005, 1039, 1040, 1041, 1042, 1043, 1044, 1045, 1046, 1047, 1048, 1049, 1050, 1051, 1052, 1053] (by decide +kernel) (by decide +kernel)
set_option maxRecDepth 20000 in
theorem gL_law_X4_whoFirst : GoodIn wsL_law (wsV RL 77 RX4 yX4_whoFirst wsX4_whoFirst) := goodIn_app (goodIn_of _ (by decide +kernel)) ggL_law_X4_whoFirst
set_option maxRecDepth 20000 in
theorem ggL_law_X5_whoFirst : GoodIn wsL_law wsX5_whoFirst := goodIn_r _ [558, 292, 76, 540, 283, 284, 5, 285, 115, 116, 117, 118, 64, 534, 535, 536, 537, 75, 538, 539, 79, 499, 500, 501, 502, 286, 287, 288, 289, 290, 291, 65, 66, 67, 68, 69, 293, 80, 81, 294, 295, 296, 297, 298, 74, 299, 300, 301, 302, 375, 376, 377, 378, 314, 315, 316, 317, 338, 339, 340, 341, 342, 343, 344, 345, 346, 347, 348, 349, 350, 351, 352, 353, 354, 355, 356, 357, 358, 359, 360, 361, 362, 363, 364, 365, 366, 367, 368, 369, 370, 371, 372, 373, 374, 503, 504, 505, 506, 1006, 1007, 1008, 1009, 1010, 1011, 1012, 1013, 1014, 1015, 1016, 1017, 1018, 1019, 1020, 1021, 1022, 1023, 1024, 1025, 1026, 1027, 1028, 1029, 1030, 1031, 1032, 1033, 1034, 1035, 1036, 1037, 1038] (by decide +kernel) (by decide +kernel)
set_option maxRecDepth 20000 in
theorem gL_law_X5_whoFirst : GoodIn wsL_law (wsV RL 80 RX5 yX5_whoFirst wsX5_whoFirst) := goodIn_app (goodIn_of _ (by decide +kernel)) ggL_law_X5_whoFirst
set_option maxRecDepth 20000 in
theorem ggL_law_X4_most : GoodIn wsL_law wsX4_most := goodIn_r _ [562, 15, 485, 486, 2, 487, 86, 87, 88, 89, 90, 91, 384, 176, 177, 96, 97, 98, 99, 100, 101, 102, 31, 563, 14, 564, 565, 36, 566, 567, 568, 569, 491, 137, 138, 139, 37, 140, 19, 141, 142, 43, 143, 144, 145, 146, 44, 45, 46, 47, 147, 148, 48, 49, 50, 149, 570, 571, 572, 573, 200, 201, 202, 203, 204, 205, 206, 207, 208, 209, 210, 211, 212, 213, 214, 215, 216, 217, 218, 219, 220, 221, 222, 223, 224, 225, 226, 227, 228, 229, 230, 231, 232, 233, 234, 235, 236, 237, 238, 239, 240, 241, 242, 243, 244, 245, 246, 247, 248, 249, 250, 251, 252, 253, 254, 255, 256, 164, 165, 166, 167, 997, 998, 999, 1000, 1001, 1002, 1003, 1004, 1005, 1039, 1040, 1041, 1042, 1043, 1044, 1045, 1046, 1047, 1048, 1049, 1050, 1051, 1052, 1053] (by decide +kernel) (by decide +kernel)
set_option maxRecDepth 20000 in
theorem gL_law_X4_most : GoodIn wsL_law (wsV RL 81 RX4 yX4_most wsX4_most) := goodIn_app (goodIn_of _ (by decide +kernel)) ggL_law_X4_most
set_option maxRecDepth 20000 in
theorem ggL_law_X5_most : GoodIn wsL_law wsX5_most := goodIn_r _ [577, 292, 75, 496, 497, 5, 498, 112, 113, 114, 283, 284, 285, 115, 116, 117, 118, 64, 534, 535, 536, 537, 76, 538, 539, 540, 79, 499, 500, 501, 502, 286, 287, 288, 289, 290, 291, 65, 66, 67, 68, 69, 293, 80, 81, 294, 295, 296, 297, 298, 74, 299, 300, 301, 302, 375, 376, 377, 378, 314, 315, 316, 317, 338, 339, 340, 341, 342, 343, 344, 345, 346, 347, 348, 349, 350, 351, 352, 353, 354, 355, 356, 357, 358, 359, 360, 361, 362, 363, 364, 365, 366, 367, 368, 369, 370, 371, 372, 373, 374, 503, 504, 505, 506, 1006, 1007, 1008, 1009, 1010, 1011, 1012, 1013, 1014, 1015, 1016, 1017, 1018, 1019, 1020, 1021, 1022, 1023, 1024, 1025, 1026, 1027, 1028, 1029, 1030, 1031, 1032, 1033, 1034, 1035, 1036, 1037, 1038] (by decide +kernel) (by decide +kernel)
set_option maxRecDepth 20000 in
theorem gL_law_X5_most : GoodIn wsL_law (wsV RL 84 RX5 yX5_most wsX5_most) := goodIn_app (goodIn_of _ (by decide +kernel)) ggL_law_X5_most
set_option maxRecDepth 20000 in
theorem ggL_law_X4_farthest : GoodIn wsL_law wsX4_farthest := goodIn_r _ [581, 15, 485, 486, 2, 487, 86, 87, 88, 89, 90, 91, 384, 176, 177, 96, 97, 98, 99, 100, 101, 102, 31, 582, 14, 583, 584, 585, 204, 205, 206, 491, 137, 138, 139, 37, 36, 140, 19, 141, 142, 43, 143, 144, 145, 146, 44, 45, 46, 47, 147, 148, 48, 49, 50, 149, 200, 201, 202, 203, 207, 208, 209, 210, 211, 212, 213, 214, 215, 216, 217, 218, 219, 220, 221, 222, 223, 224, 225, 226, 227, 228, 229, 230, 231, 232, 233, 234, 235, 236, 237, 238, 239, 240, 241, 242, 243, 244, 245, 246, 247, 248, 249, 250, 251, 252, 253, 254, 255, 256, 164, 165, 166, 167, 586, 587, 588, 589, 997, 998, 999, 1000, 1001, 1002, 1003, 1004, 1005, 1043, 1044, 1045, 1046, 1047, 1048, 1049, 1050, 1051, 1052, 1053, 1039, 1040, 1041, 1042] (by decide +kernel) (by decide +kernel)
set_option maxRecDepth 20000 in
theorem gL_law_X4_farthest : GoodIn wsL_law (wsV RL 85 RX4 yX4_farthest wsX4_farthest) := goodIn_app (goodIn_of _ (by decide +kernel)) ggL_law_X4_farthest
set_option maxRecDepth 20000 in
theorem ggL_law_X5_farthest : GoodIn wsL_law wsX5_farthest := goodIn_r _ [593, 538, 539, 496, 497, 5, 498, 112, 113, 114, 283, 284, 285, 115, 116, 117, 118, 64, 534, 535, 536, 537, 75, 76, 540, 79, 499, 500, 501, 502, 286, 287, 288, 289, 290, 291, 65, 66, 67, 68, 69, 292, 293, 80, 81, 294, 295, 296, 297, 298, 74, 299, 300, 301, 302, 375, 376, 377, 378, 314, 315, 316, 317, 338, 339, 340, 341, 342, 343, 344, 345, 346, 347, 348, 349, 350, 351, 352, 353, 354, 355, 356, 357, 358, 359, 360, 361, 362, 363, 364, 365, 366, 367, 368, 369, 370, 371, 372, 373, 374, 503, 504, 505, 506, 1006, 1007, 1008, 1009, 1010, 1011, 1012, 1013, 1014, 1015, 1016, 1017, 1018, 1019, 1020, 1021, 1022, 1023, 1024, 1025, 1026, 1027, 1028, 1029, 1030, 1031, 1032, 1033, 1034, 1035, 1036, 1037, 1038] (by decide +kernel) (by decide +kernel)
set_option maxRecDepth 20000 in
theorem gL_law_X5_farthest : GoodIn wsL_law (wsV RL 88 RX5 yX5_farthest wsX5_farthest) := goodIn_app (goodIn_of _ (by decide +kernel)) ggL_law_X5_farthest
set_option maxRecDepth 20000 in
theorem ggL_law_X4_hush : GoodIn wsL_law wsX4_hush := goodIn_r _ [597, 15, 515, 516, 517, 2, 518, 16, 383, 171, 172, 86, 87, 88, 89, 90, 91, 96, 97, 98, 99, 100, 101, 102, 31, 598, 14, 599, 600, 36, 566, 567, 568, 569, 491, 137, 138, 139, 37, 140, 19, 141, 142, 43, 143, 144, 145, 146, 44, 45, 46, 47, 147, 148, 48, 49, 50, 149, 570, 571, 572, 573, 200, 201, 202, 203, 204, 205, 206, 207, 208, 209, 210, 211, 212, 213, 214, 215, 216, 217, 218, 219, 220, 221, 222, 223, 224, 225, 226, 227, 228, 229, 230, 231, 232, 233, 234, 235, 236, 237, 238, 239, 240, 241, 242, 243, 244, 245, 246, 247, 248, 249, 250, 251, 252, 253, 254, 255, 256, 164, 165, 166, 167, 601, 602, 603, 604, 997, 998, 999, 1000, 1001, 1002, 1003, 1004, 1005, 1043, 1044, 1045, 1046, 1047, 1048, 1049, 1050, 1051, 1052, 1053, 1039, 1040, 1041, 1042] (by decide +kernel) (by decide +kernel)
set_option maxRecDepth 20000 in
theorem gL_law_X4_hush : GoodIn wsL_law (wsV RL 89 RX4 yX4_hush wsX4_hush) := goodIn_app (goodIn_of _ (by decide +kernel)) ggL_law_X4_hush
set_option maxRecDepth 20000 in
theorem ggL_law_X5_hush : GoodIn wsL_law wsX5_hush := goodIn_r _ [608, 292, 322, 323, 324, 5, 325, 496, 497, 498, 112, 113, 114, 115, 116, 117, 118, 64, 609, 610, 611, 612, 75, 534, 535, 536, 537, 76, 538, 539, 540, 79, 499, 500, 501, 502, 286, 287, 288, 289, 290, 291, 65, 66, 67, 68, 69, 293, 80, 81, 294, 295, 296, 297, 298, 74, 299, 300, 301, 302, 375, 376, 377, 378, 314, 315, 316, 317, 338, 339, 340, 341, 342, 343, 344, 345, 346, 347, 348, 349, 350, 351, 352, 353, 354, 355, 356, 357, 358, 359, 360, 283, 284, 285, 361, 362, 363, 364, 365, 366, 367, 368, 369, 370, 371, 372, 373, 374, 503, 504, 505, 506, 613, 614, 615, 616, 1006, 1007, 1008, 1009, 1010, 1011, 1012, 1013, 1014, 1015, 1016, 1017, 1018, 1019, 1020, 1021, 1022, 1023, 1024, 1025, 1026, 1027, 1028, 1029, 1030, 1031, 1032, 1033, 1034, 1035, 1036, 1037, 1038] (by decide +kernel) (by decide +kernel)
set_option maxRecDepth 20000 in
theorem gL_law_X5_hush : GoodIn wsL_law (wsV RL 92 RX5 yX5_hush wsX5_hush) := goodIn_app (goodIn_of _ (by decide +kernel)) ggL_law_X5_hush
set_option maxRecDepth 20000 in
theorem ggL_law_X4_fewest : GoodIn wsL_law wsX4_fewest := goodIn_r _ [620, 15, 515, 516, 517, 2, 518, 16, 383, 171, 172, 86, 87, 88, 89, 90, 91, 96, 97, 98, 99, 100, 101, 102, 31, 621, 14, 622, 623, 36, 624, 625, 626, 627, 628, 629, 630, 601, 602, 603, 604, 491, 137, 138, 139, 37, 140, 19, 141, 142, 43, 143, 144, 145, 146, 44, 45, 46, 47, 147, 148, 48, 49, 50, 149, 570, 571, 572, 573, 200, 201, 202, 203, 204, 205, 206, 207, 208, 209, 210, 211, 212, 213, 214, 215, 216, 217, 218, 219, 220, 221, 222, 223, 224, 225, 226, 227, 228, 229, 230, 231, 232, 233, 234, 235, 236, 237, 238, 239, 240, 241, 242, 243, 244, 245, 246, 247, 248, 249, 250, 251, 252, 253, 254, 255, 256, 164, 165, 166, 167, 997, 998, 999, 1000, 1001, 1002, 1003, 1004, 1005, 1043, 1044, 1045, 1046, 1047, 1048, 1049, 1050, 1051, 1052, 1053, 1039, 1040, 1041, 1042] (by decide +kernel) (by decide +kernel)
set_option maxRecDepth 20000 in
theorem gL_law_X4_fewest : GoodIn wsL_law (wsV RL 93 RX4 yX4_fewest wsX4_fewest) := goodIn_app (goodIn_of _ (by decide +kernel)) ggL_law_X4_fewest
set_option maxRecDepth 20000 in
theorem ggL_law_X5_fewest : GoodIn wsL_law wsX5_fewest := goodIn_r _ [634, 292, 322, 323, 324, 5, 325, 496, 497, 498, 112, 113, 114, 115, 116, 117, 118, 64, 350, 351, 352, 635, 636, 637, 613, 614, 615, 616, 293, 609, 610, 611, 612, 75, 534, 535, 536, 537, 76, 538, 539, 540, 79, 499, 500, 501, 502, 286, 287, 288, 289, 290, 291, 65, 66, 67, 68, 69, 80, 81, 294, 295, 296, 297, 298, 74, 299, 300, 301, 302, 375, 376, 377, 378, 314, 315, 316, 317, 338, 339, 340, 341, 342, 343, 344, 345, 346, 347, 348, 349, 353, 354, 355, 356, 357, 358, 359, 360, 283, 284, 285, 361, 362, 363, 364, 365, 366, 367, 368, 369, 370, 371, 372, 373, 374, 503, 504, 505, 506, 1006, 1007, 1008, 1009, 1010, 1011, 1012, 1013, 1014, 1015, 1016, 1017, 1018, 1019, 1020, 1021, 1022, 1023, 1024, 1025, 1026, 1027, 1028, 1029, 1030, 1031, 1032, 1033, 1034, 1035, 1036, 1037, 1038] (by decide +kernel) (by decide +kernel)
set_option maxRecDepth 20000 in
theorem gL_law_X5_fewest : GoodIn wsL_law (wsV RL 96 RX5 yX5_fewest wsX5_fewest) := goodIn_app (goodIn_of _ (by decide +kernel)) ggL_law_X5_fewest
set_option maxRecDepth 20000 in
theorem ggL_law_X4_fromWhere : GoodIn wsL_law wsX4_fromWhere := goodIn_r _ [641, 15, 511, 512, 513, 2, 514, 515, 516, 517, 518, 16, 383, 171, 172, 86, 87, 88, 89, 90, 91, 96, 97, 98, 384, 176, 177, 99, 100, 101, 102, 31, 642, 14, 643, 644, 645, 646, 647, 648, 491, 137, 138, 139, 37, 36, 140, 19, 141, 142, 43, 143, 144, 145, 146, 44, 45, 46, 47, 147, 148, 48, 49, 50, 149, 196, 197, 198, 199, 200, 201, 202, 203, 204, 205, 206, 207, 208, 209, 210, 211, 212, 213, 214, 215, 216, 217, 218, 219, 220, 221, 222, 223, 224, 225, 226, 227, 228, 229, 230, 231, 232, 233, 234, 235, 236, 237, 238, 239, 240, 241, 242, 243, 244, 245, 246, 247, 248, 249, 250, 251, 252, 253, 254, 255, 256, 164, 165, 166, 167, 649, 650, 651, 997, 998, 999, 1000, 1001, 1002, 1003, 1004, 1005, 1043, 1044, 1045, 1046, 1047, 1048, 1049, 1050, 1051, 1052, 1053, 1039, 1040, 1041, 1042] (by decide +kernel) (by decide +kernel)
set_option maxRecDepth 20000 in
theorem gL_law_X4_fromWhere : GoodIn wsL_law (wsV RL 97 RX4 yX4_fromWhere wsX4_fromWhere) := goodIn_app (goodIn_of _ (by decide +kernel)) ggL_law_X4_fromWhere
set_option maxRecDepth 20000 in
theorem ggL_law_X5_fromWhere : GoodIn wsL_law wsX5_fromWhere := goodIn_r _ [655, 322, 323, 324, 5, 325, 292, 496, 497, 498, 112, 113, 114, 283, 284, 285, 115, 116, 117, 118, 64, 656, 657, 658, 659, 79, 660, 661, 662, 663, 286, 287, 288, 289, 290, 291, 65, 66, 67, 68, 69, 293, 80, 81, 294, 295, 296, 297, 298, 74, 299, 300, 301, 302, 334, 335, 336, 337, 338, 339, 340, 341, 342, 343, 344, 345, 346, 347, 348, 349, 350, 351, 352, 353, 354, 355, 356, 357, 358, 359, 360, 361, 362, 363, 364, 365, 366, 367, 368, 369, 370, 371, 372, 373, 374, 375, 376, 377, 378, 314, 315, 316, 317, 664, 665, 666, 667, 1006, 1007, 1008, 1009, 1010, 1011, 1012, 1013, 1014, 1015, 1016, 1017, 1018, 1019, 1020, 1021, 1022, 1023, 1024, 1025, 1026, 1027, 1028, 1029, 1030, 1031, 1032, 1033, 1034, 1035, 1036, 1037, 1038] (by decide +kernel) (by decide +kernel)
set_option maxRecDepth 20000 in
theorem gL_law_X5_fromWhere : GoodIn wsL_law (wsV RL 100 RX5 yX5_fromWhere wsX5_fromWhere) := goodIn_app (goodIn_of _ (by decide +kernel)) ggL_law_X5_fromWhere
set_option maxRecDepth 20000 in
theorem ggL_law_X4_powderWanted : GoodIn wsL_law wsX4_powderWanted := goodIn_r _ [671, 15, 511, 512, 513, 2, 514, 515, 516, 517, 518, 16, 383, 171, 172, 86, 87, 88, 89, 90, 91, 96, 97, 98, 384, 176, 177, 99, 100, 101, 102, 31, 672, 14, 673, 674, 36, 224, 19, 225, 226, 43, 44, 675, 676, 677, 678, 491, 137, 138, 139, 37, 140, 141, 142, 143, 144, 145, 146, 45, 46, 47, 147, 148, 48, 49, 50, 149, 187, 188, 189, 570, 571, 572, 573, 200, 201, 202, 203, 204, 205, 206, 207, 208, 209, 210, 211, 212, 213, 214, 215, 216, 217, 218, 219, 220, 221, 222, 223, 227, 228, 229, 230, 231, 232, 233, 234, 235, 236, 237, 238, 239, 240, 241, 242, 243, 244, 245, 246, 247, 248, 249, 250, 251, 252, 253, 254, 255, 256, 164, 165, 166, 167, 997, 998, 999, 1000, 1001, 1002, 1003, 1004, 1005, 1043, 1044, 1045, 1046, 1047, 1048, 1049, 1050, 1051, 1052, 1053, 1039, 1040, 1041, 1042] (by decide +kernel) (by decide +kernel)
set_option maxRecDepth 20000 in
theorem gL_law_X4_powderWanted : GoodIn wsL_law (wsV RL 101 RX4 yX4_powderWanted wsX4_powderWanted) := goodIn_app (goodIn_of _ (by decide +kernel)) ggL_law_X4_powderWanted
set_option maxRecDepth 20000 in
theorem ggL_law_X5_powderWanted : GoodIn wsL_law wsX5_powderWanted := goodIn_r _ [682, 68, 322, 323, 324, 5, 325, 292, 496, 497, 498, 112, 113, 114, 283, 284, 285, 115, 116, 117, 118, 64, 609, 610, 611, 612, 75, 534, 535, 536, 537, 76, 538, 539, 540, 79, 499, 500, 501, 502, 286, 287, 288, 289, 290, 291, 65, 66, 67, 69, 293, 80, 81, 294, 295, 296, 297, 298, 74, 299, 300, 301, 302, 375, 376, 377, 378, 314, 315, 316, 317, 338, 339, 340, 341, 342, 343, 344, 345, 346, 347, 348, 349, 350, 351, 352, 353, 354, 355, 356, 357, 358, 359, 360, 361, 362, 363, 364, 365, 366, 367, 368, 369, 370, 371, 372, 373, 374, 503, 504, 505, 506, 1006, 1007, 1008, 1009, 1010, 1011, 1012, 1013, 1014, 1015, 1016, 1017, 1018, 1019, 1020, 1021, 1022, 1023, 1024, 1025, 1026, 1027, 1028, 1029, 1030, 1031, 1032, 1033, 1034, 1035, 1036, 1037, 1038] (by decide +kernel) (by decide +kernel)
set_option maxRecDepth 20000 in
theorem gL_law_X5_powderWanted : GoodIn wsL_law (wsV RL 104 RX5 yX5_powderWanted wsX5_powderWanted) := goodIn_app (goodIn_of _ (by decide +kernel)) ggL_law_X5_powderWanted
set_option maxRecDepth 20000 in
theorem ggL_law_X4_newShore : GoodIn wsL_law wsX4_newShore := goodIn_r _ [686, 15, 384, 176, 2, 177, 86, 87, 88, 89, 90, 91, 96, 97, 98, 99, 100, 101, 102, 31, 687, 14, 688, 689, 36, 165, 19, 166, 167, 148, 45, 690, 691, 692, 693, 491, 137, 138, 139, 37, 140, 141, 142, 43, 143, 144, 145, 146, 44, 46, 47, 147, 48, 49, 50, 149, 184, 185, 186, 570, 571, 572, 573, 200, 201, 202, 203, 204, 205, 206, 207, 208, 209, 210, 211, 212, 213, 214, 215, 216, 217, 218, 219, 220, 221, 222, 223, 224, 225, 226, 227, 228, 229, 230, 231, 232, 233, 234, 235, 236, 237, 238, 239, 240, 241, 242, 243, 244, 245, 246, 247, 248, 249, 250, 251, 252, 253, 254, 255, 256, 164, 997, 998, 999, 1000, 1001, 1002, 1003, 1004, 1005, 1039, 1040, 1041, 1042, 1043, 1044, 1045, 1046, 1047, 1048, 1049, 1050, 1051, 1052, 1053] (by decide +kernel) (by decide +kernel)
set_option maxRecDepth 20000 in
theorem gL_law_X4_newShore : GoodIn wsL_law (wsV RL 105 RX4 yX4_newShore wsX4_newShore) := goodIn_app (goodIn_of _ (by decide +kernel)) ggL_law_X4_newShore
set_option maxRecDepth 20000 in
theorem ggL_law_X5_newShore : GoodIn wsL_law wsX5_newShore := goodIn_r _ [697, 292, 283, 284, 5, 285, 496, 497, 498, 112, 113, 114, 115, 116, 117, 118, 64, 314, 315, 316, 317, 67, 698, 699, 700, 701, 660, 661, 662, 663, 286, 287, 288, 289, 290, 291, 65, 66, 68, 69, 293, 79, 80, 81, 294, 295, 296, 297, 298, 74, 299, 300, 301, 302, 318, 319, 320, 321, 609, 610, 611, 612, 75, 534, 535, 536, 537, 76, 538, 539, 540, 499, 500, 501, 502, 375, 376, 377, 378, 338, 339, 340, 341, 342, 343, 344, 345, 346, 347, 348, 349, 350, 351, 352, 353, 354, 355, 356, 357, 358, 359, 360, 361, 362, 363, 364, 365, 366, 367, 368, 369, 370, 371, 372, 373, 374, 503, 504, 505, 506, 664, 665, 666, 667, 1006, 1007, 1008, 1009, 1010, 1011, 1012, 1013, 1014, 1015, 1016, 1017, 1018, 1019, 1020, 1021, 1022, 1023, 1024, 1025, 1026, 1027, 1028, 1029, 1030, 1031, 1032, 1033, 1034, 1035, 1036, 1037, 1038] (by decide +kernel) (by decide +kernel)
set_option maxRecDepth 20000 in
theorem gL_law_X5_newShore : GoodIn wsL_law (wsV RL 108 RX5 yX5_newShore wsX5_newShore) := goodIn_app (goodIn_of _ (by decide +kernel)) ggL_law_X5_newShore
set_option maxRecDepth 20000 in
theorem ggL_law_X4_which : GoodIn wsL_law wsX4_which := goodIn_r _ [705, 16, 15, 30, 706, 383, 171, 2, 172, 384, 176, 177, 96, 97, 98, 99, 100, 101, 102, 31, 707, 14, 708, 709, 491, 137, 138, 139, 37, 36, 140, 19, 141, 142, 43, 143, 144, 145, 146, 44, 45, 46, 47, 147, 148, 48, 49, 50, 149, 710, 711, 712, 713, 200, 201, 202, 203, 204, 205, 206, 207, 208, 209, 210, 211, 212, 213, 214, 215, 216, 217, 218, 219, 220, 221, 222, 223, 224, 225, 226, 227, 228, 229, 230, 231, 232, 233, 234, 235, 236, 237, 238, 239, 240, 241, 242, 243, 244, 245, 246, 247, 248, 249, 250, 251, 252, 253, 254, 255, 256, 164, 165, 166, 167, 997, 998, 999, 1000, 1001, 1002, 1003, 1004, 1005, 1043, 1044, 1045, 1046, 1047, 1048, 1049, 1050, 1051, 1052, 1053, 1039, 1040, 1041, 1042] (by decide +kernel) (by decide +kernel)
set_option maxRecDepth 20000 in
theorem gL_law_X4_which : GoodIn wsL_law (wsV RL 109 RX4 yX4_which wsX4_which) := goodIn_app (goodIn_of _ (by decide +kernel)) ggL_law_X4_which
set_option maxRecDepth 20000 in
theorem ggL_law_X5_which : GoodIn wsL_law wsX5_which := goodIn_r _ [717, 65, 66, 322, 323, 324, 5, 325, 292, 283, 284, 285, 115, 116, 117, 118, 64, 718, 719, 720, 721, 722, 723, 724, 725, 726, 79, 77, 499, 500, 501, 502, 286, 287, 288, 289, 290, 291, 67, 68, 69, 293, 80, 81, 294, 295, 296, 297, 298, 74, 299, 300, 301, 302, 338, 339, 340, 341, 342, 343, 344, 345, 346, 347, 348, 349, 350, 351, 352, 353, 354, 355, 356, 357, 358, 359, 360, 361, 362, 363, 364, 365, 366, 367, 368, 369, 370, 371, 372, 373, 374, 375, 376, 377, 378, 314, 315, 316, 317, 503, 504, 505, 506, 727, 728, 729, 730, 1006, 1007, 1008, 1009, 1010, 1011, 1012, 1013, 1014, 1015, 1016, 1017, 1018, 1019, 1020, 1021, 1022, 1023, 1024, 1025, 1026, 1027, 1028, 1029, 1030, 1031, 1032, 1033, 1034, 1035, 1036, 1037, 1038] (by decide +kernel) (by decide +kernel)
set_option maxRecDepth 20000 in
theorem gL_law_X5_which : GoodIn wsL_law (wsV RL 112 RX5 yX5_which wsX5_which) := goodIn_app (goodIn_of _ (by decide +kernel)) ggL_law_X5_which
set_option maxRecDepth 20000 in
theorem ggL_law_X4_treaty : GoodIn wsL_law wsX4_treaty := goodIn_r _ [734, 16, 15, 383, 171, 2, 172, 96, 97, 98, 384, 176, 177, 99, 100, 101, 102, 31, 735, 14, 736, 737, 38, 39, 738, 739, 740, 741, 491, 137, 138, 139, 37, 36, 140, 19, 141, 142, 43, 143, 144, 145, 146, 44, 45, 46, 47, 147, 148, 48, 49, 50, 149, 742, 743, 744, 570, 571, 572, 573, 200, 201, 202, 203, 204, 205, 206, 207, 208, 209, 210, 211, 212, 213, 214, 215, 216, 217, 218, 219, 220, 221, 222, 223, 224, 225, 226, 227, 228, 229, 230, 231, 232, 233, 234, 235, 236, 237, 238, 239, 240, 241, 242, 243, 244, 245, 246, 247, 248, 249, 250, 251, 252, 253, 254, 255, 256, 164, 165, 166, 167, 745, 746, 747, 748, 749, 750, 751, 997, 998, 999, 1000, 1001, 1002, 1003, 1004, 1005, 1043, 1044, 1045, 1046, 1047, 1048, 1049, 1050, 1051, 1052, 1053, 1039, 1040, 1041, 1042] (by decide +kernel) (by decide +kernel)
set_option maxRecDepth 20000 in
theorem gL_law_X4_treaty : GoodIn wsL_law (wsV RL 113 RX4 yX4_treaty wsX4_treaty) := goodIn_app (goodIn_of _ (by decide +kernel)) ggL_law_X4_treaty
set_option maxRecDepth 20000 in
theorem ggL_law_X5_treaty : GoodIn wsL_law wsX5_treaty := goodIn_r _ [755, 78, 322, 323, 324, 5, 325, 292, 283, 284, 285, 115, 116, 117, 118, 64, 756, 757, 758, 759, 293, 75, 760, 761, 762, 534, 535, 536, 537, 76, 538, 539, 540, 79, 499, 500, 501, 502, 286, 287, 288, 289, 290, 291, 65, 66, 67, 68, 69, 80, 81, 294, 295, 296, 297, 298, 74, 299, 300, 301, 302, 375, 376, 377, 378, 314, 315, 316, 317, 338, 339, 340, 341, 342, 343, 344, 345, 346, 347, 348, 349, 350, 351, 352, 353, 354, 355, 356, 357, 358, 359, 360, 361, 362, 363, 364, 365, 366, 367, 368, 369, 370, 371, 372, 373, 374, 503, 504, 505, 506, 1006, 1007, 1008, 1009, 1010, 1011, 1012, 1013, 1014, 1015, 1016, 1017, 1018, 1019, 1020, 1021, 1022, 1023, 1024, 1025, 1026, 1027, 1028, 1029, 1030, 1031, 1032, 1033, 1034, 1035, 1036, 1037, 1038] (by decide +kernel) (by decide +kernel)
set_option maxRecDepth 20000 in
theorem gL_law_X5_treaty : GoodIn wsL_law (wsV RL 116 RX5 yX5_treaty wsX5_treaty) := goodIn_app (goodIn_of _ (by decide +kernel)) ggL_law_X5_treaty
set_option maxRecDepth 20000 in
theorem ggL_law_X4_thunder : GoodIn wsL_law wsX4_thunder := goodIn_r _ [766, 16, 767, 15, 768, 769, 2, 770, 96, 97, 98, 89, 90, 91, 383, 171, 172, 384, 176, 177, 99, 100, 101, 102, 31, 771, 14, 772, 773, 491, 137, 138, 139, 37, 36, 140, 19, 141, 142, 43, 143, 144, 145, 146, 44, 45, 46, 47, 147, 148, 48, 49, 50, 149, 200, 201, 202, 203, 204, 205, 206, 207, 208, 209, 210, 211, 212, 213, 214, 215, 216, 217, 218, 219, 220, 221, 222, 223, 224, 225, 226, 227, 228, 229, 230, 231, 232, 233, 234, 235, 236, 237, 238, 239, 240, 241, 242, 243, 244, 245, 246, 247, 248, 249, 250, 251, 252, 253, 254, 255, 256, 164, 165, 166, 167, 774, 775, 776, 777, 778, 779, 780, 997, 998, 999, 1000, 1001, 1002, 1003, 1004, 1005, 1043, 1044, 1045, 1046, 1047, 1048, 1049, 1050, 1051, 1052, 1053, 1039, 1040, 1041, 1042] (by decide +kernel) (by decide +kernel)
set_option maxRecDepth 20000 in
theorem gL_law_X4_thunder : GoodIn wsL_law (wsV RL 117 RX4 yX4_thunder wsX4_thunder) := goodIn_app (goodIn_of _ (by decide +kernel)) ggL_law_X4_thunder
set_option maxRecDepth 20000 in
theorem ggL_law_X5_thunder : GoodIn wsL_law wsX5_thunder := goodIn_r _ [784, 322, 323, 324, 5, 325, 292, 283, 284, 285, 785, 786, 787, 788, 64, 789, 499, 500, 501, 502, 286, 287, 288, 289, 290, 291, 65, 66, 67, 68, 69, 293, 79, 80, 81, 294, 295, 296, 297, 298, 74, 299, 300, 301, 302, 350, 351, 352, 338, 339, 340, 341, 342, 343, 344, 345, 346, 347, 348, 349, 353, 354, 355, 356, 357, 358, 359, 360, 361, 362, 363, 364, 365, 366, 367, 368, 369, 370, 371, 372, 373, 374, 375, 376, 377, 378, 314, 315, 316, 317, 503, 504, 505, 506, 790, 791, 792, 793, 794, 795, 1006, 1007, 1008, 1009, 1010, 1011, 1012, 1013, 1014, 1015, 1016, 1017, 1018, 1019, 1020, 1021, 1022, 1023, 1024, 1025, 1026, 1027, 1028, 1029, 1030, 1031, 1032, 1033, 1034, 1035, 1036, 1037, 1038] (by decide +kernel) (by decide +kernel)
set_option maxRecDepth 20000 in
theorem gL_law_X5_thunder : GoodIn wsL_law (wsV RL 121 RX5 yX5_thunder wsX5_thunder) := goodIn_app (goodIn_of _ (by decide +kernel)) ggL_law_X5_thunder
set_option maxRecDepth 20000 in
theorem ggL_law_X4_nearest : GoodIn wsL_law wsX4_nearest := goodIn_r _ [799, 16, 384, 176, 2, 177, 99, 100, 101, 102, 31, 800, 19, 801, 802, 148, 231, 232, 233, 234, 45, 48, 235, 236, 205, 237, 997, 998, 999, 1000, 1001, 1002, 1003, 1004, 1005, 1043, 1044, 1045, 1046, 1047, 1048, 1049, 1050, 1051, 1052, 1053] (by decide +kernel) (by decide +kernel)
set_option maxRecDepth 20000 in
theorem gL_law_X4_nearest : GoodIn wsL_law (wsV RL 122 RX4 yX4_nearest wsX4_nearest) := goodIn_app (goodIn_of _ (by decide +kernel)) ggL_law_X4_nearest
set_option maxRecDepth 20000 in
theorem ggL_law_X5_nearest : GoodIn wsL_law wsX5_nearest := goodIn_r _ [806, 292, 67, 79, 283, 284, 5, 285, 115, 116, 117, 118, 64, 365, 366, 367, 1006, 1007, 1008, 1009, 1010, 1011, 1012, 1013, 1014, 1015, 1016, 1017, 1018, 1019, 1020, 1021, 1022, 1023, 1024, 1025, 1026, 1027, 1028, 1029, 1030, 1031, 1032, 1033, 1034, 1035, 1036, 1037, 1038] (by decide +kernel) (by decide +kernel)
set_option maxRecDepth 20000 in
theorem gL_law_X5_nearest : GoodIn wsL_law (wsV RL 125 RX5 yX5_nearest wsX5_nearest) := goodIn_app (goodIn_of _ (by decide +kernel)) ggL_law_X5_nearest
set_option maxRecDepth 20000 in
theorem ggL_law_X4_shared : GoodIn wsL_law wsX4_shared := goodIn_r _ [810, 16, 811, 247, 205, 248, 812, 19, 813, 814, 148, 47, 815, 816, 817, 99, 100, 101, 2, 102, 31, 997, 998, 999, 1000, 1001, 1002, 1003, 1004, 1005, 1043, 1044, 1045, 1046, 1047, 1048, 1049, 1050, 1051, 1052, 1053] (by decide +kernel) (by decide +kernel)
set_option maxRecDepth 20000 in
theorem gL_law_X4_shared : GoodIn wsL_law (wsV RL 126 RX4 yX4_shared wsX4_shared) := goodIn_app (goodIn_of _ (by decide +kernel)) ggL_law_X4_shared
set_option maxRecDepth 20000 in
theorem ggL_law_X5_shared : GoodIn wsL_law wsX5_shared := goodIn_r _ [821, 292, 283, 284, 5, 285, 115, 116, 117, 118, 64, 822, 823, 824, 825, 69, 826, 827, 828, 829, 1006, 1007, 1008, 1009, 1010, 1011, 1012, 1013, 1014, 1015, 1016, 1017, 1018, 1019, 1020, 1021, 1022, 1023, 1024, 1025, 1026, 1027, 1028, 1029, 1030, 1031, 1032, 1033, 1034, 1035, 1036, 1037, 1038] (by decide +kernel) (by decide +kernel)
set_option maxRecDepth 20000 in
theorem gL_law_X5_shared : GoodIn wsL_law (wsV RL 129 RX5 yX5_shared wsX5_shared) := goodIn_app (goodIn_of _ (by decide +kernel)) ggL_law_X5_shared
set_option maxRecDepth 20000 in
theorem ggL_law_X4_loudHour : GoodIn wsL_law wsX4_loudHour := goodIn_r _ [833, 16, 834, 19, 835, 836, 837, 470, 471, 472, 148, 211, 212, 213, 214, 46, 215, 216, 217, 218, 147, 219, 220, 221, 222, 45, 48, 223, 224, 225, 226, 43, 44, 227, 228, 229, 230, 838, 839, 840, 99, 100, 101, 2, 102, 31, 997, 998, 999, 1000, 1001, 1002, 1003, 1004, 1005, 1043, 1044, 1045, 1046, 1047, 1048, 1049, 1050, 1051, 1052, 1053] (by decide +kernel) (by decide +kernel)
set_option maxRecDepth 20000 in
theorem gL_law_X4_loudHour : GoodIn wsL_law (wsV RL 130 RX4 yX4_loudHour wsX4_loudHour) := goodIn_app (goodIn_of _ (by decide +kernel)) ggL_law_X4_loudHour
set_option maxRecDepth 20000 in
theorem ggL_law_X5_loudHour : GoodIn wsL_law wsX5_loudHour := goodIn_r _ [844, 283, 284, 5, 285, 115, 116, 117, 118, 64, 477, 478, 479, 480, 292, 346, 347, 348, 349, 293, 68, 67, 79, 350, 351, 352, 353, 354, 355, 356, 65, 66, 357, 358, 359, 360, 1006, 1007, 1008, 1009, 1010, 1011, 1012, 1013, 1014, 1015, 1016, 1017, 1018, 1019, 1020, 1021, 1022, 1023, 1024, 1025, 1026, 1027, 1028, 1029, 1030, 1031, 1032, 1033, 1034, 1035, 1036, 1037, 1038] (by decide +kernel) (by decide +kernel)
set_option maxRecDepth 20000 in
theorem gL_law_X5_loudHour : GoodIn wsL_law (wsV RL 133 RX5 yX5_loudHour wsX5_loudHour) := goodIn_app (goodIn_of _ (by decide +kernel)) ggL_law_X5_loudHour
set_option maxRecDepth 20000 in
theorem ggL_law_X4_mean : GoodIn wsL_law wsX4_mean := goodIn_r _ [848, 767, 16, 811, 247, 205, 248, 384, 176, 2, 177, 99, 100, 101, 102, 31, 849, 19, 850, 851, 148, 45, 774, 775, 776, 777, 778, 779, 780, 997, 998, 999, 1000, 1001, 1002, 1003, 1004, 1005, 1043, 1044, 1045, 1046, 1047, 1048, 1049, 1050, 1051, 1052, 1053] (by decide +kernel) (by decide +kernel)
set_option maxRecDepth 20000 in
theorem gL_law_X4_mean : GoodIn wsL_law (wsV RL 134 RX4 yX4_mean wsX4_mean) := goodIn_app (goodIn_of _ (by decide +kernel)) ggL_law_X4_mean
set_option maxRecDepth 20000 in
theorem ggL_law_X5_mean : GoodIn wsL_law wsX5_mean := goodIn_r _ [855, 292, 67, 283, 284, 5, 285, 785, 786, 787, 788, 64, 789, 790, 791, 792, 793, 794, 795, 1006, 1007, 1008, 1009, 1010, 1011, 1012, 1013, 1014, 1015, 1016, 1017, 1018, 1019, 1020, 1021, 1022, 1023, 1024, 1025, 1026, 1027, 1028, 1029, 1030, 1031, 1032, 1033, 1034, 1035, 1036, 1037, 1038] (by decide +kernel) (by decide +kernel)
set_option maxRecDepth 20000 in
theorem gL_law_X5_mean : GoodIn wsL_law (wsV RL 138 RX5 yX5_mean wsX5_mean) := goodIn_app (goodIn_of _ (by decide +kernel)) ggL_law_X5_mean
set_option maxRecDepth 20000 in
theorem ggL_law_X4_gap : GoodIn wsL_law wsX4_gap := goodIn_r _ [859, 16, 384, 176, 2, 177, 99, 100, 101, 102, 31, 860, 19, 861, 862, 863, 864, 865, 866, 164, 165, 166, 167, 148, 45, 997, 998, 999, 1000, 1001, 1002, 1003, 1004, 1005, 1043, 1044, 1045, 1046, 1047, 1048, 1049, 1050, 1051, 1052, 1053] (by decide +kernel) (by decide +kernel)
set_option maxRecDepth 20000 in
theorem gL_law_X4_gap : GoodIn wsL_law (wsV RL 139 RX4 yX4_gap wsX4_gap) := goodIn_app (goodIn_of _ (by decide +kernel)) ggL_law_X4_gap
set_option maxRecDepth 20000 in
theorem ggL_law_X5_gap : GoodIn wsL_law wsX5_gap := goodIn_r _ [870, 283, 284, 5, 285, 115, 116, 117, 118, 64, 314, 315, 316, 317, 292, 67, 1006, 1007, 1008, 1009, 1010, 1011, 1012, 1013, 1014, 1015, 1016, 1017, 1018, 1019, 1020, 1021, 1022, 1023, 1024, 1025, 1026, 1027, 1028, 1029, 1030, 1031, 1032, 1033, 1034, 1035, 1036, 1037, 1038] (by decide +kernel) (by decide +kernel)
set_option maxRecDepth 20000 in
theorem gL_law_X5_gap : GoodIn wsL_law (wsV RL 142 RX5 yX5_gap wsX5_gap) := goodIn_app (goodIn_of _ (by decide +kernel)) ggL_law_X5_gap
set_option maxRecDepth 20000 in
theorem ggL_law_X4_spent : GoodIn wsL_law wsX4_spent := goodIn_r _ [874, 16, 15, 86, 87, 2, 88, 89, 90, 91, 99, 100, 101, 102, 31, 875, 19, 876, 877, 148, 46, 488, 14, 489, 490, 491, 137, 138, 139, 37, 36, 140, 141, 142, 43, 143, 144, 145, 146, 44, 45, 47, 147, 48, 49, 50, 149, 196, 197, 198, 199, 200, 201, 202, 203, 204, 205, 206, 207, 208, 209, 210, 211, 212, 213, 214, 215, 216, 217, 218, 219, 220, 221, 222, 223, 224, 225, 226, 227, 228, 229, 230, 231, 232, 233, 234, 235, 236, 237, 238, 239, 240, 241, 242, 243, 244, 245, 246, 247, 248, 249, 250, 251, 252, 253, 254, 255, 256, 164, 165, 166, 167, 997, 998, 999, 1000, 1001, 1002, 1003, 1004, 1005, 1043, 1044, 1045, 1046, 1047, 1048, 1049, 1050, 1051, 1052, 1053, 1039, 1040, 1041, 1042] (by decide +kernel) (by decide +kernel)
set_option maxRecDepth 20000 in
theorem gL_law_X4_spent : GoodIn wsL_law (wsV RL 143 RX4 yX4_spent wsX4_spent) := goodIn_app (goodIn_of _ (by decide +kernel)) ggL_law_X4_spent
set_option maxRecDepth 20000 in
theorem ggL_law_X5_spent : GoodIn wsL_law wsX5_spent := goodIn_r _ [881, 496, 497, 5, 498, 112, 113, 114, 115, 116, 117, 118, 64, 882, 883, 884, 885, 292, 68, 499, 500, 501, 502, 286, 287, 288, 289, 290, 291, 65, 66, 67, 69, 293, 79, 80, 81, 294, 295, 296, 297, 298, 74, 299, 300, 301, 302, 334, 335, 336, 337, 338, 339, 340, 341, 342, 343, 344, 345, 346, 347, 348, 349, 350, 351, 352, 353, 354, 355, 356, 357, 358, 359, 360, 283, 284, 285, 361, 362, 363, 364, 365, 366, 367, 368, 369, 370, 371, 372, 373, 374, 375, 376, 377, 378, 314, 315, 316, 317, 503, 504, 505, 506, 1006, 1007, 1008, 1009, 1010, 1011, 1012, 1013, 1014, 1015, 1016, 1017, 1018, 1019, 1020, 1021, 1022, 1023, 1024, 1025, 1026, 1027, 1028, 1029, 1030, 1031, 1032, 1033, 1034, 1035, 1036, 1037, 1038] (by decide +kernel) (by decide +kernel)
set_option maxRecDepth 20000 in
theorem gL_law_X5_spent : GoodIn wsL_law (wsV RL 146 RX5 yX5_spent wsX5_spent) := goodIn_app (goodIn_of _ (by decide +kernel)) ggL_law_X5_spent
set_option maxRecDepth 20000 in
theorem ggL_law_X4_swap : GoodIn wsL_law wsX4_swap := goodIn_r _ [889, 15, 515, 516, 517, 2, 518, 16, 383, 171, 172, 86, 87, 88, 89, 90, 91, 96, 97, 98, 99, 100, 101, 102, 31, 890, 14, 891, 892, 36, 566, 567, 568, 569, 491, 137, 138, 139, 37, 140, 19, 141, 142, 43, 143, 144, 145, 146, 44, 45, 46, 47, 147, 148, 48, 49, 50, 149, 570, 571, 572, 573, 200, 201, 202, 203, 204, 205, 206, 207, 208, 209, 210, 211, 212, 213, 214, 215, 216, 217, 218, 219, 220, 221, 222, 223, 224, 225, 226, 227, 228, 229, 230, 231, 232, 233, 234, 235, 236, 237, 238, 239, 240, 241, 242, 243, 244, 245, 246, 247, 248, 249, 250, 251, 252, 253, 254, 255, 256, 164, 165, 166, 167, 997, 998, 999, 1000, 1001, 1002, 1003, 1004, 1005, 1043, 1044, 1045, 1046, 1047, 1048, 1049, 1050, 1051, 1052, 1053, 1039, 1040, 1041, 1042] (by decide +kernel) (by decide +kernel)
set_option maxRecDepth 20000 in
theorem gL_law_X4_swap : GoodIn wsL_law (wsV RL 147 RX4 yX4_swap wsX4_swap) := goodIn_app (goodIn_of _ (by decide +kernel)) ggL_law_X4_swap
set_option maxRecDepth 20000 in
theorem ggL_law_X5_swap : GoodIn wsL_law wsX5_swap := goodIn_r _ [896, 292, 322, 323, 324, 5, 325, 496, 497, 498, 112, 113, 114, 115, 116, 117, 118, 64, 609, 610, 611, 612, 75, 534, 535, 536, 537, 76, 538, 539, 540, 79, 499, 500, 501, 502, 286, 287, 288, 289, 290, 291, 65, 66, 67, 68, 69, 293, 80, 81, 294, 295, 296, 297, 298, 74, 299, 300, 301, 302, 375, 376, 377, 378, 314, 315, 316, 317, 338, 339, 340, 341, 342, 343, 344, 345, 346, 347, 348, 349, 350, 351, 352, 353, 354, 355, 356, 357, 358, 359, 360, 283, 284, 285, 361, 362, 363, 364, 365, 366, 367, 368, 369, 370, 371, 372, 373, 374, 503, 504, 505, 506, 897, 898, 899, 900, 1006, 1007, 1008, 1009, 1010, 1011, 1012, 1013, 1014, 1015, 1016, 1017, 1018, 1019, 1020, 1021, 1022, 1023, 1024, 1025, 1026, 1027, 1028, 1029, 1030, 1031, 1032, 1033, 1034, 1035, 1036, 1037, 1038] (by decide +kernel) (by decide +kernel)
set_option maxRecDepth 20000 in
theorem gL_law_X5_swap : GoodIn wsL_law (wsV RL 150 RX5 yX5_swap wsX5_swap) := goodIn_app (goodIn_of _ (by decide +kernel)) ggL_law_X5_swap
set_option maxRecDepth 20000 in
theorem ggL_law_X4_ring : GoodIn wsL_law wsX4_ring := goodIn_r _ [904, 15, 86, 87, 2, 88, 89, 90, 91, 99, 100, 101, 102, 31, 905, 14, 906, 907, 908, 488, 489, 490, 491, 137, 138, 139, 37, 36, 140, 19, 141, 142, 43, 143, 144, 145, 146, 44, 45, 46, 47, 147, 148, 48, 49, 50, 149, 196, 197, 198, 199, 200, 201, 202, 203, 204, 205, 206, 207, 208, 209, 210, 211, 212, 213, 214, 215, 216, 217, 218, 219, 220, 221, 222, 223, 224, 225, 226, 227, 228, 229, 230, 231, 232, 233, 234, 235, 236, 237, 238, 239, 240, 241, 242, 243, 244, 245, 246, 247, 248, 249, 250, 251, 252, 253, 254, 255, 256, 164, 165, 166, 167, 997, 998, 999, 1000, 1001, 1002, 1003, 1004, 1005, 1043, 1044, 1045, 1046, 1047, 1048, 1049, 1050, 1051, 1052, 1053, 1039, 1040, 1041, 1042] (by decide +kernel) (by decide +kernel)
set_option maxRecDepth 20000 in
theorem gL_law_X4_ring : GoodIn wsL_law (wsV RL 151 RX4 yX4_ring wsX4_ring) := goodIn_app (goodIn_of _ (by decide +kernel)) ggL_law_X4_ring
set_option maxRecDepth 20000 in
theorem ggL_law_X5_ring : GoodIn wsL_law wsX5_ring := goodIn_r _ [912, 79, 496, 497, 5, 498, 112, 113, 114, 115, 116, 117, 118, 64, 499, 500, 501, 502, 286, 287, 288, 289, 290, 291, 65, 66, 67, 68, 69, 292, 293, 80, 81, 294, 295, 296, 297, 298, 74, 299, 300, 301, 302, 334, 335, 336, 337, 338, 339, 340, 341, 342, 343, 344, 345, 346, 347, 348, 349, 350, 351, 352, 353, 354, 355, 356, 357, 358, 359, 360, 283, 284, 285, 361, 362, 363, 364, 365, 366, 367, 368, 369, 370, 371, 372, 373, 374, 375, 376, 377, 378, 314, 315, 316, 317, 503, 504, 505, 506, 1006, 1007, 1008, 1009, 1010, 1011, 1012, 1013, 1014, 1015, 1016, 1017, 1018, 1019, 1020, 1021, 1022, 1023, 1024, 1025, 1026, 1027, 1028, 1029, 1030, 1031, 1032, 1033, 1034, 1035, 1036, 1037, 1038] (by decide +kernel) (by decide +kernel)
set_option maxRecDepth 20000 in
theorem gL_law_X5_ring : GoodIn wsL_law (wsV RL 154 RX5 yX5_ring wsX5_ring) := goodIn_app (goodIn_of _ (by decide +kernel)) ggL_law_X5_ring
set_option maxRecDepth 20000 in
theorem ggL_law_X4_row : GoodIn wsL_law wsX4_row := goodIn_r _ [916, 706, 30, 86, 87, 2, 88, 89, 90, 91, 96, 97, 98, 99, 100, 101, 102, 31, 997, 998, 999, 1000, 1001, 1002, 1003, 1004, 1005] (by decide +kernel) (by decide +kernel)
set_option maxRecDepth 20000 in
theorem gL_law_X4_row : GoodIn wsL_law (wsV RL 155 RX4 yX4_row wsX4_row) := goodIn_app (goodIn_of _ (by decide +kernel)) ggL_law_X4_row
set_option maxRecDepth 20000 in
theorem ggL_law_X5_row : GoodIn wsL_law wsX5_row := goodIn_r _ [920, 726, 77, 112, 113, 5, 114, 115, 116, 117, 118, 64, 1006, 1007, 1008, 1009, 1010, 1011, 1012, 1013, 1014, 1015, 1016, 1017, 1018, 1019, 1020, 1021, 1022, 1023, 1024, 1025, 1026, 1027, 1028, 1029, 1030, 1031, 1032, 1033, 1034, 1035, 1036, 1037, 1038] (by decide +kernel) (by decide +kernel)
set_option maxRecDepth 20000 in
theorem gL_law_X5_row : GoodIn wsL_law (wsV RL 158 RX5 yX5_row wsX5_row) := goodIn_app (goodIn_of _ (by decide +kernel)) ggL_law_X5_row
set_option maxRecDepth 20000 in
theorem ggL_law_X4_judge : GoodIn wsL_law wsX4_judge := goodIn_r _ [924, 15, 30, 706, 925, 14, 926, 927, 491, 137, 138, 139, 37, 36, 140, 19, 141, 142, 43, 143, 144, 145, 146, 44, 45, 46, 47, 147, 148, 48, 49, 50, 149, 208, 209, 210, 211, 212, 213, 214, 215, 216, 217, 218, 219, 220, 221, 222, 223, 224, 225, 226, 227, 228, 229, 230, 231, 232, 233, 234, 235, 236, 205, 237, 200, 201, 202, 203, 204, 206, 207, 238, 239, 240, 241, 242, 243, 244, 245, 246, 247, 248, 249, 250, 251, 252, 253, 254, 255, 256, 164, 165, 166, 167, 997, 998, 999, 1000, 1001, 1002, 1003, 1004, 1005, 1043, 1044, 1045, 1046, 1047, 1048, 1049, 1050, 1051, 1052, 1053, 1039, 1040, 1041, 1042] (by decide +kernel) (by decide +kernel)
set_option maxRecDepth 20000 in
theorem gL_law_X4_judge : GoodIn wsL_law (wsV RL 159 RX4 yX4_judge wsX4_judge) := goodIn_app (goodIn_of _ (by decide +kernel)) ggL_law_X4_judge
set_option maxRecDepth 20000 in
theorem ggL_law_X5_judge : GoodIn wsL_law wsX5_judge := goodIn_r _ [931, 726, 81, 77, 499, 500, 501, 5, 502, 286, 287, 288, 289, 290, 291, 65, 66, 67, 68, 69, 292, 293, 79, 80, 294, 295, 296, 297, 298, 74, 299, 300, 301, 302, 342, 343, 344, 345, 346, 347, 348, 349, 350, 351, 352, 353, 354, 355, 356, 357, 358, 359, 360, 283, 284, 285, 361, 362, 363, 364, 365, 366, 367, 338, 339, 340, 341, 368, 369, 370, 371, 372, 373, 374, 375, 376, 377, 378, 314, 315, 316, 317, 503, 504, 505, 506, 1006, 1007, 1008, 1009, 1010, 1011, 1012, 1013, 1014, 1015, 1016, 1017, 1018, 1019, 1020, 1021, 1022, 1023, 1024, 1025, 1026, 1027, 1028, 1029, 1030, 1031, 1032, 1033, 1034, 1035, 1036, 1037, 1038] (by decide +kernel) (by decide +kernel)
set_option maxRecDepth 20000 in
theorem gL_law_X5_judge : GoodIn wsL_law (wsV RL 162 RX5 yX5_judge wsX5_judge) := goodIn_app (goodIn_of _ (by decide +kernel)) ggL_law_X5_judge
set_option maxRecDepth 20000 in
theorem ggL_law_X4_clear : GoodIn wsL_law wsX4_clear := goodIn_r _ [935, 706, 997, 998, 999, 1000, 1001, 1002, 1003, 1004, 1005] (by decide +kernel) (by decide +kernel)
set_option maxRecDepth 20000 in
theorem gL_law_X4_clear : GoodIn wsL_law (wsV RL 163 RX4 yX4_clear wsX4_clear) := goodIn_app (goodIn_of _ (by decide +kernel)) ggL_law_X4_clear
set_option maxRecDepth 20000 in
theorem ggL_law_X5_clear : GoodIn wsL_law wsX5_clear := goodIn_r _ [939, 726, 1006, 1007, 1008, 1009, 1010, 1011, 1012, 1013, 1014, 1015, 1016, 1017, 1018, 1019, 1020, 1021, 1022, 1023, 1024, 1025, 1026, 1027, 1028, 1029, 1030, 1031, 1032, 1033, 1034, 1035, 1036, 1037, 1038] (by decide +kernel) (by decide +kernel)
set_option maxRecDepth 20000 in
theorem gL_law_X5_clear : GoodIn wsL_law (wsV RL 166 RX5 yX5_clear wsX5_clear) := goodIn_app (goodIn_of _ (by decide +kernel)) ggL_law_X5_clear
set_option maxRecDepth 20000 in
theorem ggL_law_X4_lots : GoodIn wsL_law wsX4_lots := goodIn_r _ [943, 15, 86, 87, 2, 88, 89, 90, 91, 384, 176, 177, 96, 97, 98, 99, 100, 101, 102, 31, 944, 14, 945, 946, 37, 36, 947, 948, 949, 950, 491, 137, 138, 139, 140, 19, 141, 142, 43, 143, 144, 145, 146, 44, 45, 46, 47, 147, 148, 48, 49, 50, 149, 951, 952, 953, 954, 955, 956, 957, 958, 742, 743, 744, 196, 197, 198, 199, 200, 201, 202, 203, 204, 205, 206, 207, 208, 209, 210, 211, 212, 213, 214, 215, 216, 217, 218, 219, 220, 221, 222, 223, 224, 225, 226, 227, 228, 229, 230, 231, 232, 233, 234, 235, 236, 237, 238, 239, 240, 241, 242, 243, 244, 245, 246, 247, 248, 249, 250, 251, 252, 253, 254, 255, 256, 164, 165, 166, 167, 812, 813, 814, 997, 998, 999, 1000, 1001, 1002, 1003, 1004, 1005, 1039, 1040, 1041, 1042, 1043, 1044, 1045, 1046, 1047, 1048, 1049, 1050, 1051, 1052, 1053] (by decide +kernel) (by decide +kernel)
set_option maxRecDepth 20000 in
theorem gL_law_X4_lots : GoodIn wsL_law (wsV RL 167 RX4 yX4_lots wsX4_lots) := goodIn_app (goodIn_of _ (by decide +kernel)) ggL_law_X4_lots
set_option maxRecDepth 20000 in
theorem ggL_law_X5_lots : GoodIn wsL_law wsX5_lots := goodIn_r _ [962, 963, 79, 292, 293, 112, 113, 5, 114, 283, 284, 285, 115, 116, 117, 118, 64, 826, 827, 828, 829, 69, 499, 500, 501, 502, 286, 287, 288, 289, 290, 291, 65, 66, 67, 68, 80, 81, 294, 295, 296, 297, 298, 74, 299, 300, 301, 302, 964, 965, 966, 967, 968, 969, 970, 760, 761, 762, 334, 335, 336, 337, 338, 339, 340, 341, 342, 343, 344, 345, 346, 347, 348, 349, 350, 351, 352, 353, 354, 355, 356, 357, 358, 359, 360, 361, 362, 363, 364, 365, 366, 367, 368, 369, 370, 371, 372, 373, 374, 375, 376, 377, 378, 314, 315, 316, 317, 503, 504, 505, 506, 1006, 1007, 1008, 1009, 1010, 1011, 1012, 1013, 1014, 1015, 1016, 1017, 1018, 1019, 1020, 1021, 1022, 1023, 1024, 1025, 1026, 1027, 1028, 1029, 1030, 1031, 1032, 1033, 1034, 1035, 1036, 1037, 1038] (by decide +kernel) (by decide +kernel)
set_option maxRecDepth 20000 in
theorem gL_law_X5_lots : GoodIn wsL_law (wsV RL 170 RX5 yX5_lots wsX5_lots) := goodIn_app (goodIn_of _ (by decide +kernel)) ggL_law_X5_lots
set_option maxRecDepth 20000 in
theorem ggL_law_X4_image : GoodIn wsL_law wsX4_image := goodIn_r _ [974, 20, 16, 975, 140, 19, 141, 142, 43, 143, 144, 145, 146, 44, 45, 46, 47, 147, 148, 48, 49, 50, 149, 997, 998, 999, 1000, 1001, 1002, 1003, 1004, 1005, 1043, 1044, 1045, 1046, 1047, 1048, 1049, 1050, 1051, 1052, 1053] (by decide +kernel) (by decide +kernel)
set_option maxRecDepth 20000 in
theorem gL_law_X4_image : GoodIn wsL_law (wsV RL 171 RX4 yX4_image wsX4_image) := goodIn_app (goodIn_of _ (by decide +kernel)) ggL_law_X4_image
set_option maxRecDepth 20000 in
theorem ggL_law_X5_image : GoodIn wsL_law wsX5_image := goodIn_r _ [979, 980, 294, 286, 287, 288, 5, 289, 290, 291, 65, 66, 67, 68, 69, 292, 293, 79, 80, 81, 295, 296, 297, 298, 74, 299, 300, 301, 302, 1006, 1007, 1008, 1009, 1010, 1011, 1012, 1013, 1014, 1015, 1016, 1017, 1018, 1019, 1020, 1021, 1022, 1023, 1024, 1025, 1026, 1027, 1028, 1029, 1030, 1031, 1032, 1033, 1034, 1035, 1036, 1037, 1038] (by decide +kernel) (by decide +kernel)
set_option maxRecDepth 20000 in
theorem gL_law_X5_image : GoodIn wsL_law (wsV RL 174 RX5 yX5_image wsX5_image) := goodIn_app (goodIn_of _ (by decide +kernel)) ggL_law_X5_image
set_option maxRecDepth 20000 in
theorem ggL_law_X4_restore : GoodIn wsL_law wsX4_restore := goodIn_r _ [984, 975, 16, 20, 24, 99, 100, 101, 2, 102, 31, 140, 19, 141, 142, 43, 143, 144, 145, 146, 44, 45, 46, 47, 147, 148, 48, 49, 50, 149, 997, 998, 999, 1000, 1001, 1002, 1003, 1004, 1005, 1054, 1055, 1056, 1043, 1044, 1045, 1046, 1047, 1048, 1049, 1050, 1051, 1052, 1053] (by decide +kernel) (by decide +kernel)
set_option maxRecDepth 20000 in
theorem gL_law_X4_restore : GoodIn wsL_law (wsV RL 175 RX4 yX4_restore wsX4_restore) := goodIn_app (goodIn_of _ (by decide +kernel)) ggL_law_X4_restore
set_option maxRecDepth 20000 in
theorem ggL_law_X5_restore : GoodIn wsL_law wsX5_restore := goodIn_r _ [988, 980, 266, 294, 115, 116, 117, 5, 118, 64, 286, 287, 288, 289, 290, 291, 65, 66, 67, 68, 69, 292, 293, 79, 80, 81, 295, 296, 297, 298, 74, 299, 300, 301, 302, 1006, 1007, 1008, 1009, 1010, 1011, 1012, 1013, 1014, 1015, 1016, 1017, 1018, 1019, 1020, 1021, 1022, 1023, 1024, 1025, 1026, 1027, 1028, 1029, 1030, 1031, 1032, 1033, 1034, 1035, 1036, 1037, 1038] (by decide +kernel) (by decide +kernel)
set_option maxRecDepth 20000 in
theorem gL_law_X5_restore : GoodIn wsL_law (wsV RL 178 RX5 yX5_restore wsX5_restore) := goodIn_app (goodIn_of _ (by decide +kernel)) ggL_law_X5_restore
set_option maxRecDepth 20000 in
theorem ggL_law_X4_count : GoodIn wsL_law wsX4_count := goodIn_r _ [992, 16, 28, 706, 24, 31, 812, 19, 813, 814, 148, 47, 875, 876, 877, 46, 997, 998, 999, 1000, 1001, 1002, 1003, 1004, 1005, 1043, 1044, 1045, 1046, 1047, 1048, 1049, 1050, 1051, 1052, 1053, 1057, 1058, 1054, 1055, 1056] (by decide +kernel) (by decide +kernel)
set_option maxRecDepth 20000 in
theorem gL_law_X4_count : GoodIn wsL_law (wsV RL 179 RX4 yX4_count wsX4_count) := goodIn_app (goodIn_of _ (by decide +kernel)) ggL_law_X4_count
set_option maxRecDepth 20000 in
theorem ggL_law_X5_count : GoodIn wsL_law wsX5_count := goodIn_r _ [996, 64, 292, 81, 294, 293, 111, 726, 266, 283, 284, 5, 285, 826, 827, 828, 829, 69, 882, 883, 884, 885, 68, 1006, 1007, 1008, 1009, 1010, 1011, 1012, 1013, 1014, 1015, 1016, 1017, 1018, 1019, 1020, 1021, 1022, 1023, 1024, 1025, 1026, 1027, 1028, 1029, 1030, 1031, 1032, 1033, 1034, 1035, 1036, 1037, 1038] (by decide +kernel) (by decide +kernel)
set_option maxRecDepth 20000 in
theorem gL_law_X5_count : GoodIn wsL_law (wsV RL 182 RX5 yX5_count wsX5_count) := goodIn_app (goodIn_of _ (by decide +kernel)) ggL_law_X5_count
theorem dL_law_0 : decode cL_law 0 = .ok (.new 7, 3) := by decide +kernel
theorem dL_law_3 : decode cL_law 3 = .ok (.dup, 1) := by decide +kernel
theorem dL_law_4 : decode cL_law 4 = .ok (.invokespecial 9, 3) := by decide +kernel
theorem dL_law_7 : decode cL_law 7 = .ok (.astore_n 1, 1) := by decide +kernel
theorem dL_law_8 : decode cL_law 8 = .ok (.new 10, 3) := by decide +kernel
theorem dL_law_11 : decode cL_law 11 = .ok (.dup, 1) := by decide +kernel
theorem dL_law_12 : decode cL_law 12 = .ok (.invokespecial 12, 3) := by decide +kernel
theorem dL_law_15 : decode cL_law 15 = .ok (.astore_n 2, 1) := by decide +kernel
theorem dL_law_16 : decode cL_law 16 = .ok (.iconst 0, 1) := by decide +kernel
theorem dL_law_17 : decode cL_law 17 = .ok (.istore_n 3, 1) := by decide +kernel
theorem dL_law_18 : decode cL_law 18 = .ok (.iload_n 3, 1) := by decide +kernel
theorem dL_law_19 : decode cL_law 19 = .ok (.aload_n 0, 1) := by decide +kernel
theorem dL_law_20 : decode cL_law 20 = .ok (.arraylength, 1) := by decide +kernel
theorem dL_law_21 : decode cL_law 21 = .ok (.iconst 5, 1) := by decide +kernel
theorem dL_law_22 : decode cL_law 22 = .ok (.isub, 1) := by decide +kernel
theorem dL_law_23 : decode cL_law 23 = .ok (.if_icmp .gt 1370, 3) := by decide +kernel
theorem dL_law_26 : decode cL_law 26 = .ok (.aload_n 0, 1) := by decide +kernel
theorem dL_law_27 : decode cL_law 27 = .ok (.iload_n 3, 1) := by decide +kernel
theorem dL_law_28 : decode cL_law 28 = .ok (.iaload, 1) := by decide +kernel
theorem dL_law_29 : decode cL_law 29 = .ok (.bipush 63, 2) := by decide +kernel
theorem dL_law_31 : decode cL_law 31 = .ok (.iand, 1) := by decide +kernel
theorem dL_law_32 : decode cL_law 32 = .ok (.tableswitch 1355 0 40 #[180, 203, 216, 249, 272, 315, 348, 371, 404, 427, 440, 473, 506, 539, 582, 605, 628, 661, 694, 727, 760, 803, 846, 889, 922, 965, 1019, 1042, 1065, 1088, 1112, 1135, 1158, 1191, 1214, 1237, 1250, 1263, 1306, 1319, 1332], 180) := by decide +kernel
theorem dL_law_212 : decode cL_law 212 = .ok (.aload_n 1, 1) := by decide +kernel
theorem dL_law_213 : decode cL_law 213 = .ok (.aload_n 0, 1) := by decide +kernel
theorem dL_law_214 : decode cL_law 214 = .ok (.iload_n 3, 1) := by decide +kernel
theorem dL_law_215 : decode cL_law 215 = .ok (.iconst 1, 1) := by decide +kernel
theorem dL_law_216 : decode cL_law 216 = .ok (.iadd, 1) := by decide +kernel
theorem dL_law_217 : decode cL_law 217 = .ok (.iaload, 1) := by decide +kernel
theorem dL_law_218 : decode cL_law 218 = .ok (.invokevirtual 13, 3) := by decide +kernel
theorem dL_law_221 : decode cL_law 221 = .ok (.aload_n 2, 1) := by decide +kernel
theorem dL_law_222 : decode cL_law 222 = .ok (.aload_n 0, 1) := by decide +kernel
theorem dL_law_223 : decode cL_law 223 = .ok (.iload_n 3, 1) := by decide +kernel
theorem dL_law_224 : decode cL_law 224 = .ok (.iconst 1, 1) := by decide +kernel
theorem dL_law_225 : decode cL_law 225 = .ok (.iadd, 1) := by decide +kernel
theorem dL_law_226 : decode cL_law 226 = .ok (.iaload, 1) := by decide +kernel
theorem dL_law_227 : decode cL_law 227 = .ok (.invokevirtual 17, 3) := by decide +kernel
theorem dL_law_230 : decode cL_law 230 = .ok (.if_icmp .eq 1157, 3) := by decide +kernel
theorem dL_law_233 : decode cL_law 233 = .ok (.iconst 0, 1) := by decide +kernel
theorem dL_law_234 : decode cL_law 234 = .ok (.ireturn, 1) := by decide +kernel
theorem dL_law_235 : decode cL_law 235 = .ok (.aload_n 1, 1) := by decide +kernel
theorem dL_law_236 : decode cL_law 236 = .ok (.invokevirtual 18, 3) := by decide +kernel
theorem dL_law_239 : decode cL_law 239 = .ok (.aload_n 2, 1) := by decide +kernel
theorem dL_law_240 : decode cL_law 240 = .ok (.invokevirtual 22, 3) := by decide +kernel
theorem dL_law_243 : decode cL_law 243 = .ok (.if_icmp .eq 1144, 3) := by decide +kernel
theorem dL_law_246 : decode cL_law 246 = .ok (.iconst 0, 1) := by decide +kernel
theorem dL_law_247 : decode cL_law 247 = .ok (.ireturn, 1) := by decide +kernel
theorem dL_law_248 : decode cL_law 248 = .ok (.aload_n 1, 1) := by decide +kernel
theorem dL_law_249 : decode cL_law 249 = .ok (.aload_n 0, 1) := by decide +kernel
theorem dL_law_250 : decode cL_law 250 = .ok (.iload_n 3, 1) := by decide +kernel
theorem dL_law_251 : decode cL_law 251 = .ok (.iconst 1, 1) := by decide +kernel
theorem dL_law_252 : decode cL_law 252 = .ok (.iadd, 1) := by decide +kernel
theorem dL_law_253 : decode cL_law 253 = .ok (.iaload, 1) := by decide +kernel
theorem dL_law_254 : decode cL_law 254 = .ok (.aload_n 0, 1) := by decide +kernel
theorem dL_law_255 : decode cL_law 255 = .ok (.iload_n 3, 1) := by decide +kernel
theorem dL_law_256 : decode cL_law 256 = .ok (.iconst 2, 1) := by decide +kernel
theorem dL_law_257 : decode cL_law 257 = .ok (.iadd, 1) := by decide +kernel
theorem dL_law_258 : decode cL_law 258 = .ok (.iaload, 1) := by decide +kernel
theorem dL_law_259 : decode cL_law 259 = .ok (.invokevirtual 23, 3) := by decide +kernel
theorem dL_law_262 : decode cL_law 262 = .ok (.aload_n 2, 1) := by decide +kernel
theorem dL_law_263 : decode cL_law 263 = .ok (.aload_n 0, 1) := by decide +kernel
theorem dL_law_264 : decode cL_law 264 = .ok (.iload_n 3, 1) := by decide +kernel
theorem dL_law_265 : decode cL_law 265 = .ok (.iconst 1, 1) := by decide +kernel
theorem dL_law_266 : decode cL_law 266 = .ok (.iadd, 1) := by decide +kernel
theorem dL_law_267 : decode cL_law 267 = .ok (.iaload, 1) := by decide +kernel
theorem dL_law_268 : decode cL_law 268 = .ok (.aload_n 0, 1) := by decide +kernel
theorem dL_law_269 : decode cL_law 269 = .ok (.iload_n 3, 1) := by decide +kernel
theorem dL_law_270 : decode cL_law 270 = .ok (.iconst 2, 1) := by decide +kernel
theorem dL_law_271 : decode cL_law 271 = .ok (.iadd, 1) := by decide +kernel
theorem dL_law_272 : decode cL_law 272 = .ok (.iaload, 1) := by decide +kernel
theorem dL_law_273 : decode cL_law 273 = .ok (.invokevirtual 27, 3) := by decide +kernel
theorem dL_law_276 : decode cL_law 276 = .ok (.if_icmp .eq 1111, 3) := by decide +kernel
theorem dL_law_279 : decode cL_law 279 = .ok (.iconst 0, 1) := by decide +kernel
theorem dL_law_280 : decode cL_law 280 = .ok (.ireturn, 1) := by decide +kernel
theorem dL_law_281 : decode cL_law 281 = .ok (.aload_n 1, 1) := by decide +kernel
theorem dL_law_282 : decode cL_law 282 = .ok (.aload_n 0, 1) := by decide +kernel
theorem dL_law_283 : decode cL_law 283 = .ok (.iload_n 3, 1) := by decide +kernel
theorem dL_law_284 : decode cL_law 284 = .ok (.iconst 1, 1) := by decide +kernel
theorem dL_law_285 : decode cL_law 285 = .ok (.iadd, 1) := by decide +kernel
theorem dL_law_286 : decode cL_law 286 = .ok (.iaload, 1) := by decide +kernel
theorem dL_law_287 : decode cL_law 287 = .ok (.invokevirtual 28, 3) := by decide +kernel
theorem dL_law_290 : decode cL_law 290 = .ok (.aload_n 2, 1) := by decide +kernel
theorem dL_law_291 : decode cL_law 291 = .ok (.aload_n 0, 1) := by decide +kernel
theorem dL_law_292 : decode cL_law 292 = .ok (.iload_n 3, 1) := by decide +kernel
theorem dL_law_293 : decode cL_law 293 = .ok (.iconst 1, 1) := by decide +kernel
theorem dL_law_294 : decode cL_law 294 = .ok (.iadd, 1) := by decide +kernel
theorem dL_law_295 : decode cL_law 295 = .ok (.iaload, 1) := by decide +kernel
theorem dL_law_296 : decode cL_law 296 = .ok (.invokevirtual 31, 3) := by decide +kernel
theorem dL_law_299 : decode cL_law 299 = .ok (.if_icmp .eq 1088, 3) := by decide +kernel
theorem dL_law_302 : decode cL_law 302 = .ok (.iconst 0, 1) := by decide +kernel
theorem dL_law_303 : decode cL_law 303 = .ok (.ireturn, 1) := by decide +kernel
theorem dL_law_304 : decode cL_law 304 = .ok (.aload_n 1, 1) := by decide +kernel
theorem dL_law_305 : decode cL_law 305 = .ok (.aload_n 0, 1) := by decide +kernel
theorem dL_law_306 : decode cL_law 306 = .ok (.iload_n 3, 1) := by decide +kernel
theorem dL_law_307 : decode cL_law 307 = .ok (.iconst 1, 1) := by decide +kernel
theorem dL_law_308 : decode cL_law 308 = .ok (.iadd, 1) := by decide +kernel
theorem dL_law_309 : decode cL_law 309 = .ok (.iaload, 1) := by decide +kernel
theorem dL_law_310 : decode cL_law 310 = .ok (.aload_n 0, 1) := by decide +kernel
theorem dL_law_311 : decode cL_law 311 = .ok (.iload_n 3, 1) := by decide +kernel
theorem dL_law_312 : decode cL_law 312 = .ok (.iconst 2, 1) := by decide +kernel
theorem dL_law_313 : decode cL_law 313 = .ok (.iadd, 1) := by decide +kernel
theorem dL_law_314 : decode cL_law 314 = .ok (.iaload, 1) := by decide +kernel
theorem dL_law_315 : decode cL_law 315 = .ok (.aload_n 0, 1) := by decide +kernel
theorem dL_law_316 : decode cL_law 316 = .ok (.iload_n 3, 1) := by decide +kernel
theorem dL_law_317 : decode cL_law 317 = .ok (.iconst 3, 1) := by decide +kernel
theorem dL_law_318 : decode cL_law 318 = .ok (.iadd, 1) := by decide +kernel
theorem dL_law_319 : decode cL_law 319 = .ok (.iaload, 1) := by decide +kernel
theorem dL_law_320 : decode cL_law 320 = .ok (.invokevirtual 32, 3) := by decide +kernel
theorem dL_law_323 : decode cL_law 323 = .ok (.aload_n 2, 1) := by decide +kernel
theorem dL_law_324 : decode cL_law 324 = .ok (.aload_n 0, 1) := by decide +kernel
theorem dL_law_325 : decode cL_law 325 = .ok (.iload_n 3, 1) := by decide +kernel
theorem dL_law_326 : decode cL_law 326 = .ok (.iconst 1, 1) := by decide +kernel
theorem dL_law_327 : decode cL_law 327 = .ok (.iadd, 1) := by decide +kernel
theorem dL_law_328 : decode cL_law 328 = .ok (.iaload, 1) := by decide +kernel
theorem dL_law_329 : decode cL_law 329 = .ok (.aload_n 0, 1) := by decide +kernel
theorem dL_law_330 : decode cL_law 330 = .ok (.iload_n 3, 1) := by decide +kernel
theorem dL_law_331 : decode cL_law 331 = .ok (.iconst 2, 1) := by decide +kernel
theorem dL_law_332 : decode cL_law 332 = .ok (.iadd, 1) := by decide +kernel
theorem dL_law_333 : decode cL_law 333 = .ok (.iaload, 1) := by decide +kernel
theorem dL_law_334 : decode cL_law 334 = .ok (.aload_n 0, 1) := by decide +kernel
theorem dL_law_335 : decode cL_law 335 = .ok (.iload_n 3, 1) := by decide +kernel
theorem dL_law_336 : decode cL_law 336 = .ok (.iconst 3, 1) := by decide +kernel
theorem dL_law_337 : decode cL_law 337 = .ok (.iadd, 1) := by decide +kernel
theorem dL_law_338 : decode cL_law 338 = .ok (.iaload, 1) := by decide +kernel
theorem dL_law_339 : decode cL_law 339 = .ok (.invokevirtual 36, 3) := by decide +kernel
theorem dL_law_342 : decode cL_law 342 = .ok (.if_icmp .eq 1045, 3) := by decide +kernel
theorem dL_law_345 : decode cL_law 345 = .ok (.iconst 0, 1) := by decide +kernel
theorem dL_law_346 : decode cL_law 346 = .ok (.ireturn, 1) := by decide +kernel
theorem dL_law_347 : decode cL_law 347 = .ok (.aload_n 1, 1) := by decide +kernel
theorem dL_law_348 : decode cL_law 348 = .ok (.aload_n 0, 1) := by decide +kernel
theorem dL_law_349 : decode cL_law 349 = .ok (.iload_n 3, 1) := by decide +kernel
theorem dL_law_350 : decode cL_law 350 = .ok (.iconst 1, 1) := by decide +kernel
theorem dL_law_351 : decode cL_law 351 = .ok (.iadd, 1) := by decide +kernel
theorem dL_law_352 : decode cL_law 352 = .ok (.iaload, 1) := by decide +kernel
theorem dL_law_353 : decode cL_law 353 = .ok (.aload_n 0, 1) := by decide +kernel
theorem dL_law_354 : decode cL_law 354 = .ok (.iload_n 3, 1) := by decide +kernel
theorem dL_law_355 : decode cL_law 355 = .ok (.iconst 2, 1) := by decide +kernel
theorem dL_law_356 : decode cL_law 356 = .ok (.iadd, 1) := by decide +kernel
theorem dL_law_357 : decode cL_law 357 = .ok (.iaload, 1) := by decide +kernel
theorem dL_law_358 : decode cL_law 358 = .ok (.invokevirtual 37, 3) := by decide +kernel
theorem dL_law_361 : decode cL_law 361 = .ok (.aload_n 2, 1) := by decide +kernel
theorem dL_law_362 : decode cL_law 362 = .ok (.aload_n 0, 1) := by decide +kernel
theorem dL_law_363 : decode cL_law 363 = .ok (.iload_n 3, 1) := by decide +kernel
theorem dL_law_364 : decode cL_law 364 = .ok (.iconst 1, 1) := by decide +kernel
theorem dL_law_365 : decode cL_law 365 = .ok (.iadd, 1) := by decide +kernel
theorem dL_law_366 : decode cL_law 366 = .ok (.iaload, 1) := by decide +kernel
theorem dL_law_367 : decode cL_law 367 = .ok (.aload_n 0, 1) := by decide +kernel
theorem dL_law_368 : decode cL_law 368 = .ok (.iload_n 3, 1) := by decide +kernel
theorem dL_law_369 : decode cL_law 369 = .ok (.iconst 2, 1) := by decide +kernel
theorem dL_law_370 : decode cL_law 370 = .ok (.iadd, 1) := by decide +kernel
theorem dL_law_371 : decode cL_law 371 = .ok (.iaload, 1) := by decide +kernel
theorem dL_law_372 : decode cL_law 372 = .ok (.invokevirtual 40, 3) := by decide +kernel
theorem dL_law_375 : decode cL_law 375 = .ok (.if_icmp .eq 1012, 3) := by decide +kernel
theorem dL_law_378 : decode cL_law 378 = .ok (.iconst 0, 1) := by decide +kernel
theorem dL_law_379 : decode cL_law 379 = .ok (.ireturn, 1) := by decide +kernel
theorem dL_law_380 : decode cL_law 380 = .ok (.aload_n 1, 1) := by decide +kernel
theorem dL_law_381 : decode cL_law 381 = .ok (.aload_n 0, 1) := by decide +kernel
theorem dL_law_382 : decode cL_law 382 = .ok (.iload_n 3, 1) := by decide +kernel
theorem dL_law_383 : decode cL_law 383 = .ok (.iconst 1, 1) := by decide +kernel
theorem dL_law_384 : decode cL_law 384 = .ok (.iadd, 1) := by decide +kernel
theorem dL_law_385 : decode cL_law 385 = .ok (.iaload, 1) := by decide +kernel
theorem dL_law_386 : decode cL_law 386 = .ok (.invokevirtual 41, 3) := by decide +kernel
theorem dL_law_389 : decode cL_law 389 = .ok (.aload_n 2, 1) := by decide +kernel
theorem dL_law_390 : decode cL_law 390 = .ok (.aload_n 0, 1) := by decide +kernel
theorem dL_law_391 : decode cL_law 391 = .ok (.iload_n 3, 1) := by decide +kernel
theorem dL_law_392 : decode cL_law 392 = .ok (.iconst 1, 1) := by decide +kernel
theorem dL_law_393 : decode cL_law 393 = .ok (.iadd, 1) := by decide +kernel
theorem dL_law_394 : decode cL_law 394 = .ok (.iaload, 1) := by decide +kernel
theorem dL_law_395 : decode cL_law 395 = .ok (.invokevirtual 44, 3) := by decide +kernel
theorem dL_law_398 : decode cL_law 398 = .ok (.if_icmp .eq 989, 3) := by decide +kernel
theorem dL_law_401 : decode cL_law 401 = .ok (.iconst 0, 1) := by decide +kernel
theorem dL_law_402 : decode cL_law 402 = .ok (.ireturn, 1) := by decide +kernel
theorem dL_law_403 : decode cL_law 403 = .ok (.aload_n 1, 1) := by decide +kernel
theorem dL_law_404 : decode cL_law 404 = .ok (.aload_n 0, 1) := by decide +kernel
theorem dL_law_405 : decode cL_law 405 = .ok (.iload_n 3, 1) := by decide +kernel
theorem dL_law_406 : decode cL_law 406 = .ok (.iconst 1, 1) := by decide +kernel
theorem dL_law_407 : decode cL_law 407 = .ok (.iadd, 1) := by decide +kernel
theorem dL_law_408 : decode cL_law 408 = .ok (.iaload, 1) := by decide +kernel
theorem dL_law_409 : decode cL_law 409 = .ok (.aload_n 0, 1) := by decide +kernel
theorem dL_law_410 : decode cL_law 410 = .ok (.iload_n 3, 1) := by decide +kernel
theorem dL_law_411 : decode cL_law 411 = .ok (.iconst 2, 1) := by decide +kernel
theorem dL_law_412 : decode cL_law 412 = .ok (.iadd, 1) := by decide +kernel
theorem dL_law_413 : decode cL_law 413 = .ok (.iaload, 1) := by decide +kernel
theorem dL_law_414 : decode cL_law 414 = .ok (.invokevirtual 45, 3) := by decide +kernel
theorem dL_law_417 : decode cL_law 417 = .ok (.aload_n 2, 1) := by decide +kernel
theorem dL_law_418 : decode cL_law 418 = .ok (.aload_n 0, 1) := by decide +kernel
theorem dL_law_419 : decode cL_law 419 = .ok (.iload_n 3, 1) := by decide +kernel
theorem dL_law_420 : decode cL_law 420 = .ok (.iconst 1, 1) := by decide +kernel
theorem dL_law_421 : decode cL_law 421 = .ok (.iadd, 1) := by decide +kernel
theorem dL_law_422 : decode cL_law 422 = .ok (.iaload, 1) := by decide +kernel
theorem dL_law_423 : decode cL_law 423 = .ok (.aload_n 0, 1) := by decide +kernel
theorem dL_law_424 : decode cL_law 424 = .ok (.iload_n 3, 1) := by decide +kernel
theorem dL_law_425 : decode cL_law 425 = .ok (.iconst 2, 1) := by decide +kernel
theorem dL_law_426 : decode cL_law 426 = .ok (.iadd, 1) := by decide +kernel
theorem dL_law_427 : decode cL_law 427 = .ok (.iaload, 1) := by decide +kernel
theorem dL_law_428 : decode cL_law 428 = .ok (.invokevirtual 48, 3) := by decide +kernel
theorem dL_law_431 : decode cL_law 431 = .ok (.if_icmp .eq 956, 3) := by decide +kernel
theorem dL_law_434 : decode cL_law 434 = .ok (.iconst 0, 1) := by decide +kernel
theorem dL_law_435 : decode cL_law 435 = .ok (.ireturn, 1) := by decide +kernel
theorem dL_law_436 : decode cL_law 436 = .ok (.aload_n 1, 1) := by decide +kernel
theorem dL_law_437 : decode cL_law 437 = .ok (.aload_n 0, 1) := by decide +kernel
theorem dL_law_438 : decode cL_law 438 = .ok (.iload_n 3, 1) := by decide +kernel
theorem dL_law_439 : decode cL_law 439 = .ok (.iconst 1, 1) := by decide +kernel
theorem dL_law_440 : decode cL_law 440 = .ok (.iadd, 1) := by decide +kernel
theorem dL_law_441 : decode cL_law 441 = .ok (.iaload, 1) := by decide +kernel
theorem dL_law_442 : decode cL_law 442 = .ok (.invokevirtual 49, 3) := by decide +kernel
theorem dL_law_445 : decode cL_law 445 = .ok (.aload_n 2, 1) := by decide +kernel
theorem dL_law_446 : decode cL_law 446 = .ok (.aload_n 0, 1) := by decide +kernel
theorem dL_law_447 : decode cL_law 447 = .ok (.iload_n 3, 1) := by decide +kernel
theorem dL_law_448 : decode cL_law 448 = .ok (.iconst 1, 1) := by decide +kernel
theorem dL_law_449 : decode cL_law 449 = .ok (.iadd, 1) := by decide +kernel
theorem dL_law_450 : decode cL_law 450 = .ok (.iaload, 1) := by decide +kernel
theorem dL_law_451 : decode cL_law 451 = .ok (.invokevirtual 52, 3) := by decide +kernel
theorem dL_law_454 : decode cL_law 454 = .ok (.if_icmp .eq 933, 3) := by decide +kernel
theorem dL_law_457 : decode cL_law 457 = .ok (.iconst 0, 1) := by decide +kernel
theorem dL_law_458 : decode cL_law 458 = .ok (.ireturn, 1) := by decide +kernel
theorem dL_law_459 : decode cL_law 459 = .ok (.aload_n 1, 1) := by decide +kernel
theorem dL_law_460 : decode cL_law 460 = .ok (.invokevirtual 53, 3) := by decide +kernel
theorem dL_law_463 : decode cL_law 463 = .ok (.aload_n 2, 1) := by decide +kernel
theorem dL_law_464 : decode cL_law 464 = .ok (.invokevirtual 56, 3) := by decide +kernel
theorem dL_law_467 : decode cL_law 467 = .ok (.if_icmp .eq 920, 3) := by decide +kernel
theorem dL_law_470 : decode cL_law 470 = .ok (.iconst 0, 1) := by decide +kernel
theorem dL_law_471 : decode cL_law 471 = .ok (.ireturn, 1) := by decide +kernel
theorem dL_law_472 : decode cL_law 472 = .ok (.aload_n 1, 1) := by decide +kernel
theorem dL_law_473 : decode cL_law 473 = .ok (.aload_n 0, 1) := by decide +kernel
theorem dL_law_474 : decode cL_law 474 = .ok (.iload_n 3, 1) := by decide +kernel
theorem dL_law_475 : decode cL_law 475 = .ok (.iconst 1, 1) := by decide +kernel
theorem dL_law_476 : decode cL_law 476 = .ok (.iadd, 1) := by decide +kernel
theorem dL_law_477 : decode cL_law 477 = .ok (.iaload, 1) := by decide +kernel
theorem dL_law_478 : decode cL_law 478 = .ok (.aload_n 0, 1) := by decide +kernel
theorem dL_law_479 : decode cL_law 479 = .ok (.iload_n 3, 1) := by decide +kernel
theorem dL_law_480 : decode cL_law 480 = .ok (.iconst 2, 1) := by decide +kernel
theorem dL_law_481 : decode cL_law 481 = .ok (.iadd, 1) := by decide +kernel
theorem dL_law_482 : decode cL_law 482 = .ok (.iaload, 1) := by decide +kernel
theorem dL_law_483 : decode cL_law 483 = .ok (.invokevirtual 57, 3) := by decide +kernel
theorem dL_law_486 : decode cL_law 486 = .ok (.aload_n 2, 1) := by decide +kernel
theorem dL_law_487 : decode cL_law 487 = .ok (.aload_n 0, 1) := by decide +kernel
theorem dL_law_488 : decode cL_law 488 = .ok (.iload_n 3, 1) := by decide +kernel
theorem dL_law_489 : decode cL_law 489 = .ok (.iconst 1, 1) := by decide +kernel
theorem dL_law_490 : decode cL_law 490 = .ok (.iadd, 1) := by decide +kernel
theorem dL_law_491 : decode cL_law 491 = .ok (.iaload, 1) := by decide +kernel
theorem dL_law_492 : decode cL_law 492 = .ok (.aload_n 0, 1) := by decide +kernel
theorem dL_law_493 : decode cL_law 493 = .ok (.iload_n 3, 1) := by decide +kernel
theorem dL_law_494 : decode cL_law 494 = .ok (.iconst 2, 1) := by decide +kernel
theorem dL_law_495 : decode cL_law 495 = .ok (.iadd, 1) := by decide +kernel
theorem dL_law_496 : decode cL_law 496 = .ok (.iaload, 1) := by decide +kernel
theorem dL_law_497 : decode cL_law 497 = .ok (.invokevirtual 60, 3) := by decide +kernel
theorem dL_law_500 : decode cL_law 500 = .ok (.if_icmp .eq 887, 3) := by decide +kernel
theorem dL_law_503 : decode cL_law 503 = .ok (.iconst 0, 1) := by decide +kernel
theorem dL_law_504 : decode cL_law 504 = .ok (.ireturn, 1) := by decide +kernel
theorem dL_law_505 : decode cL_law 505 = .ok (.aload_n 1, 1) := by decide +kernel
theorem dL_law_506 : decode cL_law 506 = .ok (.aload_n 0, 1) := by decide +kernel
theorem dL_law_507 : decode cL_law 507 = .ok (.iload_n 3, 1) := by decide +kernel
theorem dL_law_508 : decode cL_law 508 = .ok (.iconst 1, 1) := by decide +kernel
theorem dL_law_509 : decode cL_law 509 = .ok (.iadd, 1) := by decide +kernel
theorem dL_law_510 : decode cL_law 510 = .ok (.iaload, 1) := by decide +kernel
theorem dL_law_511 : decode cL_law 511 = .ok (.aload_n 0, 1) := by decide +kernel
theorem dL_law_512 : decode cL_law 512 = .ok (.iload_n 3, 1) := by decide +kernel
theorem dL_law_513 : decode cL_law 513 = .ok (.iconst 2, 1) := by decide +kernel
theorem dL_law_514 : decode cL_law 514 = .ok (.iadd, 1) := by decide +kernel
theorem dL_law_515 : decode cL_law 515 = .ok (.iaload, 1) := by decide +kernel
theorem dL_law_516 : decode cL_law 516 = .ok (.invokevirtual 61, 3) := by decide +kernel
theorem dL_law_519 : decode cL_law 519 = .ok (.aload_n 2, 1) := by decide +kernel
theorem dL_law_520 : decode cL_law 520 = .ok (.aload_n 0, 1) := by decide +kernel
theorem dL_law_521 : decode cL_law 521 = .ok (.iload_n 3, 1) := by decide +kernel
theorem dL_law_522 : decode cL_law 522 = .ok (.iconst 1, 1) := by decide +kernel
theorem dL_law_523 : decode cL_law 523 = .ok (.iadd, 1) := by decide +kernel
theorem dL_law_524 : decode cL_law 524 = .ok (.iaload, 1) := by decide +kernel
theorem dL_law_525 : decode cL_law 525 = .ok (.aload_n 0, 1) := by decide +kernel
theorem dL_law_526 : decode cL_law 526 = .ok (.iload_n 3, 1) := by decide +kernel
theorem dL_law_527 : decode cL_law 527 = .ok (.iconst 2, 1) := by decide +kernel
theorem dL_law_528 : decode cL_law 528 = .ok (.iadd, 1) := by decide +kernel
theorem dL_law_529 : decode cL_law 529 = .ok (.iaload, 1) := by decide +kernel
theorem dL_law_530 : decode cL_law 530 = .ok (.invokevirtual 64, 3) := by decide +kernel
theorem dL_law_533 : decode cL_law 533 = .ok (.if_icmp .eq 854, 3) := by decide +kernel
theorem dL_law_536 : decode cL_law 536 = .ok (.iconst 0, 1) := by decide +kernel
theorem dL_law_537 : decode cL_law 537 = .ok (.ireturn, 1) := by decide +kernel
theorem dL_law_538 : decode cL_law 538 = .ok (.aload_n 1, 1) := by decide +kernel
theorem dL_law_539 : decode cL_law 539 = .ok (.aload_n 0, 1) := by decide +kernel
theorem dL_law_540 : decode cL_law 540 = .ok (.iload_n 3, 1) := by decide +kernel
theorem dL_law_541 : decode cL_law 541 = .ok (.iconst 1, 1) := by decide +kernel
theorem dL_law_542 : decode cL_law 542 = .ok (.iadd, 1) := by decide +kernel
theorem dL_law_543 : decode cL_law 543 = .ok (.iaload, 1) := by decide +kernel
theorem dL_law_544 : decode cL_law 544 = .ok (.aload_n 0, 1) := by decide +kernel
theorem dL_law_545 : decode cL_law 545 = .ok (.iload_n 3, 1) := by decide +kernel
theorem dL_law_546 : decode cL_law 546 = .ok (.iconst 2, 1) := by decide +kernel
theorem dL_law_547 : decode cL_law 547 = .ok (.iadd, 1) := by decide +kernel
theorem dL_law_548 : decode cL_law 548 = .ok (.iaload, 1) := by decide +kernel
theorem dL_law_549 : decode cL_law 549 = .ok (.invokevirtual 65, 3) := by decide +kernel
theorem dL_law_552 : decode cL_law 552 = .ok (.aload_n 2, 1) := by decide +kernel
theorem dL_law_553 : decode cL_law 553 = .ok (.aload_n 0, 1) := by decide +kernel
theorem dL_law_554 : decode cL_law 554 = .ok (.iload_n 3, 1) := by decide +kernel
theorem dL_law_555 : decode cL_law 555 = .ok (.iconst 1, 1) := by decide +kernel
theorem dL_law_556 : decode cL_law 556 = .ok (.iadd, 1) := by decide +kernel
theorem dL_law_557 : decode cL_law 557 = .ok (.iaload, 1) := by decide +kernel
theorem dL_law_558 : decode cL_law 558 = .ok (.aload_n 0, 1) := by decide +kernel
theorem dL_law_559 : decode cL_law 559 = .ok (.iload_n 3, 1) := by decide +kernel
theorem dL_law_560 : decode cL_law 560 = .ok (.iconst 2, 1) := by decide +kernel
theorem dL_law_561 : decode cL_law 561 = .ok (.iadd, 1) := by decide +kernel
theorem dL_law_562 : decode cL_law 562 = .ok (.iaload, 1) := by decide +kernel
theorem dL_law_563 : decode cL_law 563 = .ok (.invokevirtual 68, 3) := by decide +kernel
theorem dL_law_566 : decode cL_law 566 = .ok (.if_icmp .eq 821, 3) := by decide +kernel
theorem dL_law_569 : decode cL_law 569 = .ok (.iconst 0, 1) := by decide +kernel
theorem dL_law_570 : decode cL_law 570 = .ok (.ireturn, 1) := by decide +kernel
theorem dL_law_571 : decode cL_law 571 = .ok (.aload_n 1, 1) := by decide +kernel
theorem dL_law_572 : decode cL_law 572 = .ok (.aload_n 0, 1) := by decide +kernel
theorem dL_law_573 : decode cL_law 573 = .ok (.iload_n 3, 1) := by decide +kernel
theorem dL_law_574 : decode cL_law 574 = .ok (.iconst 1, 1) := by decide +kernel
theorem dL_law_575 : decode cL_law 575 = .ok (.iadd, 1) := by decide +kernel
theorem dL_law_576 : decode cL_law 576 = .ok (.iaload, 1) := by decide +kernel
theorem dL_law_577 : decode cL_law 577 = .ok (.aload_n 0, 1) := by decide +kernel
theorem dL_law_578 : decode cL_law 578 = .ok (.iload_n 3, 1) := by decide +kernel
theorem dL_law_579 : decode cL_law 579 = .ok (.iconst 2, 1) := by decide +kernel
theorem dL_law_580 : decode cL_law 580 = .ok (.iadd, 1) := by decide +kernel
theorem dL_law_581 : decode cL_law 581 = .ok (.iaload, 1) := by decide +kernel
theorem dL_law_582 : decode cL_law 582 = .ok (.aload_n 0, 1) := by decide +kernel
theorem dL_law_583 : decode cL_law 583 = .ok (.iload_n 3, 1) := by decide +kernel
theorem dL_law_584 : decode cL_law 584 = .ok (.iconst 3, 1) := by decide +kernel
theorem dL_law_585 : decode cL_law 585 = .ok (.iadd, 1) := by decide +kernel
theorem dL_law_586 : decode cL_law 586 = .ok (.iaload, 1) := by decide +kernel
theorem dL_law_587 : decode cL_law 587 = .ok (.invokevirtual 69, 3) := by decide +kernel
theorem dL_law_590 : decode cL_law 590 = .ok (.aload_n 2, 1) := by decide +kernel
theorem dL_law_591 : decode cL_law 591 = .ok (.aload_n 0, 1) := by decide +kernel
theorem dL_law_592 : decode cL_law 592 = .ok (.iload_n 3, 1) := by decide +kernel
theorem dL_law_593 : decode cL_law 593 = .ok (.iconst 1, 1) := by decide +kernel
theorem dL_law_594 : decode cL_law 594 = .ok (.iadd, 1) := by decide +kernel
theorem dL_law_595 : decode cL_law 595 = .ok (.iaload, 1) := by decide +kernel
theorem dL_law_596 : decode cL_law 596 = .ok (.aload_n 0, 1) := by decide +kernel
theorem dL_law_597 : decode cL_law 597 = .ok (.iload_n 3, 1) := by decide +kernel
theorem dL_law_598 : decode cL_law 598 = .ok (.iconst 2, 1) := by decide +kernel
theorem dL_law_599 : decode cL_law 599 = .ok (.iadd, 1) := by decide +kernel
theorem dL_law_600 : decode cL_law 600 = .ok (.iaload, 1) := by decide +kernel
theorem dL_law_601 : decode cL_law 601 = .ok (.aload_n 0, 1) := by decide +kernel
theorem dL_law_602 : decode cL_law 602 = .ok (.iload_n 3, 1) := by decide +kernel
theorem dL_law_603 : decode cL_law 603 = .ok (.iconst 3, 1) := by decide +kernel
theorem dL_law_604 : decode cL_law 604 = .ok (.iadd, 1) := by decide +kernel
theorem dL_law_605 : decode cL_law 605 = .ok (.iaload, 1) := by decide +kernel
theorem dL_law_606 : decode cL_law 606 = .ok (.invokevirtual 72, 3) := by decide +kernel
theorem dL_law_609 : decode cL_law 609 = .ok (.if_icmp .eq 778, 3) := by decide +kernel
theorem dL_law_612 : decode cL_law 612 = .ok (.iconst 0, 1) := by decide +kernel
theorem dL_law_613 : decode cL_law 613 = .ok (.ireturn, 1) := by decide +kernel
theorem dL_law_614 : decode cL_law 614 = .ok (.aload_n 1, 1) := by decide +kernel
theorem dL_law_615 : decode cL_law 615 = .ok (.aload_n 0, 1) := by decide +kernel
theorem dL_law_616 : decode cL_law 616 = .ok (.iload_n 3, 1) := by decide +kernel
theorem dL_law_617 : decode cL_law 617 = .ok (.iconst 1, 1) := by decide +kernel
theorem dL_law_618 : decode cL_law 618 = .ok (.iadd, 1) := by decide +kernel
theorem dL_law_619 : decode cL_law 619 = .ok (.iaload, 1) := by decide +kernel
theorem dL_law_620 : decode cL_law 620 = .ok (.invokevirtual 73, 3) := by decide +kernel
theorem dL_law_623 : decode cL_law 623 = .ok (.aload_n 2, 1) := by decide +kernel
theorem dL_law_624 : decode cL_law 624 = .ok (.aload_n 0, 1) := by decide +kernel
theorem dL_law_625 : decode cL_law 625 = .ok (.iload_n 3, 1) := by decide +kernel
theorem dL_law_626 : decode cL_law 626 = .ok (.iconst 1, 1) := by decide +kernel
theorem dL_law_627 : decode cL_law 627 = .ok (.iadd, 1) := by decide +kernel
theorem dL_law_628 : decode cL_law 628 = .ok (.iaload, 1) := by decide +kernel
theorem dL_law_629 : decode cL_law 629 = .ok (.invokevirtual 76, 3) := by decide +kernel
theorem dL_law_632 : decode cL_law 632 = .ok (.if_icmp .eq 755, 3) := by decide +kernel
theorem dL_law_635 : decode cL_law 635 = .ok (.iconst 0, 1) := by decide +kernel
theorem dL_law_636 : decode cL_law 636 = .ok (.ireturn, 1) := by decide +kernel
theorem dL_law_637 : decode cL_law 637 = .ok (.aload_n 1, 1) := by decide +kernel
theorem dL_law_638 : decode cL_law 638 = .ok (.aload_n 0, 1) := by decide +kernel
theorem dL_law_639 : decode cL_law 639 = .ok (.iload_n 3, 1) := by decide +kernel
theorem dL_law_640 : decode cL_law 640 = .ok (.iconst 1, 1) := by decide +kernel
theorem dL_law_641 : decode cL_law 641 = .ok (.iadd, 1) := by decide +kernel
theorem dL_law_642 : decode cL_law 642 = .ok (.iaload, 1) := by decide +kernel
theorem dL_law_643 : decode cL_law 643 = .ok (.invokevirtual 77, 3) := by decide +kernel
theorem dL_law_646 : decode cL_law 646 = .ok (.aload_n 2, 1) := by decide +kernel
theorem dL_law_647 : decode cL_law 647 = .ok (.aload_n 0, 1) := by decide +kernel
theorem dL_law_648 : decode cL_law 648 = .ok (.iload_n 3, 1) := by decide +kernel
theorem dL_law_649 : decode cL_law 649 = .ok (.iconst 1, 1) := by decide +kernel
theorem dL_law_650 : decode cL_law 650 = .ok (.iadd, 1) := by decide +kernel
theorem dL_law_651 : decode cL_law 651 = .ok (.iaload, 1) := by decide +kernel
theorem dL_law_652 : decode cL_law 652 = .ok (.invokevirtual 80, 3) := by decide +kernel
theorem dL_law_655 : decode cL_law 655 = .ok (.if_icmp .eq 732, 3) := by decide +kernel
theorem dL_law_658 : decode cL_law 658 = .ok (.iconst 0, 1) := by decide +kernel
theorem dL_law_659 : decode cL_law 659 = .ok (.ireturn, 1) := by decide +kernel
theorem dL_law_660 : decode cL_law 660 = .ok (.aload_n 1, 1) := by decide +kernel
theorem dL_law_661 : decode cL_law 661 = .ok (.aload_n 0, 1) := by decide +kernel
theorem dL_law_662 : decode cL_law 662 = .ok (.iload_n 3, 1) := by decide +kernel
theorem dL_law_663 : decode cL_law 663 = .ok (.iconst 1, 1) := by decide +kernel
theorem dL_law_664 : decode cL_law 664 = .ok (.iadd, 1) := by decide +kernel
theorem dL_law_665 : decode cL_law 665 = .ok (.iaload, 1) := by decide +kernel
theorem dL_law_666 : decode cL_law 666 = .ok (.aload_n 0, 1) := by decide +kernel
theorem dL_law_667 : decode cL_law 667 = .ok (.iload_n 3, 1) := by decide +kernel
theorem dL_law_668 : decode cL_law 668 = .ok (.iconst 2, 1) := by decide +kernel
theorem dL_law_669 : decode cL_law 669 = .ok (.iadd, 1) := by decide +kernel
theorem dL_law_670 : decode cL_law 670 = .ok (.iaload, 1) := by decide +kernel
theorem dL_law_671 : decode cL_law 671 = .ok (.invokevirtual 81, 3) := by decide +kernel
theorem dL_law_674 : decode cL_law 674 = .ok (.aload_n 2, 1) := by decide +kernel
theorem dL_law_675 : decode cL_law 675 = .ok (.aload_n 0, 1) := by decide +kernel
theorem dL_law_676 : decode cL_law 676 = .ok (.iload_n 3, 1) := by decide +kernel
theorem dL_law_677 : decode cL_law 677 = .ok (.iconst 1, 1) := by decide +kernel
theorem dL_law_678 : decode cL_law 678 = .ok (.iadd, 1) := by decide +kernel
theorem dL_law_679 : decode cL_law 679 = .ok (.iaload, 1) := by decide +kernel
theorem dL_law_680 : decode cL_law 680 = .ok (.aload_n 0, 1) := by decide +kernel
theorem dL_law_681 : decode cL_law 681 = .ok (.iload_n 3, 1) := by decide +kernel
theorem dL_law_682 : decode cL_law 682 = .ok (.iconst 2, 1) := by decide +kernel
theorem dL_law_683 : decode cL_law 683 = .ok (.iadd, 1) := by decide +kernel
theorem dL_law_684 : decode cL_law 684 = .ok (.iaload, 1) := by decide +kernel
theorem dL_law_685 : decode cL_law 685 = .ok (.invokevirtual 84, 3) := by decide +kernel
theorem dL_law_688 : decode cL_law 688 = .ok (.if_icmp .eq 699, 3) := by decide +kernel
theorem dL_law_691 : decode cL_law 691 = .ok (.iconst 0, 1) := by decide +kernel
theorem dL_law_692 : decode cL_law 692 = .ok (.ireturn, 1) := by decide +kernel
theorem dL_law_693 : decode cL_law 693 = .ok (.aload_n 1, 1) := by decide +kernel
theorem dL_law_694 : decode cL_law 694 = .ok (.aload_n 0, 1) := by decide +kernel
theorem dL_law_695 : decode cL_law 695 = .ok (.iload_n 3, 1) := by decide +kernel
theorem dL_law_696 : decode cL_law 696 = .ok (.iconst 1, 1) := by decide +kernel
theorem dL_law_697 : decode cL_law 697 = .ok (.iadd, 1) := by decide +kernel
theorem dL_law_698 : decode cL_law 698 = .ok (.iaload, 1) := by decide +kernel
theorem dL_law_699 : decode cL_law 699 = .ok (.aload_n 0, 1) := by decide +kernel
theorem dL_law_700 : decode cL_law 700 = .ok (.iload_n 3, 1) := by decide +kernel
theorem dL_law_701 : decode cL_law 701 = .ok (.iconst 2, 1) := by decide +kernel
theorem dL_law_702 : decode cL_law 702 = .ok (.iadd, 1) := by decide +kernel
theorem dL_law_703 : decode cL_law 703 = .ok (.iaload, 1) := by decide +kernel
theorem dL_law_704 : decode cL_law 704 = .ok (.invokevirtual 85, 3) := by decide +kernel
theorem dL_law_707 : decode cL_law 707 = .ok (.aload_n 2, 1) := by decide +kernel
theorem dL_law_708 : decode cL_law 708 = .ok (.aload_n 0, 1) := by decide +kernel
theorem dL_law_709 : decode cL_law 709 = .ok (.iload_n 3, 1) := by decide +kernel
theorem dL_law_710 : decode cL_law 710 = .ok (.iconst 1, 1) := by decide +kernel
theorem dL_law_711 : decode cL_law 711 = .ok (.iadd, 1) := by decide +kernel
theorem dL_law_712 : decode cL_law 712 = .ok (.iaload, 1) := by decide +kernel
theorem dL_law_713 : decode cL_law 713 = .ok (.aload_n 0, 1) := by decide +kernel
theorem dL_law_714 : decode cL_law 714 = .ok (.iload_n 3, 1) := by decide +kernel
theorem dL_law_715 : decode cL_law 715 = .ok (.iconst 2, 1) := by decide +kernel
theorem dL_law_716 : decode cL_law 716 = .ok (.iadd, 1) := by decide +kernel
theorem dL_law_717 : decode cL_law 717 = .ok (.iaload, 1) := by decide +kernel
theorem dL_law_718 : decode cL_law 718 = .ok (.invokevirtual 88, 3) := by decide +kernel
theorem dL_law_721 : decode cL_law 721 = .ok (.if_icmp .eq 666, 3) := by decide +kernel
theorem dL_law_724 : decode cL_law 724 = .ok (.iconst 0, 1) := by decide +kernel
theorem dL_law_725 : decode cL_law 725 = .ok (.ireturn, 1) := by decide +kernel
theorem dL_law_726 : decode cL_law 726 = .ok (.aload_n 1, 1) := by decide +kernel
theorem dL_law_727 : decode cL_law 727 = .ok (.aload_n 0, 1) := by decide +kernel
theorem dL_law_728 : decode cL_law 728 = .ok (.iload_n 3, 1) := by decide +kernel
theorem dL_law_729 : decode cL_law 729 = .ok (.iconst 1, 1) := by decide +kernel
theorem dL_law_730 : decode cL_law 730 = .ok (.iadd, 1) := by decide +kernel
theorem dL_law_731 : decode cL_law 731 = .ok (.iaload, 1) := by decide +kernel
theorem dL_law_732 : decode cL_law 732 = .ok (.aload_n 0, 1) := by decide +kernel
theorem dL_law_733 : decode cL_law 733 = .ok (.iload_n 3, 1) := by decide +kernel
theorem dL_law_734 : decode cL_law 734 = .ok (.iconst 2, 1) := by decide +kernel
theorem dL_law_735 : decode cL_law 735 = .ok (.iadd, 1) := by decide +kernel
theorem dL_law_736 : decode cL_law 736 = .ok (.iaload, 1) := by decide +kernel
theorem dL_law_737 : decode cL_law 737 = .ok (.invokevirtual 89, 3) := by decide +kernel
theorem dL_law_740 : decode cL_law 740 = .ok (.aload_n 2, 1) := by decide +kernel
theorem dL_law_741 : decode cL_law 741 = .ok (.aload_n 0, 1) := by decide +kernel
theorem dL_law_742 : decode cL_law 742 = .ok (.iload_n 3, 1) := by decide +kernel
theorem dL_law_743 : decode cL_law 743 = .ok (.iconst 1, 1) := by decide +kernel
theorem dL_law_744 : decode cL_law 744 = .ok (.iadd, 1) := by decide +kernel
theorem dL_law_745 : decode cL_law 745 = .ok (.iaload, 1) := by decide +kernel
theorem dL_law_746 : decode cL_law 746 = .ok (.aload_n 0, 1) := by decide +kernel
theorem dL_law_747 : decode cL_law 747 = .ok (.iload_n 3, 1) := by decide +kernel
theorem dL_law_748 : decode cL_law 748 = .ok (.iconst 2, 1) := by decide +kernel
theorem dL_law_749 : decode cL_law 749 = .ok (.iadd, 1) := by decide +kernel
theorem dL_law_750 : decode cL_law 750 = .ok (.iaload, 1) := by decide +kernel
theorem dL_law_751 : decode cL_law 751 = .ok (.invokevirtual 92, 3) := by decide +kernel
theorem dL_law_754 : decode cL_law 754 = .ok (.if_icmp .eq 633, 3) := by decide +kernel
theorem dL_law_757 : decode cL_law 757 = .ok (.iconst 0, 1) := by decide +kernel
theorem dL_law_758 : decode cL_law 758 = .ok (.ireturn, 1) := by decide +kernel
theorem dL_law_759 : decode cL_law 759 = .ok (.aload_n 1, 1) := by decide +kernel
theorem dL_law_760 : decode cL_law 760 = .ok (.aload_n 0, 1) := by decide +kernel
theorem dL_law_761 : decode cL_law 761 = .ok (.iload_n 3, 1) := by decide +kernel
theorem dL_law_762 : decode cL_law 762 = .ok (.iconst 1, 1) := by decide +kernel
theorem dL_law_763 : decode cL_law 763 = .ok (.iadd, 1) := by decide +kernel
theorem dL_law_764 : decode cL_law 764 = .ok (.iaload, 1) := by decide +kernel
theorem dL_law_765 : decode cL_law 765 = .ok (.aload_n 0, 1) := by decide +kernel
theorem dL_law_766 : decode cL_law 766 = .ok (.iload_n 3, 1) := by decide +kernel
theorem dL_law_767 : decode cL_law 767 = .ok (.iconst 2, 1) := by decide +kernel
theorem dL_law_768 : decode cL_law 768 = .ok (.iadd, 1) := by decide +kernel
theorem dL_law_769 : decode cL_law 769 = .ok (.iaload, 1) := by decide +kernel
theorem dL_law_770 : decode cL_law 770 = .ok (.invokevirtual 93, 3) := by decide +kernel
theorem dL_law_773 : decode cL_law 773 = .ok (.aload_n 2, 1) := by decide +kernel
theorem dL_law_774 : decode cL_law 774 = .ok (.aload_n 0, 1) := by decide +kernel
theorem dL_law_775 : decode cL_law 775 = .ok (.iload_n 3, 1) := by decide +kernel
theorem dL_law_776 : decode cL_law 776 = .ok (.iconst 1, 1) := by decide +kernel
theorem dL_law_777 : decode cL_law 777 = .ok (.iadd, 1) := by decide +kernel
theorem dL_law_778 : decode cL_law 778 = .ok (.iaload, 1) := by decide +kernel
theorem dL_law_779 : decode cL_law 779 = .ok (.aload_n 0, 1) := by decide +kernel
theorem dL_law_780 : decode cL_law 780 = .ok (.iload_n 3, 1) := by decide +kernel
theorem dL_law_781 : decode cL_law 781 = .ok (.iconst 2, 1) := by decide +kernel
theorem dL_law_782 : decode cL_law 782 = .ok (.iadd, 1) := by decide +kernel
theorem dL_law_783 : decode cL_law 783 = .ok (.iaload, 1) := by decide +kernel
theorem dL_law_784 : decode cL_law 784 = .ok (.invokevirtual 96, 3) := by decide +kernel
theorem dL_law_787 : decode cL_law 787 = .ok (.if_icmp .eq 600, 3) := by decide +kernel
theorem dL_law_790 : decode cL_law 790 = .ok (.iconst 0, 1) := by decide +kernel
theorem dL_law_791 : decode cL_law 791 = .ok (.ireturn, 1) := by decide +kernel
theorem dL_law_792 : decode cL_law 792 = .ok (.aload_n 1, 1) := by decide +kernel
theorem dL_law_793 : decode cL_law 793 = .ok (.aload_n 0, 1) := by decide +kernel
theorem dL_law_794 : decode cL_law 794 = .ok (.iload_n 3, 1) := by decide +kernel
theorem dL_law_795 : decode cL_law 795 = .ok (.iconst 1, 1) := by decide +kernel
theorem dL_law_796 : decode cL_law 796 = .ok (.iadd, 1) := by decide +kernel
theorem dL_law_797 : decode cL_law 797 = .ok (.iaload, 1) := by decide +kernel
theorem dL_law_798 : decode cL_law 798 = .ok (.aload_n 0, 1) := by decide +kernel
theorem dL_law_799 : decode cL_law 799 = .ok (.iload_n 3, 1) := by decide +kernel
theorem dL_law_800 : decode cL_law 800 = .ok (.iconst 2, 1) := by decide +kernel
theorem dL_law_801 : decode cL_law 801 = .ok (.iadd, 1) := by decide +kernel
theorem dL_law_802 : decode cL_law 802 = .ok (.iaload, 1) := by decide +kernel
theorem dL_law_803 : decode cL_law 803 = .ok (.aload_n 0, 1) := by decide +kernel
theorem dL_law_804 : decode cL_law 804 = .ok (.iload_n 3, 1) := by decide +kernel
theorem dL_law_805 : decode cL_law 805 = .ok (.iconst 3, 1) := by decide +kernel
theorem dL_law_806 : decode cL_law 806 = .ok (.iadd, 1) := by decide +kernel
theorem dL_law_807 : decode cL_law 807 = .ok (.iaload, 1) := by decide +kernel
theorem dL_law_808 : decode cL_law 808 = .ok (.invokevirtual 97, 3) := by decide +kernel
theorem dL_law_811 : decode cL_law 811 = .ok (.aload_n 2, 1) := by decide +kernel
theorem dL_law_812 : decode cL_law 812 = .ok (.aload_n 0, 1) := by decide +kernel
theorem dL_law_813 : decode cL_law 813 = .ok (.iload_n 3, 1) := by decide +kernel
theorem dL_law_814 : decode cL_law 814 = .ok (.iconst 1, 1) := by decide +kernel
theorem dL_law_815 : decode cL_law 815 = .ok (.iadd, 1) := by decide +kernel
theorem dL_law_816 : decode cL_law 816 = .ok (.iaload, 1) := by decide +kernel
theorem dL_law_817 : decode cL_law 817 = .ok (.aload_n 0, 1) := by decide +kernel
theorem dL_law_818 : decode cL_law 818 = .ok (.iload_n 3, 1) := by decide +kernel
theorem dL_law_819 : decode cL_law 819 = .ok (.iconst 2, 1) := by decide +kernel
theorem dL_law_820 : decode cL_law 820 = .ok (.iadd, 1) := by decide +kernel
theorem dL_law_821 : decode cL_law 821 = .ok (.iaload, 1) := by decide +kernel
theorem dL_law_822 : decode cL_law 822 = .ok (.aload_n 0, 1) := by decide +kernel
theorem dL_law_823 : decode cL_law 823 = .ok (.iload_n 3, 1) := by decide +kernel
theorem dL_law_824 : decode cL_law 824 = .ok (.iconst 3, 1) := by decide +kernel
theorem dL_law_825 : decode cL_law 825 = .ok (.iadd, 1) := by decide +kernel
theorem dL_law_826 : decode cL_law 826 = .ok (.iaload, 1) := by decide +kernel
theorem dL_law_827 : decode cL_law 827 = .ok (.invokevirtual 100, 3) := by decide +kernel
theorem dL_law_830 : decode cL_law 830 = .ok (.if_icmp .eq 557, 3) := by decide +kernel
theorem dL_law_833 : decode cL_law 833 = .ok (.iconst 0, 1) := by decide +kernel
theorem dL_law_834 : decode cL_law 834 = .ok (.ireturn, 1) := by decide +kernel
theorem dL_law_835 : decode cL_law 835 = .ok (.aload_n 1, 1) := by decide +kernel
theorem dL_law_836 : decode cL_law 836 = .ok (.aload_n 0, 1) := by decide +kernel
theorem dL_law_837 : decode cL_law 837 = .ok (.iload_n 3, 1) := by decide +kernel
theorem dL_law_838 : decode cL_law 838 = .ok (.iconst 1, 1) := by decide +kernel
theorem dL_law_839 : decode cL_law 839 = .ok (.iadd, 1) := by decide +kernel
theorem dL_law_840 : decode cL_law 840 = .ok (.iaload, 1) := by decide +kernel
theorem dL_law_841 : decode cL_law 841 = .ok (.aload_n 0, 1) := by decide +kernel
theorem dL_law_842 : decode cL_law 842 = .ok (.iload_n 3, 1) := by decide +kernel
theorem dL_law_843 : decode cL_law 843 = .ok (.iconst 2, 1) := by decide +kernel
theorem dL_law_844 : decode cL_law 844 = .ok (.iadd, 1) := by decide +kernel
theorem dL_law_845 : decode cL_law 845 = .ok (.iaload, 1) := by decide +kernel
theorem dL_law_846 : decode cL_law 846 = .ok (.aload_n 0, 1) := by decide +kernel
theorem dL_law_847 : decode cL_law 847 = .ok (.iload_n 3, 1) := by decide +kernel
theorem dL_law_848 : decode cL_law 848 = .ok (.iconst 3, 1) := by decide +kernel
theorem dL_law_849 : decode cL_law 849 = .ok (.iadd, 1) := by decide +kernel
theorem dL_law_850 : decode cL_law 850 = .ok (.iaload, 1) := by decide +kernel
theorem dL_law_851 : decode cL_law 851 = .ok (.invokevirtual 101, 3) := by decide +kernel
theorem dL_law_854 : decode cL_law 854 = .ok (.aload_n 2, 1) := by decide +kernel
theorem dL_law_855 : decode cL_law 855 = .ok (.aload_n 0, 1) := by decide +kernel
theorem dL_law_856 : decode cL_law 856 = .ok (.iload_n 3, 1) := by decide +kernel
theorem dL_law_857 : decode cL_law 857 = .ok (.iconst 1, 1) := by decide +kernel
theorem dL_law_858 : decode cL_law 858 = .ok (.iadd, 1) := by decide +kernel
theorem dL_law_859 : decode cL_law 859 = .ok (.iaload, 1) := by decide +kernel
theorem dL_law_860 : decode cL_law 860 = .ok (.aload_n 0, 1) := by decide +kernel
theorem dL_law_861 : decode cL_law 861 = .ok (.iload_n 3, 1) := by decide +kernel
theorem dL_law_862 : decode cL_law 862 = .ok (.iconst 2, 1) := by decide +kernel
theorem dL_law_863 : decode cL_law 863 = .ok (.iadd, 1) := by decide +kernel
theorem dL_law_864 : decode cL_law 864 = .ok (.iaload, 1) := by decide +kernel
theorem dL_law_865 : decode cL_law 865 = .ok (.aload_n 0, 1) := by decide +kernel
theorem dL_law_866 : decode cL_law 866 = .ok (.iload_n 3, 1) := by decide +kernel
theorem dL_law_867 : decode cL_law 867 = .ok (.iconst 3, 1) := by decide +kernel
theorem dL_law_868 : decode cL_law 868 = .ok (.iadd, 1) := by decide +kernel
theorem dL_law_869 : decode cL_law 869 = .ok (.iaload, 1) := by decide +kernel
theorem dL_law_870 : decode cL_law 870 = .ok (.invokevirtual 104, 3) := by decide +kernel
theorem dL_law_873 : decode cL_law 873 = .ok (.if_icmp .eq 514, 3) := by decide +kernel
theorem dL_law_876 : decode cL_law 876 = .ok (.iconst 0, 1) := by decide +kernel
theorem dL_law_877 : decode cL_law 877 = .ok (.ireturn, 1) := by decide +kernel
theorem dL_law_878 : decode cL_law 878 = .ok (.aload_n 1, 1) := by decide +kernel
theorem dL_law_879 : decode cL_law 879 = .ok (.aload_n 0, 1) := by decide +kernel
theorem dL_law_880 : decode cL_law 880 = .ok (.iload_n 3, 1) := by decide +kernel
theorem dL_law_881 : decode cL_law 881 = .ok (.iconst 1, 1) := by decide +kernel
theorem dL_law_882 : decode cL_law 882 = .ok (.iadd, 1) := by decide +kernel
theorem dL_law_883 : decode cL_law 883 = .ok (.iaload, 1) := by decide +kernel
theorem dL_law_884 : decode cL_law 884 = .ok (.aload_n 0, 1) := by decide +kernel
theorem dL_law_885 : decode cL_law 885 = .ok (.iload_n 3, 1) := by decide +kernel
theorem dL_law_886 : decode cL_law 886 = .ok (.iconst 2, 1) := by decide +kernel
theorem dL_law_887 : decode cL_law 887 = .ok (.iadd, 1) := by decide +kernel
theorem dL_law_888 : decode cL_law 888 = .ok (.iaload, 1) := by decide +kernel
theorem dL_law_889 : decode cL_law 889 = .ok (.aload_n 0, 1) := by decide +kernel
theorem dL_law_890 : decode cL_law 890 = .ok (.iload_n 3, 1) := by decide +kernel
theorem dL_law_891 : decode cL_law 891 = .ok (.iconst 3, 1) := by decide +kernel
theorem dL_law_892 : decode cL_law 892 = .ok (.iadd, 1) := by decide +kernel
theorem dL_law_893 : decode cL_law 893 = .ok (.iaload, 1) := by decide +kernel
theorem dL_law_894 : decode cL_law 894 = .ok (.invokevirtual 105, 3) := by decide +kernel
theorem dL_law_897 : decode cL_law 897 = .ok (.aload_n 2, 1) := by decide +kernel
theorem dL_law_898 : decode cL_law 898 = .ok (.aload_n 0, 1) := by decide +kernel
theorem dL_law_899 : decode cL_law 899 = .ok (.iload_n 3, 1) := by decide +kernel
theorem dL_law_900 : decode cL_law 900 = .ok (.iconst 1, 1) := by decide +kernel
theorem dL_law_901 : decode cL_law 901 = .ok (.iadd, 1) := by decide +kernel
theorem dL_law_902 : decode cL_law 902 = .ok (.iaload, 1) := by decide +kernel
theorem dL_law_903 : decode cL_law 903 = .ok (.aload_n 0, 1) := by decide +kernel
theorem dL_law_904 : decode cL_law 904 = .ok (.iload_n 3, 1) := by decide +kernel
theorem dL_law_905 : decode cL_law 905 = .ok (.iconst 2, 1) := by decide +kernel
theorem dL_law_906 : decode cL_law 906 = .ok (.iadd, 1) := by decide +kernel
theorem dL_law_907 : decode cL_law 907 = .ok (.iaload, 1) := by decide +kernel
theorem dL_law_908 : decode cL_law 908 = .ok (.aload_n 0, 1) := by decide +kernel
theorem dL_law_909 : decode cL_law 909 = .ok (.iload_n 3, 1) := by decide +kernel
theorem dL_law_910 : decode cL_law 910 = .ok (.iconst 3, 1) := by decide +kernel
theorem dL_law_911 : decode cL_law 911 = .ok (.iadd, 1) := by decide +kernel
theorem dL_law_912 : decode cL_law 912 = .ok (.iaload, 1) := by decide +kernel
theorem dL_law_913 : decode cL_law 913 = .ok (.invokevirtual 108, 3) := by decide +kernel
theorem dL_law_916 : decode cL_law 916 = .ok (.if_icmp .eq 471, 3) := by decide +kernel
theorem dL_law_919 : decode cL_law 919 = .ok (.iconst 0, 1) := by decide +kernel
theorem dL_law_920 : decode cL_law 920 = .ok (.ireturn, 1) := by decide +kernel
theorem dL_law_921 : decode cL_law 921 = .ok (.aload_n 1, 1) := by decide +kernel
theorem dL_law_922 : decode cL_law 922 = .ok (.aload_n 0, 1) := by decide +kernel
theorem dL_law_923 : decode cL_law 923 = .ok (.iload_n 3, 1) := by decide +kernel
theorem dL_law_924 : decode cL_law 924 = .ok (.iconst 1, 1) := by decide +kernel
theorem dL_law_925 : decode cL_law 925 = .ok (.iadd, 1) := by decide +kernel
theorem dL_law_926 : decode cL_law 926 = .ok (.iaload, 1) := by decide +kernel
theorem dL_law_927 : decode cL_law 927 = .ok (.aload_n 0, 1) := by decide +kernel
theorem dL_law_928 : decode cL_law 928 = .ok (.iload_n 3, 1) := by decide +kernel
theorem dL_law_929 : decode cL_law 929 = .ok (.iconst 2, 1) := by decide +kernel
theorem dL_law_930 : decode cL_law 930 = .ok (.iadd, 1) := by decide +kernel
theorem dL_law_931 : decode cL_law 931 = .ok (.iaload, 1) := by decide +kernel
theorem dL_law_932 : decode cL_law 932 = .ok (.invokevirtual 109, 3) := by decide +kernel
theorem dL_law_935 : decode cL_law 935 = .ok (.aload_n 2, 1) := by decide +kernel
theorem dL_law_936 : decode cL_law 936 = .ok (.aload_n 0, 1) := by decide +kernel
theorem dL_law_937 : decode cL_law 937 = .ok (.iload_n 3, 1) := by decide +kernel
theorem dL_law_938 : decode cL_law 938 = .ok (.iconst 1, 1) := by decide +kernel
theorem dL_law_939 : decode cL_law 939 = .ok (.iadd, 1) := by decide +kernel
theorem dL_law_940 : decode cL_law 940 = .ok (.iaload, 1) := by decide +kernel
theorem dL_law_941 : decode cL_law 941 = .ok (.aload_n 0, 1) := by decide +kernel
theorem dL_law_942 : decode cL_law 942 = .ok (.iload_n 3, 1) := by decide +kernel
theorem dL_law_943 : decode cL_law 943 = .ok (.iconst 2, 1) := by decide +kernel
theorem dL_law_944 : decode cL_law 944 = .ok (.iadd, 1) := by decide +kernel
theorem dL_law_945 : decode cL_law 945 = .ok (.iaload, 1) := by decide +kernel
theorem dL_law_946 : decode cL_law 946 = .ok (.invokevirtual 112, 3) := by decide +kernel
theorem dL_law_949 : decode cL_law 949 = .ok (.if_icmp .eq 438, 3) := by decide +kernel
theorem dL_law_952 : decode cL_law 952 = .ok (.iconst 0, 1) := by decide +kernel
theorem dL_law_953 : decode cL_law 953 = .ok (.ireturn, 1) := by decide +kernel
theorem dL_law_954 : decode cL_law 954 = .ok (.aload_n 1, 1) := by decide +kernel
theorem dL_law_955 : decode cL_law 955 = .ok (.aload_n 0, 1) := by decide +kernel
theorem dL_law_956 : decode cL_law 956 = .ok (.iload_n 3, 1) := by decide +kernel
theorem dL_law_957 : decode cL_law 957 = .ok (.iconst 1, 1) := by decide +kernel
theorem dL_law_958 : decode cL_law 958 = .ok (.iadd, 1) := by decide +kernel
theorem dL_law_959 : decode cL_law 959 = .ok (.iaload, 1) := by decide +kernel
theorem dL_law_960 : decode cL_law 960 = .ok (.aload_n 0, 1) := by decide +kernel
theorem dL_law_961 : decode cL_law 961 = .ok (.iload_n 3, 1) := by decide +kernel
theorem dL_law_962 : decode cL_law 962 = .ok (.iconst 2, 1) := by decide +kernel
theorem dL_law_963 : decode cL_law 963 = .ok (.iadd, 1) := by decide +kernel
theorem dL_law_964 : decode cL_law 964 = .ok (.iaload, 1) := by decide +kernel
theorem dL_law_965 : decode cL_law 965 = .ok (.aload_n 0, 1) := by decide +kernel
theorem dL_law_966 : decode cL_law 966 = .ok (.iload_n 3, 1) := by decide +kernel
theorem dL_law_967 : decode cL_law 967 = .ok (.iconst 3, 1) := by decide +kernel
theorem dL_law_968 : decode cL_law 968 = .ok (.iadd, 1) := by decide +kernel
theorem dL_law_969 : decode cL_law 969 = .ok (.iaload, 1) := by decide +kernel
theorem dL_law_970 : decode cL_law 970 = .ok (.invokevirtual 113, 3) := by decide +kernel
theorem dL_law_973 : decode cL_law 973 = .ok (.aload_n 2, 1) := by decide +kernel
theorem dL_law_974 : decode cL_law 974 = .ok (.aload_n 0, 1) := by decide +kernel
theorem dL_law_975 : decode cL_law 975 = .ok (.iload_n 3, 1) := by decide +kernel
theorem dL_law_976 : decode cL_law 976 = .ok (.iconst 1, 1) := by decide +kernel
theorem dL_law_977 : decode cL_law 977 = .ok (.iadd, 1) := by decide +kernel
theorem dL_law_978 : decode cL_law 978 = .ok (.iaload, 1) := by decide +kernel
theorem dL_law_979 : decode cL_law 979 = .ok (.aload_n 0, 1) := by decide +kernel
theorem dL_law_980 : decode cL_law 980 = .ok (.iload_n 3, 1) := by decide +kernel
theorem dL_law_981 : decode cL_law 981 = .ok (.iconst 2, 1) := by decide +kernel
theorem dL_law_982 : decode cL_law 982 = .ok (.iadd, 1) := by decide +kernel
theorem dL_law_983 : decode cL_law 983 = .ok (.iaload, 1) := by decide +kernel
theorem dL_law_984 : decode cL_law 984 = .ok (.aload_n 0, 1) := by decide +kernel
theorem dL_law_985 : decode cL_law 985 = .ok (.iload_n 3, 1) := by decide +kernel
theorem dL_law_986 : decode cL_law 986 = .ok (.iconst 3, 1) := by decide +kernel
theorem dL_law_987 : decode cL_law 987 = .ok (.iadd, 1) := by decide +kernel
theorem dL_law_988 : decode cL_law 988 = .ok (.iaload, 1) := by decide +kernel
theorem dL_law_989 : decode cL_law 989 = .ok (.invokevirtual 116, 3) := by decide +kernel
theorem dL_law_992 : decode cL_law 992 = .ok (.if_icmp .eq 395, 3) := by decide +kernel
theorem dL_law_995 : decode cL_law 995 = .ok (.iconst 0, 1) := by decide +kernel
theorem dL_law_996 : decode cL_law 996 = .ok (.ireturn, 1) := by decide +kernel
theorem dL_law_997 : decode cL_law 997 = .ok (.aload_n 1, 1) := by decide +kernel
theorem dL_law_998 : decode cL_law 998 = .ok (.aload_n 0, 1) := by decide +kernel
theorem dL_law_999 : decode cL_law 999 = .ok (.iload_n 3, 1) := by decide +kernel
theorem dL_law_1000 : decode cL_law 1000 = .ok (.iconst 1, 1) := by decide +kernel
theorem dL_law_1001 : decode cL_law 1001 = .ok (.iadd, 1) := by decide +kernel
theorem dL_law_1002 : decode cL_law 1002 = .ok (.iaload, 1) := by decide +kernel
theorem dL_law_1003 : decode cL_law 1003 = .ok (.aload_n 0, 1) := by decide +kernel
theorem dL_law_1004 : decode cL_law 1004 = .ok (.iload_n 3, 1) := by decide +kernel
theorem dL_law_1005 : decode cL_law 1005 = .ok (.iconst 2, 1) := by decide +kernel
theorem dL_law_1006 : decode cL_law 1006 = .ok (.iadd, 1) := by decide +kernel
theorem dL_law_1007 : decode cL_law 1007 = .ok (.iaload, 1) := by decide +kernel
theorem dL_law_1008 : decode cL_law 1008 = .ok (.aload_n 0, 1) := by decide +kernel
theorem dL_law_1009 : decode cL_law 1009 = .ok (.iload_n 3, 1) := by decide +kernel
theorem dL_law_1010 : decode cL_law 1010 = .ok (.iconst 3, 1) := by decide +kernel
theorem dL_law_1011 : decode cL_law 1011 = .ok (.iadd, 1) := by decide +kernel
theorem dL_law_1012 : decode cL_law 1012 = .ok (.iaload, 1) := by decide +kernel
theorem dL_law_1013 : decode cL_law 1013 = .ok (.aload_n 0, 1) := by decide +kernel
theorem dL_law_1014 : decode cL_law 1014 = .ok (.iload_n 3, 1) := by decide +kernel
theorem dL_law_1015 : decode cL_law 1015 = .ok (.iconst 4, 1) := by decide +kernel
theorem dL_law_1016 : decode cL_law 1016 = .ok (.iadd, 1) := by decide +kernel
theorem dL_law_1017 : decode cL_law 1017 = .ok (.iaload, 1) := by decide +kernel
theorem dL_law_1018 : decode cL_law 1018 = .ok (.invokevirtual 117, 3) := by decide +kernel
theorem dL_law_1021 : decode cL_law 1021 = .ok (.aload_n 2, 1) := by decide +kernel
theorem dL_law_1022 : decode cL_law 1022 = .ok (.aload_n 0, 1) := by decide +kernel
theorem dL_law_1023 : decode cL_law 1023 = .ok (.iload_n 3, 1) := by decide +kernel
theorem dL_law_1024 : decode cL_law 1024 = .ok (.iconst 1, 1) := by decide +kernel
theorem dL_law_1025 : decode cL_law 1025 = .ok (.iadd, 1) := by decide +kernel
theorem dL_law_1026 : decode cL_law 1026 = .ok (.iaload, 1) := by decide +kernel
theorem dL_law_1027 : decode cL_law 1027 = .ok (.aload_n 0, 1) := by decide +kernel
theorem dL_law_1028 : decode cL_law 1028 = .ok (.iload_n 3, 1) := by decide +kernel
theorem dL_law_1029 : decode cL_law 1029 = .ok (.iconst 2, 1) := by decide +kernel
theorem dL_law_1030 : decode cL_law 1030 = .ok (.iadd, 1) := by decide +kernel
theorem dL_law_1031 : decode cL_law 1031 = .ok (.iaload, 1) := by decide +kernel
theorem dL_law_1032 : decode cL_law 1032 = .ok (.aload_n 0, 1) := by decide +kernel
theorem dL_law_1033 : decode cL_law 1033 = .ok (.iload_n 3, 1) := by decide +kernel
theorem dL_law_1034 : decode cL_law 1034 = .ok (.iconst 3, 1) := by decide +kernel
theorem dL_law_1035 : decode cL_law 1035 = .ok (.iadd, 1) := by decide +kernel
theorem dL_law_1036 : decode cL_law 1036 = .ok (.iaload, 1) := by decide +kernel
theorem dL_law_1037 : decode cL_law 1037 = .ok (.aload_n 0, 1) := by decide +kernel
theorem dL_law_1038 : decode cL_law 1038 = .ok (.iload_n 3, 1) := by decide +kernel
theorem dL_law_1039 : decode cL_law 1039 = .ok (.iconst 4, 1) := by decide +kernel
theorem dL_law_1040 : decode cL_law 1040 = .ok (.iadd, 1) := by decide +kernel
theorem dL_law_1041 : decode cL_law 1041 = .ok (.iaload, 1) := by decide +kernel
theorem dL_law_1042 : decode cL_law 1042 = .ok (.invokevirtual 121, 3) := by decide +kernel
theorem dL_law_1045 : decode cL_law 1045 = .ok (.lcmp, 1) := by decide +kernel
theorem dL_law_1046 : decode cL_law 1046 = .ok (.ifCond .eq 341, 3) := by decide +kernel
theorem dL_law_1049 : decode cL_law 1049 = .ok (.iconst 0, 1) := by decide +kernel
theorem dL_law_1050 : decode cL_law 1050 = .ok (.ireturn, 1) := by decide +kernel
theorem dL_law_1051 : decode cL_law 1051 = .ok (.aload_n 1, 1) := by decide +kernel
theorem dL_law_1052 : decode cL_law 1052 = .ok (.aload_n 0, 1) := by decide +kernel
theorem dL_law_1053 : decode cL_law 1053 = .ok (.iload_n 3, 1) := by decide +kernel
theorem dL_law_1054 : decode cL_law 1054 = .ok (.iconst 1, 1) := by decide +kernel
theorem dL_law_1055 : decode cL_law 1055 = .ok (.iadd, 1) := by decide +kernel
theorem dL_law_1056 : decode cL_law 1056 = .ok (.iaload, 1) := by decide +kernel
theorem dL_law_1057 : decode cL_law 1057 = .ok (.invokevirtual 122, 3) := by decide +kernel
theorem dL_law_1060 : decode cL_law 1060 = .ok (.aload_n 2, 1) := by decide +kernel
theorem dL_law_1061 : decode cL_law 1061 = .ok (.aload_n 0, 1) := by decide +kernel
theorem dL_law_1062 : decode cL_law 1062 = .ok (.iload_n 3, 1) := by decide +kernel
theorem dL_law_1063 : decode cL_law 1063 = .ok (.iconst 1, 1) := by decide +kernel
theorem dL_law_1064 : decode cL_law 1064 = .ok (.iadd, 1) := by decide +kernel
theorem dL_law_1065 : decode cL_law 1065 = .ok (.iaload, 1) := by decide +kernel
theorem dL_law_1066 : decode cL_law 1066 = .ok (.invokevirtual 125, 3) := by decide +kernel
theorem dL_law_1069 : decode cL_law 1069 = .ok (.if_icmp .eq 318, 3) := by decide +kernel
theorem dL_law_1072 : decode cL_law 1072 = .ok (.iconst 0, 1) := by decide +kernel
theorem dL_law_1073 : decode cL_law 1073 = .ok (.ireturn, 1) := by decide +kernel
theorem dL_law_1074 : decode cL_law 1074 = .ok (.aload_n 1, 1) := by decide +kernel
theorem dL_law_1075 : decode cL_law 1075 = .ok (.aload_n 0, 1) := by decide +kernel
theorem dL_law_1076 : decode cL_law 1076 = .ok (.iload_n 3, 1) := by decide +kernel
theorem dL_law_1077 : decode cL_law 1077 = .ok (.iconst 1, 1) := by decide +kernel
theorem dL_law_1078 : decode cL_law 1078 = .ok (.iadd, 1) := by decide +kernel
theorem dL_law_1079 : decode cL_law 1079 = .ok (.iaload, 1) := by decide +kernel
theorem dL_law_1080 : decode cL_law 1080 = .ok (.invokevirtual 126, 3) := by decide +kernel
theorem dL_law_1083 : decode cL_law 1083 = .ok (.aload_n 2, 1) := by decide +kernel
theorem dL_law_1084 : decode cL_law 1084 = .ok (.aload_n 0, 1) := by decide +kernel
theorem dL_law_1085 : decode cL_law 1085 = .ok (.iload_n 3, 1) := by decide +kernel
theorem dL_law_1086 : decode cL_law 1086 = .ok (.iconst 1, 1) := by decide +kernel
theorem dL_law_1087 : decode cL_law 1087 = .ok (.iadd, 1) := by decide +kernel
theorem dL_law_1088 : decode cL_law 1088 = .ok (.iaload, 1) := by decide +kernel
theorem dL_law_1089 : decode cL_law 1089 = .ok (.invokevirtual 129, 3) := by decide +kernel
theorem dL_law_1092 : decode cL_law 1092 = .ok (.if_icmp .eq 295, 3) := by decide +kernel
theorem dL_law_1095 : decode cL_law 1095 = .ok (.iconst 0, 1) := by decide +kernel
theorem dL_law_1096 : decode cL_law 1096 = .ok (.ireturn, 1) := by decide +kernel
theorem dL_law_1097 : decode cL_law 1097 = .ok (.aload_n 1, 1) := by decide +kernel
theorem dL_law_1098 : decode cL_law 1098 = .ok (.aload_n 0, 1) := by decide +kernel
theorem dL_law_1099 : decode cL_law 1099 = .ok (.iload_n 3, 1) := by decide +kernel
theorem dL_law_1100 : decode cL_law 1100 = .ok (.iconst 1, 1) := by decide +kernel
theorem dL_law_1101 : decode cL_law 1101 = .ok (.iadd, 1) := by decide +kernel
theorem dL_law_1102 : decode cL_law 1102 = .ok (.iaload, 1) := by decide +kernel
theorem dL_law_1103 : decode cL_law 1103 = .ok (.invokevirtual 130, 3) := by decide +kernel
theorem dL_law_1106 : decode cL_law 1106 = .ok (.aload_n 2, 1) := by decide +kernel
theorem dL_law_1107 : decode cL_law 1107 = .ok (.aload_n 0, 1) := by decide +kernel
theorem dL_law_1108 : decode cL_law 1108 = .ok (.iload_n 3, 1) := by decide +kernel
theorem dL_law_1109 : decode cL_law 1109 = .ok (.iconst 1, 1) := by decide +kernel
theorem dL_law_1110 : decode cL_law 1110 = .ok (.iadd, 1) := by decide +kernel
theorem dL_law_1111 : decode cL_law 1111 = .ok (.iaload, 1) := by decide +kernel
theorem dL_law_1112 : decode cL_law 1112 = .ok (.invokevirtual 133, 3) := by decide +kernel
theorem dL_law_1115 : decode cL_law 1115 = .ok (.if_icmp .eq 272, 3) := by decide +kernel
theorem dL_law_1118 : decode cL_law 1118 = .ok (.iconst 0, 1) := by decide +kernel
theorem dL_law_1119 : decode cL_law 1119 = .ok (.ireturn, 1) := by decide +kernel
theorem dL_law_1120 : decode cL_law 1120 = .ok (.aload_n 1, 1) := by decide +kernel
theorem dL_law_1121 : decode cL_law 1121 = .ok (.aload_n 0, 1) := by decide +kernel
theorem dL_law_1122 : decode cL_law 1122 = .ok (.iload_n 3, 1) := by decide +kernel
theorem dL_law_1123 : decode cL_law 1123 = .ok (.iconst 1, 1) := by decide +kernel
theorem dL_law_1124 : decode cL_law 1124 = .ok (.iadd, 1) := by decide +kernel
theorem dL_law_1125 : decode cL_law 1125 = .ok (.iaload, 1) := by decide +kernel
theorem dL_law_1126 : decode cL_law 1126 = .ok (.invokevirtual 134, 3) := by decide +kernel
theorem dL_law_1129 : decode cL_law 1129 = .ok (.aload_n 2, 1) := by decide +kernel
theorem dL_law_1130 : decode cL_law 1130 = .ok (.aload_n 0, 1) := by decide +kernel
theorem dL_law_1131 : decode cL_law 1131 = .ok (.iload_n 3, 1) := by decide +kernel
theorem dL_law_1132 : decode cL_law 1132 = .ok (.iconst 1, 1) := by decide +kernel
theorem dL_law_1133 : decode cL_law 1133 = .ok (.iadd, 1) := by decide +kernel
theorem dL_law_1134 : decode cL_law 1134 = .ok (.iaload, 1) := by decide +kernel
theorem dL_law_1135 : decode cL_law 1135 = .ok (.invokevirtual 138, 3) := by decide +kernel
theorem dL_law_1138 : decode cL_law 1138 = .ok (.lcmp, 1) := by decide +kernel
theorem dL_law_1139 : decode cL_law 1139 = .ok (.ifCond .eq 248, 3) := by decide +kernel
theorem dL_law_1142 : decode cL_law 1142 = .ok (.iconst 0, 1) := by decide +kernel
theorem dL_law_1143 : decode cL_law 1143 = .ok (.ireturn, 1) := by decide +kernel
theorem dL_law_1144 : decode cL_law 1144 = .ok (.aload_n 1, 1) := by decide +kernel
theorem dL_law_1145 : decode cL_law 1145 = .ok (.aload_n 0, 1) := by decide +kernel
theorem dL_law_1146 : decode cL_law 1146 = .ok (.iload_n 3, 1) := by decide +kernel
theorem dL_law_1147 : decode cL_law 1147 = .ok (.iconst 1, 1) := by decide +kernel
theorem dL_law_1148 : decode cL_law 1148 = .ok (.iadd, 1) := by decide +kernel
theorem dL_law_1149 : decode cL_law 1149 = .ok (.iaload, 1) := by decide +kernel
theorem dL_law_1150 : decode cL_law 1150 = .ok (.invokevirtual 139, 3) := by decide +kernel
theorem dL_law_1153 : decode cL_law 1153 = .ok (.aload_n 2, 1) := by decide +kernel
theorem dL_law_1154 : decode cL_law 1154 = .ok (.aload_n 0, 1) := by decide +kernel
theorem dL_law_1155 : decode cL_law 1155 = .ok (.iload_n 3, 1) := by decide +kernel
theorem dL_law_1156 : decode cL_law 1156 = .ok (.iconst 1, 1) := by decide +kernel
theorem dL_law_1157 : decode cL_law 1157 = .ok (.iadd, 1) := by decide +kernel
theorem dL_law_1158 : decode cL_law 1158 = .ok (.iaload, 1) := by decide +kernel
theorem dL_law_1159 : decode cL_law 1159 = .ok (.invokevirtual 142, 3) := by decide +kernel
theorem dL_law_1162 : decode cL_law 1162 = .ok (.if_icmp .eq 225, 3) := by decide +kernel
theorem dL_law_1165 : decode cL_law 1165 = .ok (.iconst 0, 1) := by decide +kernel
theorem dL_law_1166 : decode cL_law 1166 = .ok (.ireturn, 1) := by decide +kernel
theorem dL_law_1167 : decode cL_law 1167 = .ok (.aload_n 1, 1) := by decide +kernel
theorem dL_law_1168 : decode cL_law 1168 = .ok (.aload_n 0, 1) := by decide +kernel
theorem dL_law_1169 : decode cL_law 1169 = .ok (.iload_n 3, 1) := by decide +kernel
theorem dL_law_1170 : decode cL_law 1170 = .ok (.iconst 1, 1) := by decide +kernel
theorem dL_law_1171 : decode cL_law 1171 = .ok (.iadd, 1) := by decide +kernel
theorem dL_law_1172 : decode cL_law 1172 = .ok (.iaload, 1) := by decide +kernel
theorem dL_law_1173 : decode cL_law 1173 = .ok (.invokevirtual 143, 3) := by decide +kernel
theorem dL_law_1176 : decode cL_law 1176 = .ok (.aload_n 2, 1) := by decide +kernel
theorem dL_law_1177 : decode cL_law 1177 = .ok (.aload_n 0, 1) := by decide +kernel
theorem dL_law_1178 : decode cL_law 1178 = .ok (.iload_n 3, 1) := by decide +kernel
theorem dL_law_1179 : decode cL_law 1179 = .ok (.iconst 1, 1) := by decide +kernel
theorem dL_law_1180 : decode cL_law 1180 = .ok (.iadd, 1) := by decide +kernel
theorem dL_law_1181 : decode cL_law 1181 = .ok (.iaload, 1) := by decide +kernel
theorem dL_law_1182 : decode cL_law 1182 = .ok (.invokevirtual 146, 3) := by decide +kernel
theorem dL_law_1185 : decode cL_law 1185 = .ok (.if_icmp .eq 202, 3) := by decide +kernel
theorem dL_law_1188 : decode cL_law 1188 = .ok (.iconst 0, 1) := by decide +kernel
theorem dL_law_1189 : decode cL_law 1189 = .ok (.ireturn, 1) := by decide +kernel
theorem dL_law_1190 : decode cL_law 1190 = .ok (.aload_n 1, 1) := by decide +kernel
theorem dL_law_1191 : decode cL_law 1191 = .ok (.aload_n 0, 1) := by decide +kernel
theorem dL_law_1192 : decode cL_law 1192 = .ok (.iload_n 3, 1) := by decide +kernel
theorem dL_law_1193 : decode cL_law 1193 = .ok (.iconst 1, 1) := by decide +kernel
theorem dL_law_1194 : decode cL_law 1194 = .ok (.iadd, 1) := by decide +kernel
theorem dL_law_1195 : decode cL_law 1195 = .ok (.iaload, 1) := by decide +kernel
theorem dL_law_1196 : decode cL_law 1196 = .ok (.aload_n 0, 1) := by decide +kernel
theorem dL_law_1197 : decode cL_law 1197 = .ok (.iload_n 3, 1) := by decide +kernel
theorem dL_law_1198 : decode cL_law 1198 = .ok (.iconst 2, 1) := by decide +kernel
theorem dL_law_1199 : decode cL_law 1199 = .ok (.iadd, 1) := by decide +kernel
theorem dL_law_1200 : decode cL_law 1200 = .ok (.iaload, 1) := by decide +kernel
theorem dL_law_1201 : decode cL_law 1201 = .ok (.invokevirtual 147, 3) := by decide +kernel
theorem dL_law_1204 : decode cL_law 1204 = .ok (.aload_n 2, 1) := by decide +kernel
theorem dL_law_1205 : decode cL_law 1205 = .ok (.aload_n 0, 1) := by decide +kernel
theorem dL_law_1206 : decode cL_law 1206 = .ok (.iload_n 3, 1) := by decide +kernel
theorem dL_law_1207 : decode cL_law 1207 = .ok (.iconst 1, 1) := by decide +kernel
theorem dL_law_1208 : decode cL_law 1208 = .ok (.iadd, 1) := by decide +kernel
theorem dL_law_1209 : decode cL_law 1209 = .ok (.iaload, 1) := by decide +kernel
theorem dL_law_1210 : decode cL_law 1210 = .ok (.aload_n 0, 1) := by decide +kernel
theorem dL_law_1211 : decode cL_law 1211 = .ok (.iload_n 3, 1) := by decide +kernel
theorem dL_law_1212 : decode cL_law 1212 = .ok (.iconst 2, 1) := by decide +kernel
theorem dL_law_1213 : decode cL_law 1213 = .ok (.iadd, 1) := by decide +kernel
theorem dL_law_1214 : decode cL_law 1214 = .ok (.iaload, 1) := by decide +kernel
theorem dL_law_1215 : decode cL_law 1215 = .ok (.invokevirtual 150, 3) := by decide +kernel
theorem dL_law_1218 : decode cL_law 1218 = .ok (.if_icmp .eq 169, 3) := by decide +kernel
theorem dL_law_1221 : decode cL_law 1221 = .ok (.iconst 0, 1) := by decide +kernel
theorem dL_law_1222 : decode cL_law 1222 = .ok (.ireturn, 1) := by decide +kernel
theorem dL_law_1223 : decode cL_law 1223 = .ok (.aload_n 1, 1) := by decide +kernel
theorem dL_law_1224 : decode cL_law 1224 = .ok (.aload_n 0, 1) := by decide +kernel
theorem dL_law_1225 : decode cL_law 1225 = .ok (.iload_n 3, 1) := by decide +kernel
theorem dL_law_1226 : decode cL_law 1226 = .ok (.iconst 1, 1) := by decide +kernel
theorem dL_law_1227 : decode cL_law 1227 = .ok (.iadd, 1) := by decide +kernel
theorem dL_law_1228 : decode cL_law 1228 = .ok (.iaload, 1) := by decide +kernel
theorem dL_law_1229 : decode cL_law 1229 = .ok (.invokevirtual 151, 3) := by decide +kernel
theorem dL_law_1232 : decode cL_law 1232 = .ok (.aload_n 2, 1) := by decide +kernel
theorem dL_law_1233 : decode cL_law 1233 = .ok (.aload_n 0, 1) := by decide +kernel
theorem dL_law_1234 : decode cL_law 1234 = .ok (.iload_n 3, 1) := by decide +kernel
theorem dL_law_1235 : decode cL_law 1235 = .ok (.iconst 1, 1) := by decide +kernel
theorem dL_law_1236 : decode cL_law 1236 = .ok (.iadd, 1) := by decide +kernel
theorem dL_law_1237 : decode cL_law 1237 = .ok (.iaload, 1) := by decide +kernel
theorem dL_law_1238 : decode cL_law 1238 = .ok (.invokevirtual 154, 3) := by decide +kernel
theorem dL_law_1241 : decode cL_law 1241 = .ok (.if_icmp .eq 146, 3) := by decide +kernel
theorem dL_law_1244 : decode cL_law 1244 = .ok (.iconst 0, 1) := by decide +kernel
theorem dL_law_1245 : decode cL_law 1245 = .ok (.ireturn, 1) := by decide +kernel
theorem dL_law_1246 : decode cL_law 1246 = .ok (.aload_n 1, 1) := by decide +kernel
theorem dL_law_1247 : decode cL_law 1247 = .ok (.aload_n 0, 1) := by decide +kernel
theorem dL_law_1248 : decode cL_law 1248 = .ok (.iload_n 3, 1) := by decide +kernel
theorem dL_law_1249 : decode cL_law 1249 = .ok (.iconst 1, 1) := by decide +kernel
theorem dL_law_1250 : decode cL_law 1250 = .ok (.iadd, 1) := by decide +kernel
theorem dL_law_1251 : decode cL_law 1251 = .ok (.iaload, 1) := by decide +kernel
theorem dL_law_1252 : decode cL_law 1252 = .ok (.invokevirtual 155, 3) := by decide +kernel
theorem dL_law_1255 : decode cL_law 1255 = .ok (.aload_n 2, 1) := by decide +kernel
theorem dL_law_1256 : decode cL_law 1256 = .ok (.aload_n 0, 1) := by decide +kernel
theorem dL_law_1257 : decode cL_law 1257 = .ok (.iload_n 3, 1) := by decide +kernel
theorem dL_law_1258 : decode cL_law 1258 = .ok (.iconst 1, 1) := by decide +kernel
theorem dL_law_1259 : decode cL_law 1259 = .ok (.iadd, 1) := by decide +kernel
theorem dL_law_1260 : decode cL_law 1260 = .ok (.iaload, 1) := by decide +kernel
theorem dL_law_1261 : decode cL_law 1261 = .ok (.invokevirtual 158, 3) := by decide +kernel
theorem dL_law_1264 : decode cL_law 1264 = .ok (.if_icmp .eq 123, 3) := by decide +kernel
theorem dL_law_1267 : decode cL_law 1267 = .ok (.iconst 0, 1) := by decide +kernel
theorem dL_law_1268 : decode cL_law 1268 = .ok (.ireturn, 1) := by decide +kernel
theorem dL_law_1269 : decode cL_law 1269 = .ok (.aload_n 1, 1) := by decide +kernel
theorem dL_law_1270 : decode cL_law 1270 = .ok (.invokevirtual 159, 3) := by decide +kernel
theorem dL_law_1273 : decode cL_law 1273 = .ok (.aload_n 2, 1) := by decide +kernel
theorem dL_law_1274 : decode cL_law 1274 = .ok (.invokevirtual 162, 3) := by decide +kernel
theorem dL_law_1277 : decode cL_law 1277 = .ok (.if_icmp .eq 110, 3) := by decide +kernel
theorem dL_law_1280 : decode cL_law 1280 = .ok (.iconst 0, 1) := by decide +kernel
theorem dL_law_1281 : decode cL_law 1281 = .ok (.ireturn, 1) := by decide +kernel
theorem dL_law_1282 : decode cL_law 1282 = .ok (.aload_n 1, 1) := by decide +kernel
theorem dL_law_1283 : decode cL_law 1283 = .ok (.invokevirtual 163, 3) := by decide +kernel
theorem dL_law_1286 : decode cL_law 1286 = .ok (.aload_n 2, 1) := by decide +kernel
theorem dL_law_1287 : decode cL_law 1287 = .ok (.invokevirtual 166, 3) := by decide +kernel
theorem dL_law_1290 : decode cL_law 1290 = .ok (.if_icmp .eq 97, 3) := by decide +kernel
theorem dL_law_1293 : decode cL_law 1293 = .ok (.iconst 0, 1) := by decide +kernel
theorem dL_law_1294 : decode cL_law 1294 = .ok (.ireturn, 1) := by decide +kernel
theorem dL_law_1295 : decode cL_law 1295 = .ok (.aload_n 1, 1) := by decide +kernel
theorem dL_law_1296 : decode cL_law 1296 = .ok (.aload_n 0, 1) := by decide +kernel
theorem dL_law_1297 : decode cL_law 1297 = .ok (.iload_n 3, 1) := by decide +kernel
theorem dL_law_1298 : decode cL_law 1298 = .ok (.iconst 1, 1) := by decide +kernel
theorem dL_law_1299 : decode cL_law 1299 = .ok (.iadd, 1) := by decide +kernel
theorem dL_law_1300 : decode cL_law 1300 = .ok (.iaload, 1) := by decide +kernel
theorem dL_law_1301 : decode cL_law 1301 = .ok (.aload_n 0, 1) := by decide +kernel
theorem dL_law_1302 : decode cL_law 1302 = .ok (.iload_n 3, 1) := by decide +kernel
theorem dL_law_1303 : decode cL_law 1303 = .ok (.iconst 2, 1) := by decide +kernel
theorem dL_law_1304 : decode cL_law 1304 = .ok (.iadd, 1) := by decide +kernel
theorem dL_law_1305 : decode cL_law 1305 = .ok (.iaload, 1) := by decide +kernel
theorem dL_law_1306 : decode cL_law 1306 = .ok (.aload_n 0, 1) := by decide +kernel
theorem dL_law_1307 : decode cL_law 1307 = .ok (.iload_n 3, 1) := by decide +kernel
theorem dL_law_1308 : decode cL_law 1308 = .ok (.iconst 3, 1) := by decide +kernel
theorem dL_law_1309 : decode cL_law 1309 = .ok (.iadd, 1) := by decide +kernel
theorem dL_law_1310 : decode cL_law 1310 = .ok (.iaload, 1) := by decide +kernel
theorem dL_law_1311 : decode cL_law 1311 = .ok (.invokevirtual 167, 3) := by decide +kernel
theorem dL_law_1314 : decode cL_law 1314 = .ok (.aload_n 2, 1) := by decide +kernel
theorem dL_law_1315 : decode cL_law 1315 = .ok (.aload_n 0, 1) := by decide +kernel
theorem dL_law_1316 : decode cL_law 1316 = .ok (.iload_n 3, 1) := by decide +kernel
theorem dL_law_1317 : decode cL_law 1317 = .ok (.iconst 1, 1) := by decide +kernel
theorem dL_law_1318 : decode cL_law 1318 = .ok (.iadd, 1) := by decide +kernel
theorem dL_law_1319 : decode cL_law 1319 = .ok (.iaload, 1) := by decide +kernel
theorem dL_law_1320 : decode cL_law 1320 = .ok (.aload_n 0, 1) := by decide +kernel
theorem dL_law_1321 : decode cL_law 1321 = .ok (.iload_n 3, 1) := by decide +kernel
theorem dL_law_1322 : decode cL_law 1322 = .ok (.iconst 2, 1) := by decide +kernel
theorem dL_law_1323 : decode cL_law 1323 = .ok (.iadd, 1) := by decide +kernel
theorem dL_law_1324 : decode cL_law 1324 = .ok (.iaload, 1) := by decide +kernel
theorem dL_law_1325 : decode cL_law 1325 = .ok (.aload_n 0, 1) := by decide +kernel
theorem dL_law_1326 : decode cL_law 1326 = .ok (.iload_n 3, 1) := by decide +kernel
theorem dL_law_1327 : decode cL_law 1327 = .ok (.iconst 3, 1) := by decide +kernel
theorem dL_law_1328 : decode cL_law 1328 = .ok (.iadd, 1) := by decide +kernel
theorem dL_law_1329 : decode cL_law 1329 = .ok (.iaload, 1) := by decide +kernel
theorem dL_law_1330 : decode cL_law 1330 = .ok (.invokevirtual 170, 3) := by decide +kernel
theorem dL_law_1333 : decode cL_law 1333 = .ok (.if_icmp .eq 54, 3) := by decide +kernel
theorem dL_law_1336 : decode cL_law 1336 = .ok (.iconst 0, 1) := by decide +kernel
theorem dL_law_1337 : decode cL_law 1337 = .ok (.ireturn, 1) := by decide +kernel
theorem dL_law_1338 : decode cL_law 1338 = .ok (.aload_n 1, 1) := by decide +kernel
theorem dL_law_1339 : decode cL_law 1339 = .ok (.invokevirtual 171, 3) := by decide +kernel
theorem dL_law_1342 : decode cL_law 1342 = .ok (.aload_n 2, 1) := by decide +kernel
theorem dL_law_1343 : decode cL_law 1343 = .ok (.invokevirtual 174, 3) := by decide +kernel
theorem dL_law_1346 : decode cL_law 1346 = .ok (.if_icmp .eq 41, 3) := by decide +kernel
theorem dL_law_1349 : decode cL_law 1349 = .ok (.iconst 0, 1) := by decide +kernel
theorem dL_law_1350 : decode cL_law 1350 = .ok (.ireturn, 1) := by decide +kernel
theorem dL_law_1351 : decode cL_law 1351 = .ok (.aload_n 1, 1) := by decide +kernel
theorem dL_law_1352 : decode cL_law 1352 = .ok (.invokevirtual 175, 3) := by decide +kernel
theorem dL_law_1355 : decode cL_law 1355 = .ok (.aload_n 2, 1) := by decide +kernel
theorem dL_law_1356 : decode cL_law 1356 = .ok (.invokevirtual 178, 3) := by decide +kernel
theorem dL_law_1359 : decode cL_law 1359 = .ok (.if_icmp .eq 28, 3) := by decide +kernel
theorem dL_law_1362 : decode cL_law 1362 = .ok (.iconst 0, 1) := by decide +kernel
theorem dL_law_1363 : decode cL_law 1363 = .ok (.ireturn, 1) := by decide +kernel
theorem dL_law_1364 : decode cL_law 1364 = .ok (.aload_n 1, 1) := by decide +kernel
theorem dL_law_1365 : decode cL_law 1365 = .ok (.aload_n 0, 1) := by decide +kernel
theorem dL_law_1366 : decode cL_law 1366 = .ok (.iload_n 3, 1) := by decide +kernel
theorem dL_law_1367 : decode cL_law 1367 = .ok (.iconst 1, 1) := by decide +kernel
theorem dL_law_1368 : decode cL_law 1368 = .ok (.iadd, 1) := by decide +kernel
theorem dL_law_1369 : decode cL_law 1369 = .ok (.iaload, 1) := by decide +kernel
theorem dL_law_1370 : decode cL_law 1370 = .ok (.invokevirtual 179, 3) := by decide +kernel
theorem dL_law_1373 : decode cL_law 1373 = .ok (.aload_n 2, 1) := by decide +kernel
theorem dL_law_1374 : decode cL_law 1374 = .ok (.aload_n 0, 1) := by decide +kernel
theorem dL_law_1375 : decode cL_law 1375 = .ok (.iload_n 3, 1) := by decide +kernel
theorem dL_law_1376 : decode cL_law 1376 = .ok (.iconst 1, 1) := by decide +kernel
theorem dL_law_1377 : decode cL_law 1377 = .ok (.iadd, 1) := by decide +kernel
theorem dL_law_1378 : decode cL_law 1378 = .ok (.iaload, 1) := by decide +kernel
theorem dL_law_1379 : decode cL_law 1379 = .ok (.invokevirtual 182, 3) := by decide +kernel
theorem dL_law_1382 : decode cL_law 1382 = .ok (.if_icmp .eq 5, 3) := by decide +kernel
theorem dL_law_1385 : decode cL_law 1385 = .ok (.iconst 0, 1) := by decide +kernel
theorem dL_law_1386 : decode cL_law 1386 = .ok (.ireturn, 1) := by decide +kernel
theorem dL_law_1387 : decode cL_law 1387 = .ok (.iinc 3 5, 3) := by decide +kernel
theorem dL_law_1390 : decode cL_law 1390 = .ok (.goto (-1372), 3) := by decide +kernel
theorem dL_law_1393 : decode cL_law 1393 = .ok (.iconst 1, 1) := by decide +kernel
theorem dL_law_1394 : decode cL_law 1394 = .ok (.ireturn, 1) := by decide +kernel
abbrev vwCl : List vw_C := [(RX0, TX0, 11), (RX1, TX1, 2), (RX2, TX2, 4), (RX3, TX3, 3), (RX4, TX4, 9), (RX5, TX5, 33)]
