theorem dX5_newShore_41 : decode cX5_newShore 41 = .ok (.aload_n 0, 1) := by decide +kernel
theorem dX5_newShore_42 : decode cX5_newShore 42 = .ok (.getfield 67, 3) := by decide +kernel
theorem dX5_newShore_45 : decode cX5_newShore 45 = .ok (.bipush 7, 2) := by decide +kernel
theorem dX5_newShore_47 : decode cX5_newShore 47 = .ok (.if_icmp .ne 6, 3) := by decide +kernel
theorem dX5_newShore_50 : decode cX5_newShore 50 = .ok (.bipush (-9), 2) := by decide +kernel
theorem dX5_newShore_52 : decode cX5_newShore 52 = .ok (.ireturn, 1) := by decide +kernel
theorem dX5_newShore_53 : decode cX5_newShore 53 = .ok (.bipush (-9), 2) := by decide +kernel
theorem dX5_newShore_55 : decode cX5_newShore 55 = .ok (.istore 5, 2) := by decide +kernel
theorem dX5_newShore_57 : decode cX5_newShore 57 = .ok (.bipush (-9), 2) := by decide +kernel
theorem dX5_newShore_59 : decode cX5_newShore 59 = .ok (.istore 6, 2) := by decide +kernel
theorem dX5_newShore_61 : decode cX5_newShore 61 = .ok (.iconst 0, 1) := by decide +kernel
theorem dX5_newShore_62 : decode cX5_newShore 62 = .ok (.istore 7, 2) := by decide +kernel
theorem dX5_newShore_64 : decode cX5_newShore 64 = .ok (.iload 7, 2) := by decide +kernel
theorem dX5_newShore_66 : decode cX5_newShore 66 = .ok (.bipush 30, 2) := by decide +kernel
theorem dX5_newShore_68 : decode cX5_newShore 68 = .ok (.if_icmp .gt 51, 3) := by decide +kernel
theorem dX5_newShore_71 : decode cX5_newShore 71 = .ok (.aload_n 0, 1) := by decide +kernel
theorem dX5_newShore_72 : decode cX5_newShore 72 = .ok (.iload 7, 2) := by decide +kernel
theorem dX5_newShore_74 : decode cX5_newShore 74 = .ok (.invokevirtual 106, 3) := by decide +kernel
theorem dX5_newShore_77 : decode cX5_newShore 77 = .ok (.ifCond .lt 8, 3) := by decide +kernel
theorem dX5_newShore_80 : decode cX5_newShore 80 = .ok (.bipush (-9), 2) := by decide +kernel
theorem dX5_newShore_82 : decode cX5_newShore 82 = .ok (.goto 11, 3) := by decide +kernel
theorem dX5_newShore_85 : decode cX5_newShore 85 = .ok (.aload_n 0, 1) := by decide +kernel
theorem dX5_newShore_86 : decode cX5_newShore 86 = .ok (.iload_n 1, 1) := by decide +kernel
theorem dX5_newShore_87 : decode cX5_newShore 87 = .ok (.iload 7, 2) := by decide +kernel
theorem dX5_newShore_89 : decode cX5_newShore 89 = .ok (.iload_n 2, 1) := by decide +kernel
theorem dX5_newShore_90 : decode cX5_newShore 90 = .ok (.invokevirtual 247, 3) := by decide +kernel
theorem dX5_newShore_93 : decode cX5_newShore 93 = .ok (.istore 8, 2) := by decide +kernel
theorem dX5_newShore_95 : decode cX5_newShore 95 = .ok (.iload 8, 2) := by decide +kernel
theorem dX5_newShore_97 : decode cX5_newShore 97 = .ok (.iload 6, 2) := by decide +kernel
theorem dX5_newShore_99 : decode cX5_newShore 99 = .ok (.if_icmp .gt 6, 3) := by decide +kernel
theorem dX5_newShore_102 : decode cX5_newShore 102 = .ok (.goto 11, 3) := by decide +kernel
theorem dX5_newShore_105 : decode cX5_newShore 105 = .ok (.iload 7, 2) := by decide +kernel
theorem dX5_newShore_107 : decode cX5_newShore 107 = .ok (.istore 5, 2) := by decide +kernel
theorem dX5_newShore_109 : decode cX5_newShore 109 = .ok (.iload 8, 2) := by decide +kernel
theorem dX5_newShore_111 : decode cX5_newShore 111 = .ok (.istore 6, 2) := by decide +kernel
theorem dX5_newShore_113 : decode cX5_newShore 113 = .ok (.iinc 7 1, 3) := by decide +kernel
theorem dX5_newShore_116 : decode cX5_newShore 116 = .ok (.goto (-52), 3) := by decide +kernel
theorem dX5_newShore_119 : decode cX5_newShore 119 = .ok (.iload_n 3, 1) := by decide +kernel
theorem dX5_newShore_120 : decode cX5_newShore 120 = .ok (.ifCond .ne 8, 3) := by decide +kernel
theorem dX5_newShore_123 : decode cX5_newShore 123 = .ok (.iload 5, 2) := by decide +kernel
theorem dX5_newShore_125 : decode cX5_newShore 125 = .ok (.goto 5, 3) := by decide +kernel
theorem dX5_newShore_128 : decode cX5_newShore 128 = .ok (.iload 6, 2) := by decide +kernel
theorem dX5_newShore_130 : decode cX5_newShore 130 = .ok (.ireturn, 1) := by decide +kernel
set_option maxRecDepth 20000 in
theorem ggX5_isRowSo_X5_thinks : GoodIn wsX5_isRowSo wsX5_thinks := goodIn_r _ [8, 9, 10, 11, 7, 12, 13, 14, 15, 16, 17, 18, 19, 20, 21, 2, 22, 23, 24, 25, 26, 27, 28, 29, 30, 31, 32, 33, 86, 87, 88, 89, 90, 91, 92, 93, 94, 95, 96, 97, 98, 99, 100, 101, 102, 103, 104, 105, 106, 107, 108, 109, 110, 111, 112, 113, 114, 115, 116, 117, 118] (by decide +kernel) (by decide +kernel)
set_option maxRecDepth 20000 in
theorem gX5_isRowSo_X5_thinks : GoodIn wsX5_isRowSo (wsV RX5 210 RX5 yX5_thinks wsX5_thinks) := goodIn_app (goodIn_of _ (by decide +kernel)) ggX5_isRowSo_X5_thinks
set_option maxRecDepth 20000 in
theorem ggX5_isRowSo_X5_goesHour : GoodIn wsX5_isRowSo wsX5_goesHour := goodIn_r _ [37, 23, 20, 18, 17, 24, 19, 38, 39, 40, 7, 41, 42, 43, 44, 45, 21, 2, 46, 47, 48, 49, 50, 51, 52, 15, 16, 53, 54, 55, 56, 57, 58, 59, 60, 61, 62, 63, 64, 65, 66, 67, 68, 69, 70, 22, 71, 72, 73, 74, 75, 76, 77, 78, 79, 80, 81, 86, 87, 88, 89, 90, 91, 92, 93, 94, 95, 96, 97, 98, 99, 100, 101, 102, 103, 104, 105, 106, 107, 108, 109, 110, 111, 112, 113, 114, 115, 116, 117, 118] (by decide +kernel) (by decide +kernel)
set_option maxRecDepth 20000 in
theorem gX5_isRowSo_X5_goesHour : GoodIn wsX5_isRowSo (wsV RX5 197 RX5 yX5_goesHour wsX5_goesHour) := goodIn_app (goodIn_of _ (by decide +kernel)) ggX5_isRowSo_X5_goesHour
set_option maxRecDepth 20000 in
theorem ggX5_isRowSo_X5_forgets : GoodIn wsX5_isRowSo wsX5_forgets := goodIn_r _ [85, 9, 10, 11, 7, 12, 13, 14, 15, 16, 17, 18, 19, 20, 21, 2, 22, 23, 24, 25, 26, 27, 28, 29, 30, 31, 32, 33, 86, 87, 88, 89, 90, 91, 92, 93, 94, 95, 96, 97, 98, 99, 100, 101, 102, 103, 104, 105, 106, 107, 108, 109, 110, 111, 112, 113, 114, 115, 116, 117, 118] (by decide +kernel) (by decide +kernel)
set_option maxRecDepth 20000 in
theorem gX5_isRowSo_X5_forgets : GoodIn wsX5_isRowSo (wsV RX5 213 RX5 yX5_forgets wsX5_forgets) := goodIn_app (goodIn_of _ (by decide +kernel)) ggX5_isRowSo_X5_forgets
theorem dX5_isRowSo_0 : decode cX5_isRowSo 0 = .ok (.aload_n 0, 1) := by decide +kernel
theorem dX5_isRowSo_1 : decode cX5_isRowSo 1 = .ok (.invokevirtual 210, 3) := by decide +kernel
theorem dX5_isRowSo_4 : decode cX5_isRowSo 4 = .ok (.iconst 1, 1) := by decide +kernel
theorem dX5_isRowSo_5 : decode cX5_isRowSo 5 = .ok (.istore_n 1, 1) := by decide +kernel
theorem dX5_isRowSo_6 : decode cX5_isRowSo 6 = .ok (.iconst 0, 1) := by decide +kernel
theorem dX5_isRowSo_7 : decode cX5_isRowSo 7 = .ok (.istore_n 2, 1) := by decide +kernel
theorem dX5_isRowSo_8 : decode cX5_isRowSo 8 = .ok (.iload_n 2, 1) := by decide +kernel
theorem dX5_isRowSo_9 : decode cX5_isRowSo 9 = .ok (.aload_n 0, 1) := by decide +kernel
theorem dX5_isRowSo_10 : decode cX5_isRowSo 10 = .ok (.getfield 250, 3) := by decide +kernel
theorem dX5_isRowSo_13 : decode cX5_isRowSo 13 = .ok (.if_icmp .ge 37, 3) := by decide +kernel
theorem dX5_isRowSo_16 : decode cX5_isRowSo 16 = .ok (.iload_n 1, 1) := by decide +kernel
theorem dX5_isRowSo_17 : decode cX5_isRowSo 17 = .ok (.ifCond .eq 33, 3) := by decide +kernel
theorem dX5_isRowSo_20 : decode cX5_isRowSo 20 = .ok (.aload_n 0, 1) := by decide +kernel
theorem dX5_isRowSo_21 : decode cX5_isRowSo 21 = .ok (.getfield 55, 3) := by decide +kernel
theorem dX5_isRowSo_24 : decode cX5_isRowSo 24 = .ok (.aload_n 0, 1) := by decide +kernel
theorem dX5_isRowSo_25 : decode cX5_isRowSo 25 = .ok (.getfield 49, 3) := by decide +kernel
theorem dX5_isRowSo_28 : decode cX5_isRowSo 28 = .ok (.iload_n 2, 1) := by decide +kernel
theorem dX5_isRowSo_29 : decode cX5_isRowSo 29 = .ok (.iaload, 1) := by decide +kernel
theorem dX5_isRowSo_30 : decode cX5_isRowSo 30 = .ok (.if_icmp .ne 7, 3) := by decide +kernel
theorem dX5_isRowSo_33 : decode cX5_isRowSo 33 = .ok (.iconst 1, 1) := by decide +kernel
theorem dX5_isRowSo_34 : decode cX5_isRowSo 34 = .ok (.goto 4, 3) := by decide +kernel
theorem dX5_isRowSo_37 : decode cX5_isRowSo 37 = .ok (.iconst 0, 1) := by decide +kernel
theorem dX5_isRowSo_38 : decode cX5_isRowSo 38 = .ok (.istore_n 1, 1) := by decide +kernel
theorem dX5_isRowSo_39 : decode cX5_isRowSo 39 = .ok (.aload_n 0, 1) := by decide +kernel
theorem dX5_isRowSo_40 : decode cX5_isRowSo 40 = .ok (.iconst 0, 1) := by decide +kernel
theorem dX5_isRowSo_41 : decode cX5_isRowSo 41 = .ok (.invokevirtual 197, 3) := by decide +kernel
theorem dX5_isRowSo_44 : decode cX5_isRowSo 44 = .ok (.iinc 2 1, 3) := by decide +kernel
theorem dX5_isRowSo_47 : decode cX5_isRowSo 47 = .ok (.goto (-39), 3) := by decide +kernel
theorem dX5_isRowSo_50 : decode cX5_isRowSo 50 = .ok (.aload_n 0, 1) := by decide +kernel
theorem dX5_isRowSo_51 : decode cX5_isRowSo 51 = .ok (.invokevirtual 213, 3) := by decide +kernel
theorem dX5_isRowSo_54 : decode cX5_isRowSo 54 = .ok (.iload_n 1, 1) := by decide +kernel
theorem dX5_isRowSo_55 : decode cX5_isRowSo 55 = .ok (.ireturn, 1) := by decide +kernel
set_option maxRecDepth 20000 in
theorem ggX5_bitsFor_X5_isRowSo : GoodIn wsX5_bitsFor wsX5_isRowSo := goodIn_r _ [5, 6, 7, 8, 9, 10, 11, 4, 12, 13, 14, 15, 16, 17, 18, 19, 20, 21, 22, 23, 24, 25, 26, 27, 28, 29, 30, 31, 32, 33, 34, 35, 36, 37, 38, 39, 40, 41, 42, 43, 44, 45, 46, 47, 48, 49, 50, 51, 52, 53, 54, 55, 56, 57, 58, 59, 60, 61, 62, 63, 64, 65, 66, 67, 68, 69, 70, 71, 72, 73, 74, 75, 76, 77, 78, 79, 80, 81, 82, 83, 84, 85, 86, 87, 88, 89, 90, 91, 92, 93, 94, 95, 96, 97, 98, 99, 100, 101, 102, 103, 104, 105, 106, 107, 108, 109, 110, 111, 112, 113, 114, 115, 116, 117, 118, 119, 120, 121, 122] (by decide +kernel) (by decide +kernel)
set_option maxRecDepth 20000 in
theorem gX5_bitsFor_X5_isRowSo : GoodIn wsX5_bitsFor (wsV RX5 253 RX5 yX5_isRowSo wsX5_isRowSo) := goodIn_app (goodIn_of _ (by decide +kernel)) ggX5_bitsFor_X5_isRowSo
theorem dX5_bitsFor_0 : decode cX5_bitsFor 0 = .ok (.aload_n 1, 1) := by decide +kernel
theorem dX5_bitsFor_1 : decode cX5_bitsFor 1 = .ok (.iload_n 2, 1) := by decide +kernel
theorem dX5_bitsFor_2 : decode cX5_bitsFor 2 = .ok (.iaload, 1) := by decide +kernel
theorem dX5_bitsFor_3 : decode cX5_bitsFor 3 = .ok (.istore 4, 2) := by decide +kernel
theorem dX5_bitsFor_5 : decode cX5_bitsFor 5 = .ok (.iconst 0, 1) := by decide +kernel
theorem dX5_bitsFor_6 : decode cX5_bitsFor 6 = .ok (.istore 5, 2) := by decide +kernel
theorem dX5_bitsFor_8 : decode cX5_bitsFor 8 = .ok (.iconst 0, 1) := by decide +kernel
theorem dX5_bitsFor_9 : decode cX5_bitsFor 9 = .ok (.istore 6, 2) := by decide +kernel
theorem dX5_bitsFor_11 : decode cX5_bitsFor 11 = .ok (.iload 6, 2) := by decide +kernel
theorem dX5_bitsFor_13 : decode cX5_bitsFor 13 = .ok (.iload_n 3, 1) := by decide +kernel
theorem dX5_bitsFor_14 : decode cX5_bitsFor 14 = .ok (.if_icmp .ge 34, 3) := by decide +kernel
theorem dX5_bitsFor_17 : decode cX5_bitsFor 17 = .ok (.aload_n 1, 1) := by decide +kernel
theorem dX5_bitsFor_18 : decode cX5_bitsFor 18 = .ok (.iload_n 2, 1) := by decide +kernel
theorem dX5_bitsFor_19 : decode cX5_bitsFor 19 = .ok (.iload 6, 2) := by decide +kernel
theorem dX5_bitsFor_21 : decode cX5_bitsFor 21 = .ok (.iastore, 1) := by decide +kernel
theorem dX5_bitsFor_22 : decode cX5_bitsFor 22 = .ok (.iload 5, 2) := by decide +kernel
theorem dX5_bitsFor_24 : decode cX5_bitsFor 24 = .ok (.aload_n 0, 1) := by decide +kernel
theorem dX5_bitsFor_25 : decode cX5_bitsFor 25 = .ok (.invokevirtual 253, 3) := by decide +kernel
theorem dX5_bitsFor_28 : decode cX5_bitsFor 28 = .ok (.ifCond .eq 10, 3) := by decide +kernel
theorem dX5_bitsFor_31 : decode cX5_bitsFor 31 = .ok (.iconst 1, 1) := by decide +kernel
theorem dX5_bitsFor_32 : decode cX5_bitsFor 32 = .ok (.iload 6, 2) := by decide +kernel
theorem dX5_bitsFor_34 : decode cX5_bitsFor 34 = .ok (.ishl, 1) := by decide +kernel
theorem dX5_bitsFor_35 : decode cX5_bitsFor 35 = .ok (.goto 4, 3) := by decide +kernel
theorem dX5_bitsFor_38 : decode cX5_bitsFor 38 = .ok (.iconst 0, 1) := by decide +kernel
theorem dX5_bitsFor_39 : decode cX5_bitsFor 39 = .ok (.ior, 1) := by decide +kernel
theorem dX5_bitsFor_40 : decode cX5_bitsFor 40 = .ok (.istore 5, 2) := by decide +kernel
theorem dX5_bitsFor_42 : decode cX5_bitsFor 42 = .ok (.iinc 6 1, 3) := by decide +kernel
theorem dX5_bitsFor_45 : decode cX5_bitsFor 45 = .ok (.goto (-34), 3) := by decide +kernel
theorem dX5_bitsFor_48 : decode cX5_bitsFor 48 = .ok (.aload_n 1, 1) := by decide +kernel
theorem dX5_bitsFor_49 : decode cX5_bitsFor 49 = .ok (.iload_n 2, 1) := by decide +kernel
theorem dX5_bitsFor_50 : decode cX5_bitsFor 50 = .ok (.iload 4, 2) := by decide +kernel
theorem dX5_bitsFor_52 : decode cX5_bitsFor 52 = .ok (.iastore, 1) := by decide +kernel
theorem dX5_bitsFor_53 : decode cX5_bitsFor 53 = .ok (.iload 5, 2) := by decide +kernel
theorem dX5_bitsFor_55 : decode cX5_bitsFor 55 = .ok (.ireturn, 1) := by decide +kernel
set_option maxRecDepth 20000 in
theorem ggX5_pacesSo_X5_isRowSo : GoodIn wsX5_pacesSo wsX5_isRowSo := goodIn_r _ [6, 7, 8, 9, 10, 11, 12, 5, 13, 14, 15, 16, 17, 18, 19, 20, 21, 22, 23, 24, 25, 26, 1, 27, 28, 29, 30, 31, 32, 33, 34, 35, 36, 37, 38, 39, 40, 41, 42, 43, 44, 45, 46, 47, 48, 49, 50, 51, 52, 53, 54, 55, 56, 57, 58, 59, 60, 61, 62, 63, 64, 65, 66, 67, 68, 69, 70, 71, 72, 73, 74, 75, 76, 77, 78, 79, 80, 81, 82, 83, 84, 85, 86, 87, 88, 89, 90, 91, 92, 93, 94, 95, 96, 97, 98, 99, 100, 101, 102, 103, 104, 105, 106, 107, 108, 109, 110, 111, 112, 113, 114, 115, 116, 117, 118, 119, 120, 121, 122] (by decide +kernel) (by decide +kernel)
set_option maxRecDepth 20000 in
theorem gX5_pacesSo_X5_isRowSo : GoodIn wsX5_pacesSo (wsV RX5 253 RX5 yX5_isRowSo wsX5_isRowSo) := goodIn_app (goodIn_of _ (by decide +kernel)) ggX5_pacesSo_X5_isRowSo
theorem dX5_pacesSo_0 : decode cX5_pacesSo 0 = .ok (.aload_n 0, 1) := by decide +kernel
theorem dX5_pacesSo_1 : decode cX5_pacesSo 1 = .ok (.getfield 59, 3) := by decide +kernel
theorem dX5_pacesSo_4 : decode cX5_pacesSo 4 = .ok (.istore_n 1, 1) := by decide +kernel
theorem dX5_pacesSo_5 : decode cX5_pacesSo 5 = .ok (.iconst 0, 1) := by decide +kernel
theorem dX5_pacesSo_6 : decode cX5_pacesSo 6 = .ok (.istore_n 2, 1) := by decide +kernel
theorem dX5_pacesSo_7 : decode cX5_pacesSo 7 = .ok (.iconst 1, 1) := by decide +kernel
theorem dX5_pacesSo_8 : decode cX5_pacesSo 8 = .ok (.istore_n 3, 1) := by decide +kernel
theorem dX5_pacesSo_9 : decode cX5_pacesSo 9 = .ok (.iload_n 3, 1) := by decide +kernel
theorem dX5_pacesSo_10 : decode cX5_pacesSo 10 = .ok (.bipush 6, 2) := by decide +kernel
theorem dX5_pacesSo_12 : decode cX5_pacesSo 12 = .ok (.if_icmp .ge 31, 3) := by decide +kernel
theorem dX5_pacesSo_15 : decode cX5_pacesSo 15 = .ok (.aload_n 0, 1) := by decide +kernel
theorem dX5_pacesSo_16 : decode cX5_pacesSo 16 = .ok (.iload_n 3, 1) := by decide +kernel
theorem dX5_pacesSo_17 : decode cX5_pacesSo 17 = .ok (.putfield 59, 3) := by decide +kernel
theorem dX5_pacesSo_20 : decode cX5_pacesSo 20 = .ok (.iload_n 2, 1) := by decide +kernel
theorem dX5_pacesSo_21 : decode cX5_pacesSo 21 = .ok (.aload_n 0, 1) := by decide +kernel
theorem dX5_pacesSo_22 : decode cX5_pacesSo 22 = .ok (.invokevirtual 253, 3) := by decide +kernel
theorem dX5_pacesSo_25 : decode cX5_pacesSo 25 = .ok (.ifCond .eq 9, 3) := by decide +kernel
theorem dX5_pacesSo_28 : decode cX5_pacesSo 28 = .ok (.iconst 1, 1) := by decide +kernel
theorem dX5_pacesSo_29 : decode cX5_pacesSo 29 = .ok (.iload_n 3, 1) := by decide +kernel
theorem dX5_pacesSo_30 : decode cX5_pacesSo 30 = .ok (.ishl, 1) := by decide +kernel
theorem dX5_pacesSo_31 : decode cX5_pacesSo 31 = .ok (.goto 4, 3) := by decide +kernel
theorem dX5_pacesSo_34 : decode cX5_pacesSo 34 = .ok (.iconst 0, 1) := by decide +kernel
theorem dX5_pacesSo_35 : decode cX5_pacesSo 35 = .ok (.ior, 1) := by decide +kernel
theorem dX5_pacesSo_36 : decode cX5_pacesSo 36 = .ok (.istore_n 2, 1) := by decide +kernel
theorem dX5_pacesSo_37 : decode cX5_pacesSo 37 = .ok (.iinc 3 1, 3) := by decide +kernel
theorem dX5_pacesSo_40 : decode cX5_pacesSo 40 = .ok (.goto (-31), 3) := by decide +kernel
theorem dX5_pacesSo_43 : decode cX5_pacesSo 43 = .ok (.aload_n 0, 1) := by decide +kernel
theorem dX5_pacesSo_44 : decode cX5_pacesSo 44 = .ok (.iload_n 1, 1) := by decide +kernel
theorem dX5_pacesSo_45 : decode cX5_pacesSo 45 = .ok (.putfield 59, 3) := by decide +kernel
theorem dX5_pacesSo_48 : decode cX5_pacesSo 48 = .ok (.iload_n 2, 1) := by decide +kernel
theorem dX5_pacesSo_49 : decode cX5_pacesSo 49 = .ok (.ireturn, 1) := by decide +kernel
set_option maxRecDepth 20000 in
theorem ggX5_which_X5_isShore : GoodIn wsX5_which wsX5_isShore := goodIn_r _ [7, 8, 107, 108, 109, 110, 111, 112, 113, 114, 115, 116, 117, 118, 119, 120, 121, 122, 123, 124, 125, 126, 127, 128, 129, 130, 131, 132, 133, 134, 135, 136, 137, 138, 139] (by decide +kernel) (by decide +kernel)
set_option maxRecDepth 20000 in
theorem gX5_which_X5_isShore : GoodIn wsX5_which (wsV RX5 123 RX5 yX5_isShore wsX5_isShore) := goodIn_app (goodIn_of _ (by decide +kernel)) ggX5_which_X5_isShore
set_option maxRecDepth 20000 in
theorem ggX5_which_X5_isIn : GoodIn wsX5_which wsX5_isIn := goodIn_r _ [11] (by decide +kernel) (by decide +kernel)
set_option maxRecDepth 20000 in
theorem gX5_which_X5_isIn : GoodIn wsX5_which (va_wsS RX5 88 yX5_isIn wsX5_isIn) := goodIn_app (goodIn_of _ (by decide +kernel)) ggX5_which_X5_isIn
set_option maxRecDepth 20000 in
theorem ggX5_which_X5_no : GoodIn wsX5_which wsX5_no := goodIn_r _ [15, 16, 107, 108, 109, 110, 111, 112, 113, 114, 115, 116, 117, 118, 119, 120, 121, 122, 123, 124, 125, 126, 127, 128, 129, 130, 131, 132, 133, 134, 135, 136, 137, 138, 139] (by decide +kernel) (by decide +kernel)
set_option maxRecDepth 20000 in
theorem gX5_which_X5_no : GoodIn wsX5_which (wsV RX5 77 RX5 yX5_no wsX5_no) := goodIn_app (goodIn_of _ (by decide +kernel)) ggX5_which_X5_no
set_option maxRecDepth 20000 in
theorem ggX5_which_X5_bitsFor : GoodIn wsX5_which wsX5_bitsFor := goodIn_r _ [20, 21, 22, 23, 6, 24, 25, 26, 27, 28, 29, 30, 31, 32, 33, 34, 35, 36, 37, 1, 2, 38, 39, 40, 8, 41, 42, 43, 44, 45, 46, 47, 48, 49, 50, 51, 52, 53, 54, 55, 56, 57, 58, 59, 60, 61, 62, 63, 64, 65, 66, 67, 68, 69, 70, 71, 72, 73, 74, 75, 76, 9, 10, 11, 77, 78, 79, 80, 81, 82, 83, 84, 85, 86, 87, 88, 89, 90, 91, 92, 93, 94, 95, 96, 97, 98, 99, 100, 101, 102, 107, 108, 109, 110, 111, 112, 113, 114, 115, 116, 117, 118, 119, 120, 121, 122, 123, 124, 125, 126, 127, 128, 129, 130, 131, 132, 133, 134, 135, 136, 137, 138, 139] (by decide +kernel) (by decide +kernel)
set_option maxRecDepth 20000 in
theorem gX5_which_X5_bitsFor : GoodIn wsX5_which (wsV RX5 256 RX5 yX5_bitsFor wsX5_bitsFor) := goodIn_app (goodIn_of _ (by decide +kernel)) ggX5_which_X5_bitsFor
set_option maxRecDepth 20000 in
theorem ggX5_which_X5_pacesSo : GoodIn wsX5_which wsX5_pacesSo := goodIn_r _ [106, 42, 21, 22, 23, 6, 24, 25, 26, 27, 28, 29, 30, 31, 32, 33, 34, 35, 36, 37, 1, 2, 38, 39, 40, 8, 41, 43, 44, 45, 46, 47, 48, 49, 50, 51, 52, 53, 54, 55, 56, 57, 58, 59, 60, 61, 62, 63, 64, 65, 66, 67, 68, 69, 70, 71, 72, 73, 74, 75, 76, 9, 10, 11, 77, 78, 79, 80, 81, 82, 83, 84, 85, 86, 87, 88, 89, 90, 91, 92, 93, 94, 95, 96, 97, 98, 99, 100, 101, 102, 107, 108, 109, 110, 111, 112, 113, 114, 115, 116, 117, 118, 119, 120, 121, 122, 123, 124, 125, 126, 127, 128, 129, 130, 131, 132, 133, 134, 135, 136, 137, 138, 139] (by decide +kernel) (by decide +kernel)
set_option maxRecDepth 20000 in
theorem gX5_which_X5_pacesSo : GoodIn wsX5_which (wsV RX5 260 RX5 yX5_pacesSo wsX5_pacesSo) := goodIn_app (goodIn_of _ (by decide +kernel)) ggX5_which_X5_pacesSo
theorem dX5_which_0 : decode cX5_which 0 = .ok (.aload_n 0, 1) := by decide +kernel
theorem dX5_which_1 : decode cX5_which 1 = .ok (.iload_n 1, 1) := by decide +kernel
theorem dX5_which_2 : decode cX5_which 2 = .ok (.invokevirtual 123, 3) := by decide +kernel
theorem dX5_which_5 : decode cX5_which 5 = .ok (.ifCond .ne 7, 3) := by decide +kernel
theorem dX5_which_8 : decode cX5_which 8 = .ok (.iconst (-1), 1) := by decide +kernel
theorem dX5_which_9 : decode cX5_which 9 = .ok (.goto 18, 3) := by decide +kernel
theorem dX5_which_12 : decode cX5_which 12 = .ok (.iload_n 2, 1) := by decide +kernel
theorem dX5_which_13 : decode cX5_which 13 = .ok (.iconst 0, 1) := by decide +kernel
theorem dX5_which_14 : decode cX5_which 14 = .ok (.iconst 2, 1) := by decide +kernel
theorem dX5_which_15 : decode cX5_which 15 = .ok (.invokestatic 88, 3) := by decide +kernel
theorem dX5_which_18 : decode cX5_which 18 = .ok (.ifCond .ne 8, 3) := by decide +kernel
theorem dX5_which_21 : decode cX5_which 21 = .ok (.bipush (-2), 2) := by decide +kernel
theorem dX5_which_23 : decode cX5_which 23 = .ok (.goto 4, 3) := by decide +kernel
theorem dX5_which_26 : decode cX5_which 26 = .ok (.iconst 0, 1) := by decide +kernel
theorem dX5_which_27 : decode cX5_which 27 = .ok (.istore_n 3, 1) := by decide +kernel
theorem dX5_which_28 : decode cX5_which 28 = .ok (.iload_n 3, 1) := by decide +kernel
theorem dX5_which_29 : decode cX5_which 29 = .ok (.ifCond .eq 9, 3) := by decide +kernel
theorem dX5_which_32 : decode cX5_which 32 = .ok (.aload_n 0, 1) := by decide +kernel
theorem dX5_which_33 : decode cX5_which 33 = .ok (.iload_n 3, 1) := by decide +kernel
theorem dX5_which_34 : decode cX5_which 34 = .ok (.invokevirtual 77, 3) := by decide +kernel
theorem dX5_which_37 : decode cX5_which 37 = .ok (.ireturn, 1) := by decide +kernel
theorem dX5_which_38 : decode cX5_which 38 = .ok (.iload_n 2, 1) := by decide +kernel
theorem dX5_which_39 : decode cX5_which 39 = .ok (.ifCond .ne 17, 3) := by decide +kernel
theorem dX5_which_42 : decode cX5_which 42 = .ok (.aload_n 0, 1) := by decide +kernel
theorem dX5_which_43 : decode cX5_which 43 = .ok (.aload_n 0, 1) := by decide +kernel
theorem dX5_which_44 : decode cX5_which 44 = .ok (.getfield 13, 3) := by decide +kernel
theorem dX5_which_47 : decode cX5_which 47 = .ok (.iload_n 1, 1) := by decide +kernel
theorem dX5_which_48 : decode cX5_which 48 = .ok (.bipush 6, 2) := by decide +kernel
theorem dX5_which_50 : decode cX5_which 50 = .ok (.invokevirtual 256, 3) := by decide +kernel
theorem dX5_which_53 : decode cX5_which 53 = .ok (.goto 26, 3) := by decide +kernel
theorem dX5_which_56 : decode cX5_which 56 = .ok (.iload_n 2, 1) := by decide +kernel
theorem dX5_which_57 : decode cX5_which 57 = .ok (.iconst 1, 1) := by decide +kernel
theorem dX5_which_58 : decode cX5_which 58 = .ok (.if_icmp .ne 17, 3) := by decide +kernel
theorem dX5_which_61 : decode cX5_which 61 = .ok (.aload_n 0, 1) := by decide +kernel
theorem dX5_which_62 : decode cX5_which 62 = .ok (.aload_n 0, 1) := by decide +kernel
theorem dX5_which_63 : decode cX5_which 63 = .ok (.getfield 16, 3) := by decide +kernel
theorem dX5_which_66 : decode cX5_which 66 = .ok (.iload_n 1, 1) := by decide +kernel
theorem dX5_which_67 : decode cX5_which 67 = .ok (.bipush 10, 2) := by decide +kernel
theorem dX5_which_69 : decode cX5_which 69 = .ok (.invokevirtual 256, 3) := by decide +kernel
theorem dX5_which_72 : decode cX5_which 72 = .ok (.goto 7, 3) := by decide +kernel
theorem dX5_which_75 : decode cX5_which 75 = .ok (.aload_n 0, 1) := by decide +kernel
theorem dX5_which_76 : decode cX5_which 76 = .ok (.invokevirtual 260, 3) := by decide +kernel
theorem dX5_which_79 : decode cX5_which 79 = .ok (.ireturn, 1) := by decide +kernel
theorem dX5_hushed_0 : decode cX5_hushed 0 = .ok (.iload_n 2, 1) := by decide +kernel
theorem dX5_hushed_1 : decode cX5_hushed 1 = .ok (.ifCond .ne 11, 3) := by decide +kernel
theorem dX5_hushed_4 : decode cX5_hushed 4 = .ok (.iload_n 0, 1) := by decide +kernel
theorem dX5_hushed_5 : decode cX5_hushed 5 = .ok (.iconst 1, 1) := by decide +kernel
theorem dX5_hushed_6 : decode cX5_hushed 6 = .ok (.iload_n 1, 1) := by decide +kernel
theorem dX5_hushed_7 : decode cX5_hushed 7 = .ok (.ishl, 1) := by decide +kernel
theorem dX5_hushed_8 : decode cX5_hushed 8 = .ok (.ior, 1) := by decide +kernel
theorem dX5_hushed_9 : decode cX5_hushed 9 = .ok (.goto 10, 3) := by decide +kernel
theorem dX5_hushed_12 : decode cX5_hushed 12 = .ok (.iload_n 0, 1) := by decide +kernel
theorem dX5_hushed_13 : decode cX5_hushed 13 = .ok (.iconst 1, 1) := by decide +kernel
theorem dX5_hushed_14 : decode cX5_hushed 14 = .ok (.iload_n 1, 1) := by decide +kernel
theorem dX5_hushed_15 : decode cX5_hushed 15 = .ok (.ishl, 1) := by decide +kernel
theorem dX5_hushed_16 : decode cX5_hushed 16 = .ok (.iconst (-1), 1) := by decide +kernel
theorem dX5_hushed_17 : decode cX5_hushed 17 = .ok (.ixor, 1) := by decide +kernel
theorem dX5_hushed_18 : decode cX5_hushed 18 = .ok (.iand, 1) := by decide +kernel
theorem dX5_hushed_19 : decode cX5_hushed 19 = .ok (.ireturn, 1) := by decide +kernel
set_option maxRecDepth 20000 in
theorem ggX5_findTreaty_X5_hushed : GoodIn wsX5_findTreaty wsX5_hushed := goodIn_r _ [7] (by decide +kernel) (by decide +kernel)
set_option maxRecDepth 20000 in
theorem gX5_findTreaty_X5_hushed : GoodIn wsX5_findTreaty (va_wsS RX5 263 yX5_hushed wsX5_hushed) := goodIn_app (goodIn_of _ (by decide +kernel)) ggX5_findTreaty_X5_hushed
set_option maxRecDepth 20000 in
theorem ggX5_findTreaty_X5_findOften : GoodIn wsX5_findTreaty wsX5_findOften := goodIn_r _ [11, 3, 12, 13, 14, 15, 16, 17, 18, 19, 6, 20, 21, 22, 23, 24, 25, 26, 27, 28, 29, 30, 31, 32, 1, 33, 34, 35, 36, 37, 38, 39, 40, 41, 42, 43, 44, 45, 46, 47, 48, 49, 50, 51, 52, 53, 54, 55, 56, 57, 58, 59, 60, 61, 62, 63, 64, 65, 66, 67, 68, 69, 70, 71, 72, 73, 74, 75, 76, 77, 78, 79, 80, 81, 82, 83, 84, 85, 86, 87, 88, 89, 90, 91, 92, 93, 94, 95, 96, 97, 98, 99, 100, 101, 102, 103, 104, 105, 106, 107, 108, 109, 110, 111, 112, 113, 114, 115, 116, 117, 118, 119, 120, 121, 122, 123, 124, 125, 126, 127, 128, 129] (by decide +kernel) (by decide +kernel)
set_option maxRecDepth 20000 in
theorem gX5_findTreaty_X5_findOften : GoodIn wsX5_findTreaty (wsV RX5 225 RX5 yX5_findOften wsX5_findOften) := goodIn_app (goodIn_of _ (by decide +kernel)) ggX5_findTreaty_X5_findOften
theorem dX5_findTreaty_0 : decode cX5_findTreaty 0 = .ok (.aload_n 0, 1) := by decide +kernel
theorem dX5_findTreaty_1 : decode cX5_findTreaty 1 = .ok (.getfield 126, 3) := by decide +kernel
theorem dX5_findTreaty_4 : decode cX5_findTreaty 4 = .ok (.istore_n 3, 1) := by decide +kernel
theorem dX5_findTreaty_5 : decode cX5_findTreaty 5 = .ok (.iconst 0, 1) := by decide +kernel
theorem dX5_findTreaty_6 : decode cX5_findTreaty 6 = .ok (.istore 4, 2) := by decide +kernel
theorem dX5_findTreaty_8 : decode cX5_findTreaty 8 = .ok (.iload 4, 2) := by decide +kernel
theorem dX5_findTreaty_10 : decode cX5_findTreaty 10 = .ok (.iconst 4, 1) := by decide +kernel
theorem dX5_findTreaty_11 : decode cX5_findTreaty 11 = .ok (.if_icmp .ge 69, 3) := by decide +kernel
theorem dX5_findTreaty_14 : decode cX5_findTreaty 14 = .ok (.aload_n 0, 1) := by decide +kernel
theorem dX5_findTreaty_15 : decode cX5_findTreaty 15 = .ok (.iload_n 3, 1) := by decide +kernel
theorem dX5_findTreaty_16 : decode cX5_findTreaty 16 = .ok (.iload_n 1, 1) := by decide +kernel
theorem dX5_findTreaty_17 : decode cX5_findTreaty 17 = .ok (.iload 4, 2) := by decide +kernel
theorem dX5_findTreaty_19 : decode cX5_findTreaty 19 = .ok (.iconst 2, 1) := by decide +kernel
theorem dX5_findTreaty_20 : decode cX5_findTreaty 20 = .ok (.idiv, 1) := by decide +kernel
theorem dX5_findTreaty_21 : decode cX5_findTreaty 21 = .ok (.invokestatic 263, 3) := by decide +kernel
theorem dX5_findTreaty_24 : decode cX5_findTreaty 24 = .ok (.iload_n 2, 1) := by decide +kernel
theorem dX5_findTreaty_25 : decode cX5_findTreaty 25 = .ok (.iload 4, 2) := by decide +kernel
theorem dX5_findTreaty_27 : decode cX5_findTreaty 27 = .ok (.iconst 2, 1) := by decide +kernel
theorem dX5_findTreaty_28 : decode cX5_findTreaty 28 = .ok (.irem, 1) := by decide +kernel
theorem dX5_findTreaty_29 : decode cX5_findTreaty 29 = .ok (.invokestatic 263, 3) := by decide +kernel
theorem dX5_findTreaty_32 : decode cX5_findTreaty 32 = .ok (.putfield 126, 3) := by decide +kernel
theorem dX5_findTreaty_35 : decode cX5_findTreaty 35 = .ok (.aload_n 0, 1) := by decide +kernel
theorem dX5_findTreaty_36 : decode cX5_findTreaty 36 = .ok (.iconst 1, 1) := by decide +kernel
theorem dX5_findTreaty_37 : decode cX5_findTreaty 37 = .ok (.bipush 12, 2) := by decide +kernel
theorem dX5_findTreaty_39 : decode cX5_findTreaty 39 = .ok (.invokevirtual 225, 3) := by decide +kernel
theorem dX5_findTreaty_42 : decode cX5_findTreaty 42 = .ok (.aload_n 0, 1) := by decide +kernel
theorem dX5_findTreaty_43 : decode cX5_findTreaty 43 = .ok (.getfield 52, 3) := by decide +kernel
theorem dX5_findTreaty_46 : decode cX5_findTreaty 46 = .ok (.iconst 2, 1) := by decide +kernel
theorem dX5_findTreaty_47 : decode cX5_findTreaty 47 = .ok (.iload 4, 2) := by decide +kernel
theorem dX5_findTreaty_49 : decode cX5_findTreaty 49 = .ok (.imul, 1) := by decide +kernel
theorem dX5_findTreaty_50 : decode cX5_findTreaty 50 = .ok (.aload_n 0, 1) := by decide +kernel
theorem dX5_findTreaty_51 : decode cX5_findTreaty 51 = .ok (.getfield 43, 3) := by decide +kernel
theorem dX5_findTreaty_54 : decode cX5_findTreaty 54 = .ok (.iload_n 1, 1) := by decide +kernel
theorem dX5_findTreaty_55 : decode cX5_findTreaty 55 = .ok (.iaload, 1) := by decide +kernel
theorem dX5_findTreaty_56 : decode cX5_findTreaty 56 = .ok (.iastore, 1) := by decide +kernel
theorem dX5_findTreaty_57 : decode cX5_findTreaty 57 = .ok (.aload_n 0, 1) := by decide +kernel
theorem dX5_findTreaty_58 : decode cX5_findTreaty 58 = .ok (.getfield 52, 3) := by decide +kernel
theorem dX5_findTreaty_61 : decode cX5_findTreaty 61 = .ok (.iconst 2, 1) := by decide +kernel
theorem dX5_findTreaty_62 : decode cX5_findTreaty 62 = .ok (.iload 4, 2) := by decide +kernel
theorem dX5_findTreaty_64 : decode cX5_findTreaty 64 = .ok (.imul, 1) := by decide +kernel
theorem dX5_findTreaty_65 : decode cX5_findTreaty 65 = .ok (.iconst 1, 1) := by decide +kernel
theorem dX5_findTreaty_66 : decode cX5_findTreaty 66 = .ok (.iadd, 1) := by decide +kernel
theorem dX5_findTreaty_67 : decode cX5_findTreaty 67 = .ok (.aload_n 0, 1) := by decide +kernel
theorem dX5_findTreaty_68 : decode cX5_findTreaty 68 = .ok (.getfield 43, 3) := by decide +kernel
theorem dX5_findTreaty_71 : decode cX5_findTreaty 71 = .ok (.iload_n 2, 1) := by decide +kernel
theorem dX5_findTreaty_72 : decode cX5_findTreaty 72 = .ok (.iaload, 1) := by decide +kernel
theorem dX5_findTreaty_73 : decode cX5_findTreaty 73 = .ok (.iastore, 1) := by decide +kernel
theorem dX5_findTreaty_74 : decode cX5_findTreaty 74 = .ok (.iinc 4 1, 3) := by decide +kernel
theorem dX5_findTreaty_77 : decode cX5_findTreaty 77 = .ok (.goto (-69), 3) := by decide +kernel
theorem dX5_findTreaty_80 : decode cX5_findTreaty 80 = .ok (.aload_n 0, 1) := by decide +kernel
theorem dX5_findTreaty_81 : decode cX5_findTreaty 81 = .ok (.iload_n 3, 1) := by decide +kernel
theorem dX5_findTreaty_82 : decode cX5_findTreaty 82 = .ok (.putfield 126, 3) := by decide +kernel
theorem dX5_findTreaty_85 : decode cX5_findTreaty 85 = .ok (.return_, 1) := by decide +kernel
set_option maxRecDepth 20000 in
theorem ggX5_treaty_X5_isShore : GoodIn wsX5_treaty wsX5_isShore := goodIn_r _ [6, 7, 110, 111, 112, 113, 114, 115, 116, 117, 118, 119, 120, 121, 122, 123, 124, 125, 126, 127, 128, 129, 130, 131, 132, 133, 134, 135, 136, 137, 138, 139, 140, 141, 142] (by decide +kernel) (by decide +kernel)
set_option maxRecDepth 20000 in
theorem gX5_treaty_X5_isShore : GoodIn wsX5_treaty (wsV RX5 123 RX5 yX5_isShore wsX5_isShore) := goodIn_app (goodIn_of _ (by decide +kernel)) ggX5_treaty_X5_isShore
set_option maxRecDepth 20000 in
theorem ggX5_treaty_X5_isIn : GoodIn wsX5_treaty wsX5_isIn := goodIn_r _ [10] (by decide +kernel) (by decide +kernel)
set_option maxRecDepth 20000 in
theorem gX5_treaty_X5_isIn : GoodIn wsX5_treaty (va_wsS RX5 88 yX5_isIn wsX5_isIn) := goodIn_app (goodIn_of _ (by decide +kernel)) ggX5_treaty_X5_isIn
set_option maxRecDepth 20000 in
theorem ggX5_treaty_X5_no : GoodIn wsX5_treaty wsX5_no := goodIn_r _ [14, 15, 110, 111, 112, 113, 114, 115, 116, 117, 118, 119, 120, 121, 122, 123, 124, 125, 126, 127, 128, 129, 130, 131, 132, 133, 134, 135, 136, 137, 138, 139, 140, 141, 142] (by decide +kernel) (by decide +kernel)
set_option maxRecDepth 20000 in
theorem gX5_treaty_X5_no : GoodIn wsX5_treaty (wsV RX5 77 RX5 yX5_no wsX5_no) := goodIn_app (goodIn_of _ (by decide +kernel)) ggX5_treaty_X5_no
set_option maxRecDepth 20000 in
theorem ggX5_treaty_X5_findTreaty : GoodIn wsX5_treaty wsX5_findTreaty := goodIn_r _ [19, 20, 1, 21, 22, 23, 5, 24, 25, 26, 27, 28, 29, 30, 31, 32, 33, 34, 35, 36, 37, 38, 39, 40, 41, 42, 43, 44, 45, 46, 47, 48, 7, 49, 50, 51, 52, 53, 54, 55, 56, 57, 58, 59, 60, 61, 62, 63, 64, 65, 66, 67, 68, 69, 70, 71, 72, 73, 74, 75, 76, 77, 78, 79, 80, 81, 82, 83, 84, 85, 86, 87, 88, 89, 90, 91, 8, 9, 10, 92, 93, 94, 95, 96, 97, 98, 99, 100, 101, 102, 103, 104, 105, 106, 107, 108, 109, 110, 111, 112, 113, 114, 115, 116, 117, 118, 119, 120, 121, 122, 123, 124, 125, 126, 127, 128, 129, 130, 131, 132, 133, 134, 135, 136, 137, 138, 139, 140, 141, 142] (by decide +kernel) (by decide +kernel)
set_option maxRecDepth 20000 in
theorem gX5_treaty_X5_findTreaty : GoodIn wsX5_treaty (wsV RX5 266 RX5 yX5_findTreaty wsX5_findTreaty) := goodIn_app (goodIn_of _ (by decide +kernel)) ggX5_treaty_X5_findTreaty
theorem dX5_treaty_0 : decode cX5_treaty 0 = .ok (.aload_n 0, 1) := by decide +kernel
theorem dX5_treaty_1 : decode cX5_treaty 1 = .ok (.iload_n 1, 1) := by decide +kernel
theorem dX5_treaty_2 : decode cX5_treaty 2 = .ok (.invokevirtual 123, 3) := by decide +kernel
theorem dX5_treaty_5 : decode cX5_treaty 5 = .ok (.ifCond .eq 16, 3) := by decide +kernel
theorem dX5_treaty_8 : decode cX5_treaty 8 = .ok (.aload_n 0, 1) := by decide +kernel
theorem dX5_treaty_9 : decode cX5_treaty 9 = .ok (.iload_n 2, 1) := by decide +kernel
theorem dX5_treaty_10 : decode cX5_treaty 10 = .ok (.invokevirtual 123, 3) := by decide +kernel
theorem dX5_treaty_13 : decode cX5_treaty 13 = .ok (.ifCond .eq 8, 3) := by decide +kernel
theorem dX5_treaty_16 : decode cX5_treaty 16 = .ok (.iload_n 1, 1) := by decide +kernel
theorem dX5_treaty_17 : decode cX5_treaty 17 = .ok (.iload_n 2, 1) := by decide +kernel
theorem dX5_treaty_18 : decode cX5_treaty 18 = .ok (.if_icmp .ne 7, 3) := by decide +kernel
theorem dX5_treaty_21 : decode cX5_treaty 21 = .ok (.iconst (-1), 1) := by decide +kernel
theorem dX5_treaty_22 : decode cX5_treaty 22 = .ok (.goto 18, 3) := by decide +kernel
theorem dX5_treaty_25 : decode cX5_treaty 25 = .ok (.iload_n 3, 1) := by decide +kernel
theorem dX5_treaty_26 : decode cX5_treaty 26 = .ok (.iconst 0, 1) := by decide +kernel
theorem dX5_treaty_27 : decode cX5_treaty 27 = .ok (.iconst 1, 1) := by decide +kernel
theorem dX5_treaty_28 : decode cX5_treaty 28 = .ok (.invokestatic 88, 3) := by decide +kernel
theorem dX5_treaty_31 : decode cX5_treaty 31 = .ok (.ifCond .ne 8, 3) := by decide +kernel
theorem dX5_treaty_34 : decode cX5_treaty 34 = .ok (.bipush (-2), 2) := by decide +kernel
theorem dX5_treaty_36 : decode cX5_treaty 36 = .ok (.goto 4, 3) := by decide +kernel
theorem dX5_treaty_39 : decode cX5_treaty 39 = .ok (.iconst 0, 1) := by decide +kernel
theorem dX5_treaty_40 : decode cX5_treaty 40 = .ok (.istore 4, 2) := by decide +kernel
theorem dX5_treaty_42 : decode cX5_treaty 42 = .ok (.iload 4, 2) := by decide +kernel
theorem dX5_treaty_44 : decode cX5_treaty 44 = .ok (.ifCond .eq 10, 3) := by decide +kernel
theorem dX5_treaty_47 : decode cX5_treaty 47 = .ok (.aload_n 0, 1) := by decide +kernel
theorem dX5_treaty_48 : decode cX5_treaty 48 = .ok (.iload 4, 2) := by decide +kernel
theorem dX5_treaty_50 : decode cX5_treaty 50 = .ok (.invokevirtual 77, 3) := by decide +kernel
theorem dX5_treaty_53 : decode cX5_treaty 53 = .ok (.ireturn, 1) := by decide +kernel
theorem dX5_treaty_54 : decode cX5_treaty 54 = .ok (.aload_n 0, 1) := by decide +kernel
theorem dX5_treaty_55 : decode cX5_treaty 55 = .ok (.iload_n 1, 1) := by decide +kernel
theorem dX5_treaty_56 : decode cX5_treaty 56 = .ok (.iload_n 2, 1) := by decide +kernel
theorem dX5_treaty_57 : decode cX5_treaty 57 = .ok (.invokevirtual 266, 3) := by decide +kernel
theorem dX5_treaty_60 : decode cX5_treaty 60 = .ok (.iconst 0, 1) := by decide +kernel
theorem dX5_treaty_61 : decode cX5_treaty 61 = .ok (.istore 5, 2) := by decide +kernel
theorem dX5_treaty_63 : decode cX5_treaty 63 = .ok (.iload 5, 2) := by decide +kernel
theorem dX5_treaty_65 : decode cX5_treaty 65 = .ok (.iconst 4, 1) := by decide +kernel
theorem dX5_treaty_66 : decode cX5_treaty 66 = .ok (.if_icmp .ge 100, 3) := by decide +kernel
theorem dX5_treaty_69 : decode cX5_treaty 69 = .ok (.aload_n 0, 1) := by decide +kernel
theorem dX5_treaty_70 : decode cX5_treaty 70 = .ok (.getfield 52, 3) := by decide +kernel
theorem dX5_treaty_73 : decode cX5_treaty 73 = .ok (.iconst 2, 1) := by decide +kernel
theorem dX5_treaty_74 : decode cX5_treaty 74 = .ok (.iload 5, 2) := by decide +kernel
theorem dX5_treaty_76 : decode cX5_treaty 76 = .ok (.iconst 2, 1) := by decide +kernel
theorem dX5_treaty_77 : decode cX5_treaty 77 = .ok (.ixor, 1) := by decide +kernel
theorem dX5_treaty_78 : decode cX5_treaty 78 = .ok (.imul, 1) := by decide +kernel
theorem dX5_treaty_79 : decode cX5_treaty 79 = .ok (.iaload, 1) := by decide +kernel
theorem dX5_treaty_80 : decode cX5_treaty 80 = .ok (.aload_n 0, 1) := by decide +kernel
theorem dX5_treaty_81 : decode cX5_treaty 81 = .ok (.getfield 52, 3) := by decide +kernel
theorem dX5_treaty_84 : decode cX5_treaty 84 = .ok (.iconst 2, 1) := by decide +kernel
theorem dX5_treaty_85 : decode cX5_treaty 85 = .ok (.iload 5, 2) := by decide +kernel
theorem dX5_treaty_87 : decode cX5_treaty 87 = .ok (.imul, 1) := by decide +kernel
theorem dX5_treaty_88 : decode cX5_treaty 88 = .ok (.iaload, 1) := by decide +kernel
theorem dX5_treaty_89 : decode cX5_treaty 89 = .ok (.if_icmp .gt 34, 3) := by decide +kernel
theorem dX5_treaty_92 : decode cX5_treaty 92 = .ok (.aload_n 0, 1) := by decide +kernel
theorem dX5_treaty_93 : decode cX5_treaty 93 = .ok (.getfield 52, 3) := by decide +kernel
theorem dX5_treaty_96 : decode cX5_treaty 96 = .ok (.iconst 2, 1) := by decide +kernel
theorem dX5_treaty_97 : decode cX5_treaty 97 = .ok (.iload 5, 2) := by decide +kernel
theorem dX5_treaty_99 : decode cX5_treaty 99 = .ok (.iconst 1, 1) := by decide +kernel
theorem dX5_treaty_100 : decode cX5_treaty 100 = .ok (.ixor, 1) := by decide +kernel
theorem dX5_treaty_101 : decode cX5_treaty 101 = .ok (.imul, 1) := by decide +kernel
theorem dX5_treaty_102 : decode cX5_treaty 102 = .ok (.iconst 1, 1) := by decide +kernel
theorem dX5_treaty_103 : decode cX5_treaty 103 = .ok (.iadd, 1) := by decide +kernel
theorem dX5_treaty_104 : decode cX5_treaty 104 = .ok (.iaload, 1) := by decide +kernel
theorem dX5_treaty_105 : decode cX5_treaty 105 = .ok (.aload_n 0, 1) := by decide +kernel
theorem dX5_treaty_106 : decode cX5_treaty 106 = .ok (.getfield 52, 3) := by decide +kernel
theorem dX5_treaty_109 : decode cX5_treaty 109 = .ok (.iconst 2, 1) := by decide +kernel
theorem dX5_treaty_110 : decode cX5_treaty 110 = .ok (.iload 5, 2) := by decide +kernel
theorem dX5_treaty_112 : decode cX5_treaty 112 = .ok (.imul, 1) := by decide +kernel
theorem dX5_treaty_113 : decode cX5_treaty 113 = .ok (.iconst 1, 1) := by decide +kernel
theorem dX5_treaty_114 : decode cX5_treaty 114 = .ok (.iadd, 1) := by decide +kernel
theorem dX5_treaty_115 : decode cX5_treaty 115 = .ok (.iaload, 1) := by decide +kernel
theorem dX5_treaty_116 : decode cX5_treaty 116 = .ok (.if_icmp .gt 7, 3) := by decide +kernel
theorem dX5_treaty_119 : decode cX5_treaty 119 = .ok (.iconst 1, 1) := by decide +kernel
theorem dX5_treaty_120 : decode cX5_treaty 120 = .ok (.goto 4, 3) := by decide +kernel
theorem dX5_treaty_123 : decode cX5_treaty 123 = .ok (.iconst 0, 1) := by decide +kernel
theorem dX5_treaty_124 : decode cX5_treaty 124 = .ok (.istore 6, 2) := by decide +kernel
theorem dX5_treaty_126 : decode cX5_treaty 126 = .ok (.iload_n 3, 1) := by decide +kernel
theorem dX5_treaty_127 : decode cX5_treaty 127 = .ok (.iconst 1, 1) := by decide +kernel
theorem dX5_treaty_128 : decode cX5_treaty 128 = .ok (.if_icmp .ne 14, 3) := by decide +kernel
theorem dX5_treaty_131 : decode cX5_treaty 131 = .ok (.iload 6, 2) := by decide +kernel
theorem dX5_treaty_133 : decode cX5_treaty 133 = .ok (.ifCond .eq 7, 3) := by decide +kernel
theorem dX5_treaty_136 : decode cX5_treaty 136 = .ok (.iconst 1, 1) := by decide +kernel
theorem dX5_treaty_137 : decode cX5_treaty 137 = .ok (.goto 4, 3) := by decide +kernel
theorem dX5_treaty_140 : decode cX5_treaty 140 = .ok (.iconst 0, 1) := by decide +kernel
theorem dX5_treaty_141 : decode cX5_treaty 141 = .ok (.ireturn, 1) := by decide +kernel
theorem dX5_treaty_142 : decode cX5_treaty 142 = .ok (.iload 6, 2) := by decide +kernel
theorem dX5_treaty_144 : decode cX5_treaty 144 = .ok (.ifCond .eq 16, 3) := by decide +kernel
theorem dX5_treaty_147 : decode cX5_treaty 147 = .ok (.bipush 10, 2) := by decide +kernel
theorem dX5_treaty_149 : decode cX5_treaty 149 = .ok (.iload 5, 2) := by decide +kernel
theorem dX5_treaty_151 : decode cX5_treaty 151 = .ok (.iconst 2, 1) := by decide +kernel
theorem dX5_treaty_152 : decode cX5_treaty 152 = .ok (.idiv, 1) := by decide +kernel
theorem dX5_treaty_153 : decode cX5_treaty 153 = .ok (.imul, 1) := by decide +kernel
theorem dX5_treaty_154 : decode cX5_treaty 154 = .ok (.iload 5, 2) := by decide +kernel
theorem dX5_treaty_156 : decode cX5_treaty 156 = .ok (.iconst 2, 1) := by decide +kernel
theorem dX5_treaty_157 : decode cX5_treaty 157 = .ok (.irem, 1) := by decide +kernel
theorem dX5_treaty_158 : decode cX5_treaty 158 = .ok (.iadd, 1) := by decide +kernel
theorem dX5_treaty_159 : decode cX5_treaty 159 = .ok (.ireturn, 1) := by decide +kernel
theorem dX5_treaty_160 : decode cX5_treaty 160 = .ok (.iinc 5 1, 3) := by decide +kernel
theorem dX5_treaty_163 : decode cX5_treaty 163 = .ok (.goto (-100), 3) := by decide +kernel
theorem dX5_treaty_166 : decode cX5_treaty 166 = .ok (.bipush (-9), 2) := by decide +kernel
theorem dX5_treaty_168 : decode cX5_treaty 168 = .ok (.ireturn, 1) := by decide +kernel
theorem dX5_divisor_0 : decode cX5_divisor 0 = .ok (.lload_n 0, 1) := by decide +kernel
theorem dX5_divisor_1 : decode cX5_divisor 1 = .ok (.lstore 4, 2) := by decide +kernel
theorem dX5_divisor_3 : decode cX5_divisor 3 = .ok (.lload_n 2, 1) := by decide +kernel
theorem dX5_divisor_4 : decode cX5_divisor 4 = .ok (.lstore 6, 2) := by decide +kernel
theorem dX5_divisor_6 : decode cX5_divisor 6 = .ok (.lload 6, 2) := by decide +kernel
theorem dX5_divisor_8 : decode cX5_divisor 8 = .ok (.lconst 0, 1) := by decide +kernel
theorem dX5_divisor_9 : decode cX5_divisor 9 = .ok (.lcmp, 1) := by decide +kernel
theorem dX5_divisor_10 : decode cX5_divisor 10 = .ok (.ifCond .eq 21, 3) := by decide +kernel
theorem dX5_divisor_13 : decode cX5_divisor 13 = .ok (.lload 4, 2) := by decide +kernel
theorem dX5_divisor_15 : decode cX5_divisor 15 = .ok (.lload 6, 2) := by decide +kernel
theorem dX5_divisor_17 : decode cX5_divisor 17 = .ok (.lrem, 1) := by decide +kernel
theorem dX5_divisor_18 : decode cX5_divisor 18 = .ok (.lstore 8, 2) := by decide +kernel
theorem dX5_divisor_20 : decode cX5_divisor 20 = .ok (.lload 6, 2) := by decide +kernel
theorem dX5_divisor_22 : decode cX5_divisor 22 = .ok (.lstore 4, 2) := by decide +kernel
theorem dX5_divisor_24 : decode cX5_divisor 24 = .ok (.lload 8, 2) := by decide +kernel
theorem dX5_divisor_26 : decode cX5_divisor 26 = .ok (.lstore 6, 2) := by decide +kernel
theorem dX5_divisor_28 : decode cX5_divisor 28 = .ok (.goto (-22), 3) := by decide +kernel
theorem dX5_divisor_31 : decode cX5_divisor 31 = .ok (.lload 4, 2) := by decide +kernel
theorem dX5_divisor_33 : decode cX5_divisor 33 = .ok (.lreturn, 1) := by decide +kernel
set_option maxRecDepth 20000 in
theorem ggX5_partOf_X5_divisor : GoodIn wsX5_partOf wsX5_divisor := goodIn_r _ [4] (by decide +kernel) (by decide +kernel)
set_option maxRecDepth 20000 in
theorem gX5_partOf_X5_divisor : GoodIn wsX5_partOf (va_wsS RX5 269 yX5_divisor wsX5_divisor) := goodIn_app (goodIn_of _ (by decide +kernel)) ggX5_partOf_X5_divisor
theorem dX5_partOf_0 : decode cX5_partOf 0 = .ok (.iload 4, 2) := by decide +kernel
theorem dX5_partOf_2 : decode cX5_partOf 2 = .ok (.ifCond .ne 7, 3) := by decide +kernel
theorem dX5_partOf_5 : decode cX5_partOf 5 = .ok (.lload_n 0, 1) := by decide +kernel
theorem dX5_partOf_6 : decode cX5_partOf 6 = .ok (.goto 4, 3) := by decide +kernel
theorem dX5_partOf_9 : decode cX5_partOf 9 = .ok (.lload_n 2, 1) := by decide +kernel
theorem dX5_partOf_10 : decode cX5_partOf 10 = .ok (.lload_n 0, 1) := by decide +kernel
theorem dX5_partOf_11 : decode cX5_partOf 11 = .ok (.lload_n 2, 1) := by decide +kernel
theorem dX5_partOf_12 : decode cX5_partOf 12 = .ok (.invokestatic 269, 3) := by decide +kernel
theorem dX5_partOf_15 : decode cX5_partOf 15 = .ok (.ldiv, 1) := by decide +kernel
theorem dX5_partOf_16 : decode cX5_partOf 16 = .ok (.lreturn, 1) := by decide +kernel
set_option maxRecDepth 20000 in
theorem ggX5_thunder_X5_isShore : GoodIn wsX5_thunder wsX5_isShore := goodIn_r _ [5, 6, 100, 101, 102, 103, 104, 105, 106, 107, 108, 109, 110, 111, 112, 113, 114, 115, 116, 117, 118, 119, 120, 121, 122, 123, 124, 125, 126, 127, 128, 129, 130, 131, 132] (by decide +kernel) (by decide +kernel)
set_option maxRecDepth 20000 in
theorem gX5_thunder_X5_isShore : GoodIn wsX5_thunder (wsV RX5 123 RX5 yX5_isShore wsX5_isShore) := goodIn_app (goodIn_of _ (by decide +kernel)) ggX5_thunder_X5_isShore
set_option maxRecDepth 20000 in
theorem ggX5_thunder_X5_isIn : GoodIn wsX5_thunder wsX5_isIn := goodIn_r _ [9] (by decide +kernel) (by decide +kernel)
set_option maxRecDepth 20000 in
theorem gX5_thunder_X5_isIn : GoodIn wsX5_thunder (va_wsS RX5 88 yX5_isIn wsX5_isIn) := goodIn_app (goodIn_of _ (by decide +kernel)) ggX5_thunder_X5_isIn
set_option maxRecDepth 20000 in
theorem ggX5_thunder_X5_lowestOf : GoodIn wsX5_thunder wsX5_lowestOf := goodIn_r _ [13, 14, 15, 100, 101, 102, 103, 104, 105, 106, 107, 108, 109, 110, 111, 112, 113, 114, 115, 116, 117, 118, 119, 120, 121, 122, 123, 124, 125, 126, 127, 128, 129, 130, 131, 132] (by decide +kernel) (by decide +kernel)
set_option maxRecDepth 20000 in
theorem gX5_thunder_X5_lowestOf : GoodIn wsX5_thunder (wsV RX5 273 RX5 yX5_lowestOf wsX5_lowestOf) := goodIn_app (goodIn_of _ (by decide +kernel)) ggX5_thunder_X5_lowestOf
set_option maxRecDepth 20000 in
theorem ggX5_thunder_X5_thinks : GoodIn wsX5_thunder wsX5_thinks := goodIn_r _ [19, 20, 21, 22, 4, 23, 24, 25, 26, 27, 28, 29, 30, 6, 31, 32, 33, 34, 35, 36, 37, 38, 39, 40, 41, 42, 43, 44, 100, 101, 102, 103, 104, 105, 106, 107, 108, 109, 110, 111, 112, 113, 114, 115, 116, 117, 118, 119, 120, 121, 122, 123, 124, 125, 126, 127, 128, 129, 130, 131, 132] (by decide +kernel) (by decide +kernel)
set_option maxRecDepth 20000 in
theorem gX5_thunder_X5_thinks : GoodIn wsX5_thunder (wsV RX5 210 RX5 yX5_thinks wsX5_thinks) := goodIn_app (goodIn_of _ (by decide +kernel)) ggX5_thunder_X5_thinks
set_option maxRecDepth 20000 in
theorem ggX5_thunder_X5_has : GoodIn wsX5_thunder wsX5_has := goodIn_r _ [47] (by decide +kernel) (by decide +kernel)
set_option maxRecDepth 20000 in
theorem gX5_thunder_X5_has : GoodIn wsX5_thunder (va_wsS RX5 166 yX5_has wsX5_has) := goodIn_app (goodIn_of _ (by decide +kernel)) ggX5_thunder_X5_has
set_option maxRecDepth 20000 in
theorem ggX5_thunder_X5_goesHour : GoodIn wsX5_thunder wsX5_goesHour := goodIn_r _ [51, 34, 6, 29, 28, 35, 30, 52, 53, 54, 4, 55, 56, 57, 58, 59, 31, 32, 45, 46, 47, 60, 61, 62, 63, 26, 27, 64, 65, 66, 67, 7, 8, 9, 68, 69, 70, 71, 72, 73, 74, 75, 76, 77, 78, 33, 79, 80, 81, 82, 83, 84, 85, 86, 87, 88, 89, 100, 101, 102, 103, 104, 105, 106, 107, 108, 109, 110, 111, 112, 113, 114, 115, 116, 117, 118, 119, 120, 121, 122, 123, 124, 125, 126, 127, 128, 129, 130, 131, 132] (by decide +kernel) (by decide +kernel)
set_option maxRecDepth 20000 in
theorem gX5_thunder_X5_goesHour : GoodIn wsX5_thunder (wsV RX5 197 RX5 yX5_goesHour wsX5_goesHour) := goodIn_app (goodIn_of _ (by decide +kernel)) ggX5_thunder_X5_goesHour
set_option maxRecDepth 20000 in
theorem ggX5_thunder_X5_holder : GoodIn wsX5_thunder wsX5_holder := goodIn_r _ [85, 32, 86, 87, 88, 4, 89, 6, 28, 100, 101, 102, 103, 104, 105, 106, 107, 108, 109, 110, 111, 112, 113, 114, 115, 116, 117, 118, 119, 120, 121, 122, 123, 124, 125, 126, 127, 128, 129, 130, 131, 132] (by decide +kernel) (by decide +kernel)
set_option maxRecDepth 20000 in
theorem gX5_thunder_X5_holder : GoodIn wsX5_thunder (wsV RX5 194 RX5 yX5_holder wsX5_holder) := goodIn_app (goodIn_of _ (by decide +kernel)) ggX5_thunder_X5_holder
set_option maxRecDepth 20000 in
theorem ggX5_thunder_X5_forgets : GoodIn wsX5_thunder wsX5_forgets := goodIn_r _ [93, 20, 21, 22, 4, 23, 24, 25, 26, 27, 28, 29, 30, 6, 31, 32, 33, 34, 35, 36, 37, 38, 39, 40, 41, 42, 43, 44, 100, 101, 102, 103, 104, 105, 106, 107, 108, 109, 110, 111, 112, 113, 114, 115, 116, 117, 118, 119, 120, 121, 122, 123, 124, 125, 126, 127, 128, 129, 130, 131, 132] (by decide +kernel) (by decide +kernel)
set_option maxRecDepth 20000 in
theorem gX5_thunder_X5_forgets : GoodIn wsX5_thunder (wsV RX5 213 RX5 yX5_forgets wsX5_forgets) := goodIn_app (goodIn_of _ (by decide +kernel)) ggX5_thunder_X5_forgets
set_option maxRecDepth 20000 in
theorem ggX5_thunder_X5_partOf : GoodIn wsX5_thunder wsX5_partOf := goodIn_r _ [96, 97, 98, 4, 99] (by decide +kernel) (by decide +kernel)
set_option maxRecDepth 20000 in
theorem gX5_thunder_X5_partOf : GoodIn wsX5_thunder (va_wsS RX5 277 yX5_partOf wsX5_partOf) := goodIn_app (goodIn_of _ (by decide +kernel)) ggX5_thunder_X5_partOf
theorem dX5_thunder_0 : decode cX5_thunder 0 = .ok (.aload_n 0, 1) := by decide +kernel
theorem dX5_thunder_1 : decode cX5_thunder 1 = .ok (.iload_n 1, 1) := by decide +kernel
theorem dX5_thunder_2 : decode cX5_thunder 2 = .ok (.invokevirtual 123, 3) := by decide +kernel
theorem dX5_thunder_5 : decode cX5_thunder 5 = .ok (.ifCond .ne 7, 3) := by decide +kernel
theorem dX5_thunder_8 : decode cX5_thunder 8 = .ok (.iconst (-1), 1) := by decide +kernel
theorem dX5_thunder_9 : decode cX5_thunder 9 = .ok (.goto 50, 3) := by decide +kernel
theorem dX5_thunder_12 : decode cX5_thunder 12 = .ok (.iload_n 2, 1) := by decide +kernel
theorem dX5_thunder_13 : decode cX5_thunder 13 = .ok (.ifCond .lt 8, 3) := by decide +kernel
theorem dX5_thunder_16 : decode cX5_thunder 16 = .ok (.iload_n 3, 1) := by decide +kernel
theorem dX5_thunder_17 : decode cX5_thunder 17 = .ok (.iconst 2, 1) := by decide +kernel
theorem dX5_thunder_18 : decode cX5_thunder 18 = .ok (.if_icmp .ge 8, 3) := by decide +kernel
theorem dX5_thunder_21 : decode cX5_thunder 21 = .ok (.bipush (-4), 2) := by decide +kernel
theorem dX5_thunder_23 : decode cX5_thunder 23 = .ok (.goto 36, 3) := by decide +kernel
theorem dX5_thunder_26 : decode cX5_thunder 26 = .ok (.iload_n 2, 1) := by decide +kernel
theorem dX5_thunder_27 : decode cX5_thunder 27 = .ok (.bipush 7, 2) := by decide +kernel
theorem dX5_thunder_29 : decode cX5_thunder 29 = .ok (.if_icmp .gt 9, 3) := by decide +kernel
theorem dX5_thunder_32 : decode cX5_thunder 32 = .ok (.iload_n 3, 1) := by decide +kernel
theorem dX5_thunder_33 : decode cX5_thunder 33 = .ok (.bipush 20, 2) := by decide +kernel
theorem dX5_thunder_35 : decode cX5_thunder 35 = .ok (.if_icmp .le 8, 3) := by decide +kernel
theorem dX5_thunder_38 : decode cX5_thunder 38 = .ok (.bipush (-6), 2) := by decide +kernel
theorem dX5_thunder_40 : decode cX5_thunder 40 = .ok (.goto 19, 3) := by decide +kernel
theorem dX5_thunder_43 : decode cX5_thunder 43 = .ok (.iload 4, 2) := by decide +kernel
theorem dX5_thunder_45 : decode cX5_thunder 45 = .ok (.iconst 0, 1) := by decide +kernel
theorem dX5_thunder_46 : decode cX5_thunder 46 = .ok (.iconst 1, 1) := by decide +kernel
theorem dX5_thunder_47 : decode cX5_thunder 47 = .ok (.invokestatic 88, 3) := by decide +kernel
theorem dX5_thunder_50 : decode cX5_thunder 50 = .ok (.ifCond .ne 8, 3) := by decide +kernel
theorem dX5_thunder_53 : decode cX5_thunder 53 = .ok (.bipush (-2), 2) := by decide +kernel
theorem dX5_thunder_55 : decode cX5_thunder 55 = .ok (.goto 4, 3) := by decide +kernel
theorem dX5_thunder_58 : decode cX5_thunder 58 = .ok (.iconst 0, 1) := by decide +kernel
theorem dX5_thunder_59 : decode cX5_thunder 59 = .ok (.istore 5, 2) := by decide +kernel
theorem dX5_thunder_61 : decode cX5_thunder 61 = .ok (.iload 5, 2) := by decide +kernel
theorem dX5_thunder_63 : decode cX5_thunder 63 = .ok (.ifCond .eq 10, 3) := by decide +kernel
theorem dX5_thunder_66 : decode cX5_thunder 66 = .ok (.aload_n 0, 1) := by decide +kernel
theorem dX5_thunder_67 : decode cX5_thunder 67 = .ok (.iload 5, 2) := by decide +kernel
theorem dX5_thunder_69 : decode cX5_thunder 69 = .ok (.invokevirtual 273, 3) := by decide +kernel
theorem dX5_thunder_72 : decode cX5_thunder 72 = .ok (.lreturn, 1) := by decide +kernel
theorem dX5_thunder_73 : decode cX5_thunder 73 = .ok (.lconst 0, 1) := by decide +kernel
theorem dX5_thunder_74 : decode cX5_thunder 74 = .ok (.lstore 6, 2) := by decide +kernel
theorem dX5_thunder_76 : decode cX5_thunder 76 = .ok (.lconst 1, 1) := by decide +kernel
theorem dX5_thunder_77 : decode cX5_thunder 77 = .ok (.lstore 8, 2) := by decide +kernel
theorem dX5_thunder_79 : decode cX5_thunder 79 = .ok (.iconst 0, 1) := by decide +kernel
theorem dX5_thunder_80 : decode cX5_thunder 80 = .ok (.istore 10, 2) := by decide +kernel
theorem dX5_thunder_82 : decode cX5_thunder 82 = .ok (.iload 10, 2) := by decide +kernel
theorem dX5_thunder_84 : decode cX5_thunder 84 = .ok (.iload_n 2, 1) := by decide +kernel
theorem dX5_thunder_85 : decode cX5_thunder 85 = .ok (.if_icmp .ge 16, 3) := by decide +kernel
theorem dX5_thunder_88 : decode cX5_thunder 88 = .ok (.lload 8, 2) := by decide +kernel
theorem dX5_thunder_90 : decode cX5_thunder 90 = .ok (.iload_n 3, 1) := by decide +kernel
theorem dX5_thunder_91 : decode cX5_thunder 91 = .ok (.i2l, 1) := by decide +kernel
theorem dX5_thunder_92 : decode cX5_thunder 92 = .ok (.lmul, 1) := by decide +kernel
theorem dX5_thunder_93 : decode cX5_thunder 93 = .ok (.lstore 8, 2) := by decide +kernel
theorem dX5_thunder_95 : decode cX5_thunder 95 = .ok (.iinc 10 1, 3) := by decide +kernel
theorem dX5_thunder_98 : decode cX5_thunder 98 = .ok (.goto (-16), 3) := by decide +kernel
theorem dX5_thunder_101 : decode cX5_thunder 101 = .ok (.iconst 0, 1) := by decide +kernel
theorem dX5_thunder_102 : decode cX5_thunder 102 = .ok (.istore 10, 2) := by decide +kernel
theorem dX5_thunder_104 : decode cX5_thunder 104 = .ok (.iload 10, 2) := by decide +kernel
theorem dX5_thunder_106 : decode cX5_thunder 106 = .ok (.iconst 1, 1) := by decide +kernel
theorem dX5_thunder_107 : decode cX5_thunder 107 = .ok (.iload_n 2, 1) := by decide +kernel
theorem dX5_thunder_108 : decode cX5_thunder 108 = .ok (.ishl, 1) := by decide +kernel
theorem dX5_thunder_109 : decode cX5_thunder 109 = .ok (.if_icmp .ge 88, 3) := by decide +kernel
theorem dX5_thunder_112 : decode cX5_thunder 112 = .ok (.aload_n 0, 1) := by decide +kernel
theorem dX5_thunder_113 : decode cX5_thunder 113 = .ok (.invokevirtual 210, 3) := by decide +kernel
theorem dX5_thunder_116 : decode cX5_thunder 116 = .ok (.lconst 1, 1) := by decide +kernel
theorem dX5_thunder_117 : decode cX5_thunder 117 = .ok (.lstore 11, 2) := by decide +kernel
theorem dX5_thunder_119 : decode cX5_thunder 119 = .ok (.iconst 0, 1) := by decide +kernel
theorem dX5_thunder_120 : decode cX5_thunder 120 = .ok (.istore 13, 2) := by decide +kernel
theorem dX5_thunder_122 : decode cX5_thunder 122 = .ok (.iload 13, 2) := by decide +kernel
theorem dX5_thunder_124 : decode cX5_thunder 124 = .ok (.iload_n 2, 1) := by decide +kernel
theorem dX5_thunder_125 : decode cX5_thunder 125 = .ok (.if_icmp .ge 43, 3) := by decide +kernel
theorem dX5_thunder_128 : decode cX5_thunder 128 = .ok (.lload 11, 2) := by decide +kernel
theorem dX5_thunder_130 : decode cX5_thunder 130 = .ok (.iload 10, 2) := by decide +kernel
theorem dX5_thunder_132 : decode cX5_thunder 132 = .ok (.iload 13, 2) := by decide +kernel
theorem dX5_thunder_134 : decode cX5_thunder 134 = .ok (.invokestatic 166, 3) := by decide +kernel
theorem dX5_thunder_137 : decode cX5_thunder 137 = .ok (.ifCond .eq 7, 3) := by decide +kernel
theorem dX5_thunder_140 : decode cX5_thunder 140 = .ok (.lconst 1, 1) := by decide +kernel
theorem dX5_thunder_141 : decode cX5_thunder 141 = .ok (.goto 7, 3) := by decide +kernel
theorem dX5_thunder_144 : decode cX5_thunder 144 = .ok (.iload_n 3, 1) := by decide +kernel
theorem dX5_thunder_145 : decode cX5_thunder 145 = .ok (.iconst 1, 1) := by decide +kernel
theorem dX5_thunder_146 : decode cX5_thunder 146 = .ok (.isub, 1) := by decide +kernel
theorem dX5_thunder_147 : decode cX5_thunder 147 = .ok (.i2l, 1) := by decide +kernel
theorem dX5_thunder_148 : decode cX5_thunder 148 = .ok (.lmul, 1) := by decide +kernel
theorem dX5_thunder_149 : decode cX5_thunder 149 = .ok (.lstore 11, 2) := by decide +kernel
theorem dX5_thunder_151 : decode cX5_thunder 151 = .ok (.aload_n 0, 1) := by decide +kernel
theorem dX5_thunder_152 : decode cX5_thunder 152 = .ok (.iload 10, 2) := by decide +kernel
theorem dX5_thunder_154 : decode cX5_thunder 154 = .ok (.iload 13, 2) := by decide +kernel
theorem dX5_thunder_156 : decode cX5_thunder 156 = .ok (.invokestatic 166, 3) := by decide +kernel
theorem dX5_thunder_159 : decode cX5_thunder 159 = .ok (.invokevirtual 197, 3) := by decide +kernel
theorem dX5_thunder_162 : decode cX5_thunder 162 = .ok (.iinc 13 1, 3) := by decide +kernel
theorem dX5_thunder_165 : decode cX5_thunder 165 = .ok (.goto (-43), 3) := by decide +kernel
theorem dX5_thunder_168 : decode cX5_thunder 168 = .ok (.lload 6, 2) := by decide +kernel
theorem dX5_thunder_170 : decode cX5_thunder 170 = .ok (.aload_n 0, 1) := by decide +kernel
theorem dX5_thunder_171 : decode cX5_thunder 171 = .ok (.invokevirtual 194, 3) := by decide +kernel
theorem dX5_thunder_174 : decode cX5_thunder 174 = .ok (.iload_n 1, 1) := by decide +kernel
theorem dX5_thunder_175 : decode cX5_thunder 175 = .ok (.if_icmp .ne 8, 3) := by decide +kernel
theorem dX5_thunder_178 : decode cX5_thunder 178 = .ok (.lload 11, 2) := by decide +kernel
theorem dX5_thunder_180 : decode cX5_thunder 180 = .ok (.goto 4, 3) := by decide +kernel
theorem dX5_thunder_183 : decode cX5_thunder 183 = .ok (.lconst 0, 1) := by decide +kernel
theorem dX5_thunder_184 : decode cX5_thunder 184 = .ok (.ladd, 1) := by decide +kernel
theorem dX5_thunder_185 : decode cX5_thunder 185 = .ok (.lstore 6, 2) := by decide +kernel
theorem dX5_thunder_187 : decode cX5_thunder 187 = .ok (.aload_n 0, 1) := by decide +kernel
theorem dX5_thunder_188 : decode cX5_thunder 188 = .ok (.invokevirtual 213, 3) := by decide +kernel
theorem dX5_thunder_191 : decode cX5_thunder 191 = .ok (.iinc 10 1, 3) := by decide +kernel
theorem dX5_thunder_194 : decode cX5_thunder 194 = .ok (.goto (-90), 3) := by decide +kernel
theorem dX5_thunder_197 : decode cX5_thunder 197 = .ok (.lload 6, 2) := by decide +kernel
theorem dX5_thunder_199 : decode cX5_thunder 199 = .ok (.lload 8, 2) := by decide +kernel
theorem dX5_thunder_201 : decode cX5_thunder 201 = .ok (.iload 4, 2) := by decide +kernel
theorem dX5_thunder_203 : decode cX5_thunder 203 = .ok (.invokestatic 277, 3) := by decide +kernel
theorem dX5_thunder_206 : decode cX5_thunder 206 = .ok (.lreturn, 1) := by decide +kernel
set_option maxRecDepth 20000 in
theorem ggX5_nearest_X5_isIn : GoodIn wsX5_nearest wsX5_isIn := goodIn_r _ [7] (by decide +kernel) (by decide +kernel)
set_option maxRecDepth 20000 in
theorem gX5_nearest_X5_isIn : GoodIn wsX5_nearest (va_wsS RX5 88 yX5_isIn wsX5_isIn) := goodIn_app (goodIn_of _ (by decide +kernel)) ggX5_nearest_X5_isIn
set_option maxRecDepth 20000 in
theorem ggX5_nearest_X5_no : GoodIn wsX5_nearest wsX5_no := goodIn_r _ [11, 12, 16, 17, 18, 19, 20, 21, 22, 23, 24, 25, 26, 27, 28, 29, 30, 31, 32, 33, 34, 35, 36, 37, 38, 39, 40, 41, 42, 43, 44, 45, 46, 47, 48] (by decide +kernel) (by decide +kernel)
set_option maxRecDepth 20000 in
theorem gX5_nearest_X5_no : GoodIn wsX5_nearest (wsV RX5 77 RX5 yX5_no wsX5_no) := goodIn_app (goodIn_of _ (by decide +kernel)) ggX5_nearest_X5_no
set_option maxRecDepth 20000 in
theorem ggX5_nearest_X5_far : GoodIn wsX5_nearest wsX5_far := goodIn_r _ [15] (by decide +kernel) (by decide +kernel)
set_option maxRecDepth 20000 in
theorem gX5_nearest_X5_far : GoodIn wsX5_nearest (va_wsS RX5 179 yX5_far wsX5_far) := goodIn_app (goodIn_of _ (by decide +kernel)) ggX5_nearest_X5_far
theorem dX5_nearest_0 : decode cX5_nearest 0 = .ok (.iload_n 1, 1) := by decide +kernel
theorem dX5_nearest_1 : decode cX5_nearest 1 = .ok (.iconst 0, 1) := by decide +kernel
theorem dX5_nearest_2 : decode cX5_nearest 2 = .ok (.iconst 1, 1) := by decide +kernel
theorem dX5_nearest_3 : decode cX5_nearest 3 = .ok (.invokestatic 88, 3) := by decide +kernel
theorem dX5_nearest_6 : decode cX5_nearest 6 = .ok (.ifCond .ne 10, 3) := by decide +kernel
theorem dX5_nearest_9 : decode cX5_nearest 9 = .ok (.aload_n 0, 1) := by decide +kernel
theorem dX5_nearest_10 : decode cX5_nearest 10 = .ok (.bipush (-2), 2) := by decide +kernel
theorem dX5_nearest_12 : decode cX5_nearest 12 = .ok (.invokevirtual 77, 3) := by decide +kernel
theorem dX5_nearest_15 : decode cX5_nearest 15 = .ok (.ireturn, 1) := by decide +kernel
theorem dX5_nearest_16 : decode cX5_nearest 16 = .ok (.bipush (-9), 2) := by decide +kernel
theorem dX5_nearest_18 : decode cX5_nearest 18 = .ok (.istore_n 2, 1) := by decide +kernel
theorem dX5_nearest_19 : decode cX5_nearest 19 = .ok (.iconst 0, 1) := by decide +kernel
theorem dX5_nearest_20 : decode cX5_nearest 20 = .ok (.istore_n 3, 1) := by decide +kernel
theorem dX5_nearest_21 : decode cX5_nearest 21 = .ok (.iload_n 3, 1) := by decide +kernel
theorem dX5_nearest_22 : decode cX5_nearest 22 = .ok (.aload_n 0, 1) := by decide +kernel
theorem dX5_nearest_23 : decode cX5_nearest 23 = .ok (.getfield 67, 3) := by decide +kernel
theorem dX5_nearest_26 : decode cX5_nearest 26 = .ok (.if_icmp .ge 44, 3) := by decide +kernel
theorem dX5_nearest_29 : decode cX5_nearest 29 = .ok (.iload_n 2, 1) := by decide +kernel
theorem dX5_nearest_30 : decode cX5_nearest 30 = .ok (.ifCond .lt 32, 3) := by decide +kernel
theorem dX5_nearest_33 : decode cX5_nearest 33 = .ok (.aload_n 0, 1) := by decide +kernel
theorem dX5_nearest_34 : decode cX5_nearest 34 = .ok (.getfield 19, 3) := by decide +kernel
theorem dX5_nearest_37 : decode cX5_nearest 37 = .ok (.iload_n 3, 1) := by decide +kernel
theorem dX5_nearest_38 : decode cX5_nearest 38 = .ok (.iaload, 1) := by decide +kernel
theorem dX5_nearest_39 : decode cX5_nearest 39 = .ok (.aload_n 0, 1) := by decide +kernel
theorem dX5_nearest_40 : decode cX5_nearest 40 = .ok (.getfield 55, 3) := by decide +kernel
theorem dX5_nearest_43 : decode cX5_nearest 43 = .ok (.invokestatic 179, 3) := by decide +kernel
theorem dX5_nearest_46 : decode cX5_nearest 46 = .ok (.aload_n 0, 1) := by decide +kernel
theorem dX5_nearest_47 : decode cX5_nearest 47 = .ok (.getfield 19, 3) := by decide +kernel
theorem dX5_nearest_50 : decode cX5_nearest 50 = .ok (.iload_n 2, 1) := by decide +kernel
theorem dX5_nearest_51 : decode cX5_nearest 51 = .ok (.iaload, 1) := by decide +kernel
theorem dX5_nearest_52 : decode cX5_nearest 52 = .ok (.aload_n 0, 1) := by decide +kernel
theorem dX5_nearest_53 : decode cX5_nearest 53 = .ok (.getfield 55, 3) := by decide +kernel
theorem dX5_nearest_56 : decode cX5_nearest 56 = .ok (.invokestatic 179, 3) := by decide +kernel
theorem dX5_nearest_59 : decode cX5_nearest 59 = .ok (.if_icmp .ge 5, 3) := by decide +kernel
theorem dX5_nearest_62 : decode cX5_nearest 62 = .ok (.iload_n 3, 1) := by decide +kernel
theorem dX5_nearest_63 : decode cX5_nearest 63 = .ok (.istore_n 2, 1) := by decide +kernel
theorem dX5_nearest_64 : decode cX5_nearest 64 = .ok (.iinc 3 1, 3) := by decide +kernel
theorem dX5_nearest_67 : decode cX5_nearest 67 = .ok (.goto (-46), 3) := by decide +kernel
theorem dX5_nearest_70 : decode cX5_nearest 70 = .ok (.iload_n 1, 1) := by decide +kernel
theorem dX5_nearest_71 : decode cX5_nearest 71 = .ok (.ifCond .eq 7, 3) := by decide +kernel
theorem dX5_nearest_74 : decode cX5_nearest 74 = .ok (.iload_n 2, 1) := by decide +kernel
theorem dX5_nearest_75 : decode cX5_nearest 75 = .ok (.ifCond .ge 7, 3) := by decide +kernel
theorem dX5_nearest_78 : decode cX5_nearest 78 = .ok (.iload_n 2, 1) := by decide +kernel
theorem dX5_nearest_79 : decode cX5_nearest 79 = .ok (.goto 16, 3) := by decide +kernel
theorem dX5_nearest_82 : decode cX5_nearest 82 = .ok (.aload_n 0, 1) := by decide +kernel
theorem dX5_nearest_83 : decode cX5_nearest 83 = .ok (.getfield 19, 3) := by decide +kernel
theorem dX5_nearest_86 : decode cX5_nearest 86 = .ok (.iload_n 2, 1) := by decide +kernel
theorem dX5_nearest_87 : decode cX5_nearest 87 = .ok (.iaload, 1) := by decide +kernel
theorem dX5_nearest_88 : decode cX5_nearest 88 = .ok (.aload_n 0, 1) := by decide +kernel
theorem dX5_nearest_89 : decode cX5_nearest 89 = .ok (.getfield 55, 3) := by decide +kernel
theorem dX5_nearest_92 : decode cX5_nearest 92 = .ok (.invokestatic 179, 3) := by decide +kernel
theorem dX5_nearest_95 : decode cX5_nearest 95 = .ok (.ireturn, 1) := by decide +kernel
theorem dX5_allJoy_0 : decode cX5_allJoy 0 = .ok (.iconst 0, 1) := by decide +kernel
theorem dX5_allJoy_1 : decode cX5_allJoy 1 = .ok (.istore_n 1, 1) := by decide +kernel
theorem dX5_allJoy_2 : decode cX5_allJoy 2 = .ok (.iconst 0, 1) := by decide +kernel
theorem dX5_allJoy_3 : decode cX5_allJoy 3 = .ok (.istore_n 2, 1) := by decide +kernel
theorem dX5_allJoy_4 : decode cX5_allJoy 4 = .ok (.iload_n 2, 1) := by decide +kernel
theorem dX5_allJoy_5 : decode cX5_allJoy 5 = .ok (.aload_n 0, 1) := by decide +kernel
theorem dX5_allJoy_6 : decode cX5_allJoy 6 = .ok (.getfield 67, 3) := by decide +kernel
theorem dX5_allJoy_9 : decode cX5_allJoy 9 = .ok (.if_icmp .ge 18, 3) := by decide +kernel
theorem dX5_allJoy_12 : decode cX5_allJoy 12 = .ok (.iload_n 1, 1) := by decide +kernel
theorem dX5_allJoy_13 : decode cX5_allJoy 13 = .ok (.aload_n 0, 1) := by decide +kernel
theorem dX5_allJoy_14 : decode cX5_allJoy 14 = .ok (.getfield 25, 3) := by decide +kernel
theorem dX5_allJoy_17 : decode cX5_allJoy 17 = .ok (.iload_n 2, 1) := by decide +kernel
theorem dX5_allJoy_18 : decode cX5_allJoy 18 = .ok (.iaload, 1) := by decide +kernel
theorem dX5_allJoy_19 : decode cX5_allJoy 19 = .ok (.iadd, 1) := by decide +kernel
theorem dX5_allJoy_20 : decode cX5_allJoy 20 = .ok (.istore_n 1, 1) := by decide +kernel
theorem dX5_allJoy_21 : decode cX5_allJoy 21 = .ok (.iinc 2 1, 3) := by decide +kernel
theorem dX5_allJoy_24 : decode cX5_allJoy 24 = .ok (.goto (-20), 3) := by decide +kernel
theorem dX5_allJoy_27 : decode cX5_allJoy 27 = .ok (.iload_n 1, 1) := by decide +kernel
theorem dX5_allJoy_28 : decode cX5_allJoy 28 = .ok (.ireturn, 1) := by decide +kernel
theorem dX5_joyless_0 : decode cX5_joyless 0 = .ok (.iconst 0, 1) := by decide +kernel
theorem dX5_joyless_1 : decode cX5_joyless 1 = .ok (.istore_n 1, 1) := by decide +kernel
theorem dX5_joyless_2 : decode cX5_joyless 2 = .ok (.iconst 0, 1) := by decide +kernel
theorem dX5_joyless_3 : decode cX5_joyless 3 = .ok (.istore_n 2, 1) := by decide +kernel
theorem dX5_joyless_4 : decode cX5_joyless 4 = .ok (.iload_n 2, 1) := by decide +kernel
theorem dX5_joyless_5 : decode cX5_joyless 5 = .ok (.aload_n 0, 1) := by decide +kernel
theorem dX5_joyless_6 : decode cX5_joyless 6 = .ok (.getfield 67, 3) := by decide +kernel
theorem dX5_joyless_9 : decode cX5_joyless 9 = .ok (.if_icmp .ge 28, 3) := by decide +kernel
theorem dX5_joyless_12 : decode cX5_joyless 12 = .ok (.iload_n 1, 1) := by decide +kernel
theorem dX5_joyless_13 : decode cX5_joyless 13 = .ok (.aload_n 0, 1) := by decide +kernel
theorem dX5_joyless_14 : decode cX5_joyless 14 = .ok (.getfield 25, 3) := by decide +kernel
theorem dX5_joyless_17 : decode cX5_joyless 17 = .ok (.iload_n 2, 1) := by decide +kernel
theorem dX5_joyless_18 : decode cX5_joyless 18 = .ok (.iaload, 1) := by decide +kernel
theorem dX5_joyless_19 : decode cX5_joyless 19 = .ok (.ifCond .ne 9, 3) := by decide +kernel
theorem dX5_joyless_22 : decode cX5_joyless 22 = .ok (.iconst 1, 1) := by decide +kernel
theorem dX5_joyless_23 : decode cX5_joyless 23 = .ok (.iload_n 2, 1) := by decide +kernel
theorem dX5_joyless_24 : decode cX5_joyless 24 = .ok (.ishl, 1) := by decide +kernel
theorem dX5_joyless_25 : decode cX5_joyless 25 = .ok (.goto 4, 3) := by decide +kernel
theorem dX5_joyless_28 : decode cX5_joyless 28 = .ok (.iconst 0, 1) := by decide +kernel
theorem dX5_joyless_29 : decode cX5_joyless 29 = .ok (.ior, 1) := by decide +kernel
theorem dX5_joyless_30 : decode cX5_joyless 30 = .ok (.istore_n 1, 1) := by decide +kernel
theorem dX5_joyless_31 : decode cX5_joyless 31 = .ok (.iinc 2 1, 3) := by decide +kernel
theorem dX5_joyless_34 : decode cX5_joyless 34 = .ok (.goto (-30), 3) := by decide +kernel
theorem dX5_joyless_37 : decode cX5_joyless 37 = .ok (.iload_n 1, 1) := by decide +kernel
theorem dX5_joyless_38 : decode cX5_joyless 38 = .ok (.ireturn, 1) := by decide +kernel
set_option maxRecDepth 20000 in
theorem ggX5_shared_X5_isIn : GoodIn wsX5_shared wsX5_isIn := goodIn_r _ [5] (by decide +kernel) (by decide +kernel)
set_option maxRecDepth 20000 in
theorem gX5_shared_X5_isIn : GoodIn wsX5_shared (va_wsS RX5 88 yX5_isIn wsX5_isIn) := goodIn_app (goodIn_of _ (by decide +kernel)) ggX5_shared_X5_isIn
set_option maxRecDepth 20000 in
theorem ggX5_shared_X5_no : GoodIn wsX5_shared wsX5_no := goodIn_r _ [9, 10, 20, 21, 22, 23, 24, 25, 26, 27, 28, 29, 30, 31, 32, 33, 34, 35, 36, 37, 38, 39, 40, 41, 42, 43, 44, 45, 46, 47, 48, 49, 50, 51, 52] (by decide +kernel) (by decide +kernel)
set_option maxRecDepth 20000 in
theorem gX5_shared_X5_no : GoodIn wsX5_shared (wsV RX5 77 RX5 yX5_no wsX5_no) := goodIn_app (goodIn_of _ (by decide +kernel)) ggX5_shared_X5_no
set_option maxRecDepth 20000 in
theorem ggX5_shared_X5_joyless : GoodIn wsX5_shared wsX5_joyless := goodIn_r _ [14, 1, 15, 20, 21, 22, 23, 24, 25, 26, 27, 28, 29, 30, 31, 32, 33, 34, 35, 36, 37, 38, 39, 40, 41, 42, 43, 44, 45, 46, 47, 48, 49, 50, 51, 52] (by decide +kernel) (by decide +kernel)
set_option maxRecDepth 20000 in
theorem gX5_shared_X5_joyless : GoodIn wsX5_shared (wsV RX5 281 RX5 yX5_joyless wsX5_joyless) := goodIn_app (goodIn_of _ (by decide +kernel)) ggX5_shared_X5_joyless
set_option maxRecDepth 20000 in
theorem ggX5_shared_X5_allJoy : GoodIn wsX5_shared wsX5_allJoy := goodIn_r _ [19, 1, 15, 20, 21, 22, 23, 24, 25, 26, 27, 28, 29, 30, 31, 32, 33, 34, 35, 36, 37, 38, 39, 40, 41, 42, 43, 44, 45, 46, 47, 48, 49, 50, 51, 52] (by decide +kernel) (by decide +kernel)
set_option maxRecDepth 20000 in
theorem gX5_shared_X5_allJoy : GoodIn wsX5_shared (wsV RX5 284 RX5 yX5_allJoy wsX5_allJoy) := goodIn_app (goodIn_of _ (by decide +kernel)) ggX5_shared_X5_allJoy
theorem dX5_shared_0 : decode cX5_shared 0 = .ok (.iload_n 1, 1) := by decide +kernel
theorem dX5_shared_1 : decode cX5_shared 1 = .ok (.iconst 0, 1) := by decide +kernel
theorem dX5_shared_2 : decode cX5_shared 2 = .ok (.iconst 2, 1) := by decide +kernel
theorem dX5_shared_3 : decode cX5_shared 3 = .ok (.invokestatic 88, 3) := by decide +kernel
theorem dX5_shared_6 : decode cX5_shared 6 = .ok (.ifCond .ne 10, 3) := by decide +kernel
theorem dX5_shared_9 : decode cX5_shared 9 = .ok (.aload_n 0, 1) := by decide +kernel
theorem dX5_shared_10 : decode cX5_shared 10 = .ok (.bipush (-2), 2) := by decide +kernel
theorem dX5_shared_12 : decode cX5_shared 12 = .ok (.invokevirtual 77, 3) := by decide +kernel
theorem dX5_shared_15 : decode cX5_shared 15 = .ok (.ireturn, 1) := by decide +kernel
theorem dX5_shared_16 : decode cX5_shared 16 = .ok (.iload_n 1, 1) := by decide +kernel
theorem dX5_shared_17 : decode cX5_shared 17 = .ok (.iconst 2, 1) := by decide +kernel
theorem dX5_shared_18 : decode cX5_shared 18 = .ok (.if_icmp .ne 8, 3) := by decide +kernel
theorem dX5_shared_21 : decode cX5_shared 21 = .ok (.aload_n 0, 1) := by decide +kernel
theorem dX5_shared_22 : decode cX5_shared 22 = .ok (.invokevirtual 281, 3) := by decide +kernel
theorem dX5_shared_25 : decode cX5_shared 25 = .ok (.ireturn, 1) := by decide +kernel
theorem dX5_shared_26 : decode cX5_shared 26 = .ok (.aload_n 0, 1) := by decide +kernel
theorem dX5_shared_27 : decode cX5_shared 27 = .ok (.getfield 67, 3) := by decide +kernel
theorem dX5_shared_30 : decode cX5_shared 30 = .ok (.ifCond .ne 7, 3) := by decide +kernel
theorem dX5_shared_33 : decode cX5_shared 33 = .ok (.iconst 0, 1) := by decide +kernel
theorem dX5_shared_34 : decode cX5_shared 34 = .ok (.goto 28, 3) := by decide +kernel
theorem dX5_shared_37 : decode cX5_shared 37 = .ok (.iload_n 1, 1) := by decide +kernel
theorem dX5_shared_38 : decode cX5_shared 38 = .ok (.ifCond .ne 15, 3) := by decide +kernel
theorem dX5_shared_41 : decode cX5_shared 41 = .ok (.aload_n 0, 1) := by decide +kernel
theorem dX5_shared_42 : decode cX5_shared 42 = .ok (.invokevirtual 284, 3) := by decide +kernel
theorem dX5_shared_45 : decode cX5_shared 45 = .ok (.aload_n 0, 1) := by decide +kernel
theorem dX5_shared_46 : decode cX5_shared 46 = .ok (.getfield 67, 3) := by decide +kernel
theorem dX5_shared_49 : decode cX5_shared 49 = .ok (.idiv, 1) := by decide +kernel
theorem dX5_shared_50 : decode cX5_shared 50 = .ok (.goto 12, 3) := by decide +kernel
theorem dX5_shared_53 : decode cX5_shared 53 = .ok (.aload_n 0, 1) := by decide +kernel
theorem dX5_shared_54 : decode cX5_shared 54 = .ok (.invokevirtual 284, 3) := by decide +kernel
theorem dX5_shared_57 : decode cX5_shared 57 = .ok (.aload_n 0, 1) := by decide +kernel
theorem dX5_shared_58 : decode cX5_shared 58 = .ok (.getfield 67, 3) := by decide +kernel
theorem dX5_shared_61 : decode cX5_shared 61 = .ok (.irem, 1) := by decide +kernel
theorem dX5_shared_62 : decode cX5_shared 62 = .ok (.ireturn, 1) := by decide +kernel
set_option maxRecDepth 20000 in
theorem ggX5_loudHour_X5_isIn : GoodIn wsX5_loudHour wsX5_isIn := goodIn_r _ [4] (by decide +kernel) (by decide +kernel)
set_option maxRecDepth 20000 in
theorem gX5_loudHour_X5_isIn : GoodIn wsX5_loudHour (va_wsS RX5 88 yX5_isIn wsX5_isIn) := goodIn_app (goodIn_of _ (by decide +kernel)) ggX5_loudHour_X5_isIn
set_option maxRecDepth 20000 in
theorem ggX5_loudHour_X5_no : GoodIn wsX5_loudHour wsX5_no := goodIn_r _ [8, 9, 36, 37, 38, 39, 40, 41, 42, 43, 44, 45, 46, 47, 48, 49, 50, 51, 52, 53, 54, 55, 56, 57, 58, 59, 60, 61, 62, 63, 64, 65, 66, 67, 68] (by decide +kernel) (by decide +kernel)
set_option maxRecDepth 20000 in
theorem gX5_loudHour_X5_no : GoodIn wsX5_loudHour (wsV RX5 77 RX5 yX5_no wsX5_no) := goodIn_app (goodIn_of _ (by decide +kernel)) ggX5_loudHour_X5_no
set_option maxRecDepth 20000 in
theorem ggX5_loudHour_X5_allNoise : GoodIn wsX5_loudHour wsX5_allNoise := goodIn_r _ [13, 14, 15, 16, 17, 3, 18, 19, 20, 21, 22, 23, 24, 25, 26, 27, 28, 29, 30, 31, 32, 33, 34, 35, 1, 2, 4, 36, 37, 38, 39, 40, 41, 42, 43, 44, 45, 46, 47, 48, 49, 50, 51, 52, 53, 54, 55, 56, 57, 58, 59, 60, 61, 62, 63, 64, 65, 66, 67, 68] (by decide +kernel) (by decide +kernel)
set_option maxRecDepth 20000 in
theorem gX5_loudHour_X5_allNoise : GoodIn wsX5_loudHour (wsV RX5 204 RX5 yX5_allNoise wsX5_allNoise) := goodIn_app (goodIn_of _ (by decide +kernel)) ggX5_loudHour_X5_allNoise
theorem dX5_loudHour_0 : decode cX5_loudHour 0 = .ok (.iload_n 1, 1) := by decide +kernel
theorem dX5_loudHour_1 : decode cX5_loudHour 1 = .ok (.iconst 0, 1) := by decide +kernel
theorem dX5_loudHour_2 : decode cX5_loudHour 2 = .ok (.iconst 1, 1) := by decide +kernel
theorem dX5_loudHour_3 : decode cX5_loudHour 3 = .ok (.invokestatic 88, 3) := by decide +kernel
theorem dX5_loudHour_6 : decode cX5_loudHour 6 = .ok (.ifCond .ne 10, 3) := by decide +kernel
theorem dX5_loudHour_9 : decode cX5_loudHour 9 = .ok (.aload_n 0, 1) := by decide +kernel
theorem dX5_loudHour_10 : decode cX5_loudHour 10 = .ok (.bipush (-2), 2) := by decide +kernel
theorem dX5_loudHour_12 : decode cX5_loudHour 12 = .ok (.invokevirtual 77, 3) := by decide +kernel
theorem dX5_loudHour_15 : decode cX5_loudHour 15 = .ok (.ireturn, 1) := by decide +kernel
theorem dX5_loudHour_16 : decode cX5_loudHour 16 = .ok (.iconst 0, 1) := by decide +kernel
theorem dX5_loudHour_17 : decode cX5_loudHour 17 = .ok (.istore_n 2, 1) := by decide +kernel
theorem dX5_loudHour_18 : decode cX5_loudHour 18 = .ok (.iconst 0, 1) := by decide +kernel
theorem dX5_loudHour_19 : decode cX5_loudHour 19 = .ok (.istore_n 3, 1) := by decide +kernel
theorem dX5_loudHour_20 : decode cX5_loudHour 20 = .ok (.iconst 0, 1) := by decide +kernel
theorem dX5_loudHour_21 : decode cX5_loudHour 21 = .ok (.istore 4, 2) := by decide +kernel
theorem dX5_loudHour_23 : decode cX5_loudHour 23 = .ok (.iload 4, 2) := by decide +kernel
theorem dX5_loudHour_25 : decode cX5_loudHour 25 = .ok (.bipush 24, 2) := by decide +kernel
theorem dX5_loudHour_27 : decode cX5_loudHour 27 = .ok (.if_icmp .ge 50, 3) := by decide +kernel
theorem dX5_loudHour_30 : decode cX5_loudHour 30 = .ok (.aload_n 0, 1) := by decide +kernel
theorem dX5_loudHour_31 : decode cX5_loudHour 31 = .ok (.iload 4, 2) := by decide +kernel
theorem dX5_loudHour_33 : decode cX5_loudHour 33 = .ok (.invokevirtual 204, 3) := by decide +kernel
theorem dX5_loudHour_36 : decode cX5_loudHour 36 = .ok (.aload_n 0, 1) := by decide +kernel
theorem dX5_loudHour_37 : decode cX5_loudHour 37 = .ok (.iload_n 2, 1) := by decide +kernel
theorem dX5_loudHour_38 : decode cX5_loudHour 38 = .ok (.invokevirtual 204, 3) := by decide +kernel
theorem dX5_loudHour_41 : decode cX5_loudHour 41 = .ok (.if_icmp .le 8, 3) := by decide +kernel
theorem dX5_loudHour_44 : decode cX5_loudHour 44 = .ok (.iload 4, 2) := by decide +kernel
theorem dX5_loudHour_46 : decode cX5_loudHour 46 = .ok (.goto 4, 3) := by decide +kernel
theorem dX5_loudHour_49 : decode cX5_loudHour 49 = .ok (.iload_n 2, 1) := by decide +kernel
theorem dX5_loudHour_50 : decode cX5_loudHour 50 = .ok (.istore_n 2, 1) := by decide +kernel
theorem dX5_loudHour_51 : decode cX5_loudHour 51 = .ok (.iload_n 3, 1) := by decide +kernel
theorem dX5_loudHour_52 : decode cX5_loudHour 52 = .ok (.aload_n 0, 1) := by decide +kernel
theorem dX5_loudHour_53 : decode cX5_loudHour 53 = .ok (.iload 4, 2) := by decide +kernel
theorem dX5_loudHour_55 : decode cX5_loudHour 55 = .ok (.invokevirtual 204, 3) := by decide +kernel
theorem dX5_loudHour_58 : decode cX5_loudHour 58 = .ok (.ifCond .ne 10, 3) := by decide +kernel
theorem dX5_loudHour_61 : decode cX5_loudHour 61 = .ok (.iconst 1, 1) := by decide +kernel
theorem dX5_loudHour_62 : decode cX5_loudHour 62 = .ok (.iload 4, 2) := by decide +kernel
theorem dX5_loudHour_64 : decode cX5_loudHour 64 = .ok (.ishl, 1) := by decide +kernel
theorem dX5_loudHour_65 : decode cX5_loudHour 65 = .ok (.goto 4, 3) := by decide +kernel
theorem dX5_loudHour_68 : decode cX5_loudHour 68 = .ok (.iconst 0, 1) := by decide +kernel
theorem dX5_loudHour_69 : decode cX5_loudHour 69 = .ok (.ior, 1) := by decide +kernel
theorem dX5_loudHour_70 : decode cX5_loudHour 70 = .ok (.istore_n 3, 1) := by decide +kernel
theorem dX5_loudHour_71 : decode cX5_loudHour 71 = .ok (.iinc 4 1, 3) := by decide +kernel
theorem dX5_loudHour_74 : decode cX5_loudHour 74 = .ok (.goto (-51), 3) := by decide +kernel
theorem dX5_loudHour_77 : decode cX5_loudHour 77 = .ok (.iload_n 1, 1) := by decide +kernel
theorem dX5_loudHour_78 : decode cX5_loudHour 78 = .ok (.ifCond .ne 7, 3) := by decide +kernel
theorem dX5_loudHour_81 : decode cX5_loudHour 81 = .ok (.iload_n 2, 1) := by decide +kernel
theorem dX5_loudHour_82 : decode cX5_loudHour 82 = .ok (.goto 4, 3) := by decide +kernel
theorem dX5_loudHour_85 : decode cX5_loudHour 85 = .ok (.iload_n 3, 1) := by decide +kernel
theorem dX5_loudHour_86 : decode cX5_loudHour 86 = .ok (.ireturn, 1) := by decide +kernel
set_option maxRecDepth 20000 in
theorem ggX5_mean_X5_isIn : GoodIn wsX5_mean wsX5_isIn := goodIn_r _ [6] (by decide +kernel) (by decide +kernel)
set_option maxRecDepth 20000 in
theorem gX5_mean_X5_isIn : GoodIn wsX5_mean (va_wsS RX5 88 yX5_isIn wsX5_isIn) := goodIn_app (goodIn_of _ (by decide +kernel)) ggX5_mean_X5_isIn
set_option maxRecDepth 20000 in
theorem ggX5_mean_X5_lowestOf : GoodIn wsX5_mean wsX5_lowestOf := goodIn_r _ [10, 11, 12, 19, 20, 21, 22, 23, 24, 25, 26, 27, 28, 29, 30, 31, 32, 33, 34, 35, 36, 37, 38, 39, 40, 41, 42, 43, 44, 45, 46, 47, 48, 49, 50, 51] (by decide +kernel) (by decide +kernel)
set_option maxRecDepth 20000 in
theorem gX5_mean_X5_lowestOf : GoodIn wsX5_mean (wsV RX5 273 RX5 yX5_lowestOf wsX5_lowestOf) := goodIn_app (goodIn_of _ (by decide +kernel)) ggX5_mean_X5_lowestOf
set_option maxRecDepth 20000 in
theorem ggX5_mean_X5_partOf : GoodIn wsX5_mean wsX5_partOf := goodIn_r _ [15, 16, 17, 5, 18] (by decide +kernel) (by decide +kernel)
set_option maxRecDepth 20000 in
theorem gX5_mean_X5_partOf : GoodIn wsX5_mean (va_wsS RX5 277 yX5_partOf wsX5_partOf) := goodIn_app (goodIn_of _ (by decide +kernel)) ggX5_mean_X5_partOf
theorem dX5_mean_0 : decode cX5_mean 0 = .ok (.iload_n 1, 1) := by decide +kernel
theorem dX5_mean_1 : decode cX5_mean 1 = .ok (.iconst 0, 1) := by decide +kernel
theorem dX5_mean_2 : decode cX5_mean 2 = .ok (.iconst 1, 1) := by decide +kernel
theorem dX5_mean_3 : decode cX5_mean 3 = .ok (.invokestatic 88, 3) := by decide +kernel
theorem dX5_mean_6 : decode cX5_mean 6 = .ok (.ifCond .ne 10, 3) := by decide +kernel
theorem dX5_mean_9 : decode cX5_mean 9 = .ok (.aload_n 0, 1) := by decide +kernel
theorem dX5_mean_10 : decode cX5_mean 10 = .ok (.bipush (-2), 2) := by decide +kernel
theorem dX5_mean_12 : decode cX5_mean 12 = .ok (.invokevirtual 273, 3) := by decide +kernel
theorem dX5_mean_15 : decode cX5_mean 15 = .ok (.lreturn, 1) := by decide +kernel
theorem dX5_mean_16 : decode cX5_mean 16 = .ok (.lconst 0, 1) := by decide +kernel
theorem dX5_mean_17 : decode cX5_mean 17 = .ok (.lstore_n 2, 1) := by decide +kernel
theorem dX5_mean_18 : decode cX5_mean 18 = .ok (.iconst 0, 1) := by decide +kernel
theorem dX5_mean_19 : decode cX5_mean 19 = .ok (.istore 4, 2) := by decide +kernel
theorem dX5_mean_21 : decode cX5_mean 21 = .ok (.iload 4, 2) := by decide +kernel
theorem dX5_mean_23 : decode cX5_mean 23 = .ok (.aload_n 0, 1) := by decide +kernel
theorem dX5_mean_24 : decode cX5_mean 24 = .ok (.getfield 67, 3) := by decide +kernel
theorem dX5_mean_27 : decode cX5_mean 27 = .ok (.if_icmp .ge 20, 3) := by decide +kernel
theorem dX5_mean_30 : decode cX5_mean 30 = .ok (.lload_n 2, 1) := by decide +kernel
theorem dX5_mean_31 : decode cX5_mean 31 = .ok (.aload_n 0, 1) := by decide +kernel
theorem dX5_mean_32 : decode cX5_mean 32 = .ok (.getfield 19, 3) := by decide +kernel
theorem dX5_mean_35 : decode cX5_mean 35 = .ok (.iload 4, 2) := by decide +kernel
theorem dX5_mean_37 : decode cX5_mean 37 = .ok (.iaload, 1) := by decide +kernel
theorem dX5_mean_38 : decode cX5_mean 38 = .ok (.i2l, 1) := by decide +kernel
theorem dX5_mean_39 : decode cX5_mean 39 = .ok (.ladd, 1) := by decide +kernel
theorem dX5_mean_40 : decode cX5_mean 40 = .ok (.lstore_n 2, 1) := by decide +kernel
theorem dX5_mean_41 : decode cX5_mean 41 = .ok (.iinc 4 1, 3) := by decide +kernel
theorem dX5_mean_44 : decode cX5_mean 44 = .ok (.goto (-23), 3) := by decide +kernel
theorem dX5_mean_47 : decode cX5_mean 47 = .ok (.aload_n 0, 1) := by decide +kernel
theorem dX5_mean_48 : decode cX5_mean 48 = .ok (.getfield 67, 3) := by decide +kernel
theorem dX5_mean_51 : decode cX5_mean 51 = .ok (.ifCond .ne 8, 3) := by decide +kernel
theorem dX5_mean_54 : decode cX5_mean 54 = .ok (.iload_n 1, 1) := by decide +kernel
theorem dX5_mean_55 : decode cX5_mean 55 = .ok (.i2l, 1) := by decide +kernel
theorem dX5_mean_56 : decode cX5_mean 56 = .ok (.goto 13, 3) := by decide +kernel
theorem dX5_mean_59 : decode cX5_mean 59 = .ok (.lload_n 2, 1) := by decide +kernel
theorem dX5_mean_60 : decode cX5_mean 60 = .ok (.aload_n 0, 1) := by decide +kernel
theorem dX5_mean_61 : decode cX5_mean 61 = .ok (.getfield 67, 3) := by decide +kernel
theorem dX5_mean_64 : decode cX5_mean 64 = .ok (.i2l, 1) := by decide +kernel
theorem dX5_mean_65 : decode cX5_mean 65 = .ok (.iload_n 1, 1) := by decide +kernel
theorem dX5_mean_66 : decode cX5_mean 66 = .ok (.invokestatic 277, 3) := by decide +kernel
theorem dX5_mean_69 : decode cX5_mean 69 = .ok (.lreturn, 1) := by decide +kernel
set_option maxRecDepth 20000 in
theorem ggX5_gap_X5_isIn : GoodIn wsX5_gap wsX5_isIn := goodIn_r _ [4] (by decide +kernel) (by decide +kernel)
set_option maxRecDepth 20000 in
theorem gX5_gap_X5_isIn : GoodIn wsX5_gap (va_wsS RX5 88 yX5_isIn wsX5_isIn) := goodIn_app (goodIn_of _ (by decide +kernel)) ggX5_gap_X5_isIn
set_option maxRecDepth 20000 in
theorem ggX5_gap_X5_no : GoodIn wsX5_gap wsX5_no := goodIn_r _ [8, 9, 16, 17, 18, 19, 20, 21, 22, 23, 24, 25, 26, 27, 28, 29, 30, 31, 32, 33, 34, 35, 36, 37, 38, 39, 40, 41, 42, 43, 44, 45, 46, 47, 48] (by decide +kernel) (by decide +kernel)
set_option maxRecDepth 20000 in
theorem gX5_gap_X5_no : GoodIn wsX5_gap (wsV RX5 77 RX5 yX5_no wsX5_no) := goodIn_app (goodIn_of _ (by decide +kernel)) ggX5_gap_X5_no
set_option maxRecDepth 20000 in
theorem ggX5_gap_X5_shoreAt : GoodIn wsX5_gap wsX5_shoreAt := goodIn_r _ [13, 14, 15, 16, 17, 18, 19, 20, 21, 22, 23, 24, 25, 26, 27, 28, 29, 30, 31, 32, 33, 34, 35, 36, 37, 38, 39, 40, 41, 42, 43, 44, 45, 46, 47, 48] (by decide +kernel) (by decide +kernel)
set_option maxRecDepth 20000 in
theorem gX5_gap_X5_shoreAt : GoodIn wsX5_gap (wsV RX5 106 RX5 yX5_shoreAt wsX5_shoreAt) := goodIn_app (goodIn_of _ (by decide +kernel)) ggX5_gap_X5_shoreAt
theorem dX5_gap_0 : decode cX5_gap 0 = .ok (.iload_n 1, 1) := by decide +kernel
theorem dX5_gap_1 : decode cX5_gap 1 = .ok (.iconst 0, 1) := by decide +kernel
theorem dX5_gap_2 : decode cX5_gap 2 = .ok (.iconst 1, 1) := by decide +kernel
theorem dX5_gap_3 : decode cX5_gap 3 = .ok (.invokestatic 88, 3) := by decide +kernel
theorem dX5_gap_6 : decode cX5_gap 6 = .ok (.ifCond .ne 10, 3) := by decide +kernel
theorem dX5_gap_9 : decode cX5_gap 9 = .ok (.aload_n 0, 1) := by decide +kernel
theorem dX5_gap_10 : decode cX5_gap 10 = .ok (.bipush (-2), 2) := by decide +kernel
theorem dX5_gap_12 : decode cX5_gap 12 = .ok (.invokevirtual 77, 3) := by decide +kernel
theorem dX5_gap_15 : decode cX5_gap 15 = .ok (.ireturn, 1) := by decide +kernel
theorem dX5_gap_16 : decode cX5_gap 16 = .ok (.bipush (-9), 2) := by decide +kernel
theorem dX5_gap_18 : decode cX5_gap 18 = .ok (.istore_n 2, 1) := by decide +kernel
theorem dX5_gap_19 : decode cX5_gap 19 = .ok (.bipush (-9), 2) := by decide +kernel
theorem dX5_gap_21 : decode cX5_gap 21 = .ok (.istore_n 3, 1) := by decide +kernel
theorem dX5_gap_22 : decode cX5_gap 22 = .ok (.bipush (-9), 2) := by decide +kernel
theorem dX5_gap_24 : decode cX5_gap 24 = .ok (.istore 4, 2) := by decide +kernel
theorem dX5_gap_26 : decode cX5_gap 26 = .ok (.iconst 0, 1) := by decide +kernel
theorem dX5_gap_27 : decode cX5_gap 27 = .ok (.istore 5, 2) := by decide +kernel
theorem dX5_gap_29 : decode cX5_gap 29 = .ok (.iload 5, 2) := by decide +kernel
theorem dX5_gap_31 : decode cX5_gap 31 = .ok (.bipush 30, 2) := by decide +kernel
theorem dX5_gap_33 : decode cX5_gap 33 = .ok (.if_icmp .gt 44, 3) := by decide +kernel
theorem dX5_gap_36 : decode cX5_gap 36 = .ok (.aload_n 0, 1) := by decide +kernel
theorem dX5_gap_37 : decode cX5_gap 37 = .ok (.iload 5, 2) := by decide +kernel
theorem dX5_gap_39 : decode cX5_gap 39 = .ok (.invokevirtual 106, 3) := by decide +kernel
theorem dX5_gap_42 : decode cX5_gap 42 = .ok (.ifCond .ge 6, 3) := by decide +kernel
theorem dX5_gap_45 : decode cX5_gap 45 = .ok (.goto 26, 3) := by decide +kernel
theorem dX5_gap_48 : decode cX5_gap 48 = .ok (.iload_n 2, 1) := by decide +kernel
theorem dX5_gap_49 : decode cX5_gap 49 = .ok (.ifCond .lt 19, 3) := by decide +kernel
theorem dX5_gap_52 : decode cX5_gap 52 = .ok (.iload 5, 2) := by decide +kernel
theorem dX5_gap_54 : decode cX5_gap 54 = .ok (.iload_n 2, 1) := by decide +kernel
theorem dX5_gap_55 : decode cX5_gap 55 = .ok (.isub, 1) := by decide +kernel
theorem dX5_gap_56 : decode cX5_gap 56 = .ok (.iload_n 3, 1) := by decide +kernel
theorem dX5_gap_57 : decode cX5_gap 57 = .ok (.if_icmp .le 11, 3) := by decide +kernel
theorem dX5_gap_60 : decode cX5_gap 60 = .ok (.iload 5, 2) := by decide +kernel
theorem dX5_gap_62 : decode cX5_gap 62 = .ok (.iload_n 2, 1) := by decide +kernel
theorem dX5_gap_63 : decode cX5_gap 63 = .ok (.isub, 1) := by decide +kernel
theorem dX5_gap_64 : decode cX5_gap 64 = .ok (.istore_n 3, 1) := by decide +kernel
theorem dX5_gap_65 : decode cX5_gap 65 = .ok (.iload_n 2, 1) := by decide +kernel
theorem dX5_gap_66 : decode cX5_gap 66 = .ok (.istore 4, 2) := by decide +kernel
theorem dX5_gap_68 : decode cX5_gap 68 = .ok (.iload 5, 2) := by decide +kernel
theorem dX5_gap_70 : decode cX5_gap 70 = .ok (.istore_n 2, 1) := by decide +kernel
theorem dX5_gap_71 : decode cX5_gap 71 = .ok (.iinc 5 1, 3) := by decide +kernel
theorem dX5_gap_74 : decode cX5_gap 74 = .ok (.goto (-45), 3) := by decide +kernel
theorem dX5_gap_77 : decode cX5_gap 77 = .ok (.iload_n 1, 1) := by decide +kernel
theorem dX5_gap_78 : decode cX5_gap 78 = .ok (.ifCond .ne 7, 3) := by decide +kernel
theorem dX5_gap_81 : decode cX5_gap 81 = .ok (.iload_n 3, 1) := by decide +kernel
theorem dX5_gap_82 : decode cX5_gap 82 = .ok (.goto 5, 3) := by decide +kernel
theorem dX5_gap_85 : decode cX5_gap 85 = .ok (.iload 4, 2) := by decide +kernel
theorem dX5_gap_87 : decode cX5_gap 87 = .ok (.ireturn, 1) := by decide +kernel
theorem dX5_allPowder_0 : decode cX5_allPowder 0 = .ok (.iconst 0, 1) := by decide +kernel
theorem dX5_allPowder_1 : decode cX5_allPowder 1 = .ok (.istore_n 1, 1) := by decide +kernel
theorem dX5_allPowder_2 : decode cX5_allPowder 2 = .ok (.iconst 0, 1) := by decide +kernel
theorem dX5_allPowder_3 : decode cX5_allPowder 3 = .ok (.istore_n 2, 1) := by decide +kernel
theorem dX5_allPowder_4 : decode cX5_allPowder 4 = .ok (.iload_n 2, 1) := by decide +kernel
theorem dX5_allPowder_5 : decode cX5_allPowder 5 = .ok (.aload_n 0, 1) := by decide +kernel
theorem dX5_allPowder_6 : decode cX5_allPowder 6 = .ok (.getfield 67, 3) := by decide +kernel
theorem dX5_allPowder_9 : decode cX5_allPowder 9 = .ok (.if_icmp .ge 18, 3) := by decide +kernel
theorem dX5_allPowder_12 : decode cX5_allPowder 12 = .ok (.iload_n 1, 1) := by decide +kernel
theorem dX5_allPowder_13 : decode cX5_allPowder 13 = .ok (.aload_n 0, 1) := by decide +kernel
theorem dX5_allPowder_14 : decode cX5_allPowder 14 = .ok (.getfield 22, 3) := by decide +kernel
theorem dX5_allPowder_17 : decode cX5_allPowder 17 = .ok (.iload_n 2, 1) := by decide +kernel
theorem dX5_allPowder_18 : decode cX5_allPowder 18 = .ok (.iaload, 1) := by decide +kernel
theorem dX5_allPowder_19 : decode cX5_allPowder 19 = .ok (.iadd, 1) := by decide +kernel
theorem dX5_allPowder_20 : decode cX5_allPowder 20 = .ok (.istore_n 1, 1) := by decide +kernel
theorem dX5_allPowder_21 : decode cX5_allPowder 21 = .ok (.iinc 2 1, 3) := by decide +kernel
theorem dX5_allPowder_24 : decode cX5_allPowder 24 = .ok (.goto (-20), 3) := by decide +kernel
theorem dX5_allPowder_27 : decode cX5_allPowder 27 = .ok (.iload_n 1, 1) := by decide +kernel
theorem dX5_allPowder_28 : decode cX5_allPowder 28 = .ok (.ireturn, 1) := by decide +kernel
set_option maxRecDepth 20000 in
theorem ggX5_spent_X5_notHours : GoodIn wsX5_spent wsX5_notHours := goodIn_r _ [4, 5, 6, 3, 7] (by decide +kernel) (by decide +kernel)
set_option maxRecDepth 20000 in
theorem gX5_spent_X5_notHours : GoodIn wsX5_spent (va_wsS RX5 207 yX5_notHours wsX5_notHours) := goodIn_app (goodIn_of _ (by decide +kernel)) ggX5_spent_X5_notHours
set_option maxRecDepth 20000 in
theorem ggX5_spent_X5_no : GoodIn wsX5_spent wsX5_no := goodIn_r _ [11, 12, 103, 104, 105, 106, 107, 108, 109, 110, 111, 112, 113, 114, 115, 116, 117, 118, 119, 120, 121, 122, 123, 124, 125, 126, 127, 128, 129, 130, 131, 132, 133, 134, 135] (by decide +kernel) (by decide +kernel)
set_option maxRecDepth 20000 in
theorem gX5_spent_X5_no : GoodIn wsX5_spent (wsV RX5 77 RX5 yX5_no wsX5_no) := goodIn_app (goodIn_of _ (by decide +kernel)) ggX5_spent_X5_no
set_option maxRecDepth 20000 in
theorem ggX5_spent_X5_allPowder : GoodIn wsX5_spent wsX5_allPowder := goodIn_r _ [16, 17, 18, 103, 104, 105, 106, 107, 108, 109, 110, 111, 112, 113, 114, 115, 116, 117, 118, 119, 120, 121, 122, 123, 124, 125, 126, 127, 128, 129, 130, 131, 132, 133, 134, 135] (by decide +kernel) (by decide +kernel)
set_option maxRecDepth 20000 in
theorem gX5_spent_X5_allPowder : GoodIn wsX5_spent (wsV RX5 287 RX5 yX5_allPowder wsX5_allPowder) := goodIn_app (goodIn_of _ (by decide +kernel)) ggX5_spent_X5_allPowder
set_option maxRecDepth 20000 in
theorem ggX5_spent_X5_thinks : GoodIn wsX5_spent wsX5_thinks := goodIn_r _ [22, 23, 24, 25, 3, 26, 27, 28, 29, 30, 31, 18, 32, 17, 33, 34, 35, 36, 37, 38, 39, 40, 41, 42, 43, 44, 45, 46, 103, 104, 105, 106, 107, 108, 109, 110, 111, 112, 113, 114, 115, 116, 117, 118, 119, 120, 121, 122, 123, 124, 125, 126, 127, 128, 129, 130, 131, 132, 133, 134, 135] (by decide +kernel) (by decide +kernel)
set_option maxRecDepth 20000 in
theorem gX5_spent_X5_thinks : GoodIn wsX5_spent (wsV RX5 210 RX5 yX5_thinks wsX5_thinks) := goodIn_app (goodIn_of _ (by decide +kernel)) ggX5_spent_X5_thinks
set_option maxRecDepth 20000 in
theorem ggX5_spent_X5_goes : GoodIn wsX5_spent wsX5_goes := goodIn_r _ [50, 51, 52, 53, 3, 54, 36, 17, 18, 31, 37, 32, 55, 56, 57, 58, 59, 60, 61, 62, 33, 34, 63, 64, 65, 66, 67, 68, 69, 29, 30, 70, 71, 72, 73, 74, 75, 76, 77, 78, 79, 80, 81, 82, 83, 84, 85, 86, 87, 35, 88, 89, 90, 91, 92, 93, 94, 95, 96, 97, 98, 103, 104, 105, 106, 107, 108, 109, 110, 111, 112, 113, 114, 115, 116, 117, 118, 119, 120, 121, 122, 123, 124, 125, 126, 127, 128, 129, 130, 131, 132, 133, 134, 135] (by decide +kernel) (by decide +kernel)
set_option maxRecDepth 20000 in
theorem gX5_spent_X5_goes : GoodIn wsX5_spent (wsV RX5 116 RX5 yX5_goes wsX5_goes) := goodIn_app (goodIn_of _ (by decide +kernel)) ggX5_spent_X5_goes
set_option maxRecDepth 20000 in
theorem ggX5_spent_X5_forgets : GoodIn wsX5_spent wsX5_forgets := goodIn_r _ [102, 23, 24, 25, 3, 26, 27, 28, 29, 30, 31, 18, 32, 17, 33, 34, 35, 36, 37, 38, 39, 40, 41, 42, 43, 44, 45, 46, 103, 104, 105, 106, 107, 108, 109, 110, 111, 112, 113, 114, 115, 116, 117, 118, 119, 120, 121, 122, 123, 124, 125, 126, 127, 128, 129, 130, 131, 132, 133, 134, 135] (by decide +kernel) (by decide +kernel)
set_option maxRecDepth 20000 in
theorem gX5_spent_X5_forgets : GoodIn wsX5_spent (wsV RX5 213 RX5 yX5_forgets wsX5_forgets) := goodIn_app (goodIn_of _ (by decide +kernel)) ggX5_spent_X5_forgets
theorem dX5_spent_0 : decode cX5_spent 0 = .ok (.iload_n 1, 1) := by decide +kernel
theorem dX5_spent_1 : decode cX5_spent 1 = .ok (.invokestatic 207, 3) := by decide +kernel
theorem dX5_spent_4 : decode cX5_spent 4 = .ok (.istore_n 2, 1) := by decide +kernel
theorem dX5_spent_5 : decode cX5_spent 5 = .ok (.iload_n 2, 1) := by decide +kernel
theorem dX5_spent_6 : decode cX5_spent 6 = .ok (.ifCond .eq 9, 3) := by decide +kernel
theorem dX5_spent_9 : decode cX5_spent 9 = .ok (.aload_n 0, 1) := by decide +kernel
theorem dX5_spent_10 : decode cX5_spent 10 = .ok (.iload_n 2, 1) := by decide +kernel
theorem dX5_spent_11 : decode cX5_spent 11 = .ok (.invokevirtual 77, 3) := by decide +kernel
theorem dX5_spent_14 : decode cX5_spent 14 = .ok (.ireturn, 1) := by decide +kernel
theorem dX5_spent_15 : decode cX5_spent 15 = .ok (.aload_n 0, 1) := by decide +kernel
theorem dX5_spent_16 : decode cX5_spent 16 = .ok (.invokevirtual 287, 3) := by decide +kernel
theorem dX5_spent_19 : decode cX5_spent 19 = .ok (.istore_n 3, 1) := by decide +kernel
theorem dX5_spent_20 : decode cX5_spent 20 = .ok (.aload_n 0, 1) := by decide +kernel
theorem dX5_spent_21 : decode cX5_spent 21 = .ok (.invokevirtual 210, 3) := by decide +kernel
theorem dX5_spent_24 : decode cX5_spent 24 = .ok (.aload_n 0, 1) := by decide +kernel
theorem dX5_spent_25 : decode cX5_spent 25 = .ok (.iload_n 1, 1) := by decide +kernel
theorem dX5_spent_26 : decode cX5_spent 26 = .ok (.invokevirtual 116, 3) := by decide +kernel
theorem dX5_spent_29 : decode cX5_spent 29 = .ok (.iload_n 3, 1) := by decide +kernel
theorem dX5_spent_30 : decode cX5_spent 30 = .ok (.aload_n 0, 1) := by decide +kernel
theorem dX5_spent_31 : decode cX5_spent 31 = .ok (.invokevirtual 287, 3) := by decide +kernel
theorem dX5_spent_34 : decode cX5_spent 34 = .ok (.isub, 1) := by decide +kernel
theorem dX5_spent_35 : decode cX5_spent 35 = .ok (.istore 4, 2) := by decide +kernel
theorem dX5_spent_37 : decode cX5_spent 37 = .ok (.aload_n 0, 1) := by decide +kernel
theorem dX5_spent_38 : decode cX5_spent 38 = .ok (.invokevirtual 213, 3) := by decide +kernel
theorem dX5_spent_41 : decode cX5_spent 41 = .ok (.iload 4, 2) := by decide +kernel
theorem dX5_spent_43 : decode cX5_spent 43 = .ok (.ireturn, 1) := by decide +kernel
set_option maxRecDepth 20000 in
theorem ggX5_oftenSwapped_X5_oftenOf : GoodIn wsX5_oftenSwapped wsX5_oftenOf := goodIn_r _ [6, 7, 8, 9, 10, 5, 11, 12, 13, 14, 15, 16, 17, 18, 19, 20, 21, 22, 23, 24, 25, 26, 27, 28, 1, 29, 30, 31, 32, 33, 34, 35, 36, 37, 38, 39, 40, 41, 42, 43, 44, 45, 46, 47, 48, 49, 50, 51, 52, 53, 54, 55, 56, 57, 58, 59, 60, 61, 62, 63, 64, 65, 66, 67, 68, 69, 70, 71, 72, 73, 74, 75, 76, 77, 78, 79, 80, 81, 82, 83, 84, 85, 86, 87, 88, 89, 90, 91, 92, 93, 94, 95, 96, 97, 98, 99, 100, 101, 102, 103, 104, 105, 106, 107, 108, 109, 110, 111, 112, 113, 114, 115, 116, 117, 118, 119, 120, 121, 122, 123, 124, 125, 126, 127, 128, 129] (by decide +kernel) (by decide +kernel)
set_option maxRecDepth 20000 in
theorem gX5_oftenSwapped_X5_oftenOf : GoodIn wsX5_oftenSwapped (wsV RX5 229 RX5 yX5_oftenOf wsX5_oftenOf) := goodIn_app (goodIn_of _ (by decide +kernel)) ggX5_oftenSwapped_X5_oftenOf
theorem dX5_oftenSwapped_0 : decode cX5_oftenSwapped 0 = .ok (.aload_n 0, 1) := by decide +kernel
theorem dX5_oftenSwapped_1 : decode cX5_oftenSwapped 1 = .ok (.getfield 19, 3) := by decide +kernel
theorem dX5_oftenSwapped_4 : decode cX5_oftenSwapped 4 = .ok (.iload_n 1, 1) := by decide +kernel
theorem dX5_oftenSwapped_5 : decode cX5_oftenSwapped 5 = .ok (.iaload, 1) := by decide +kernel
theorem dX5_oftenSwapped_6 : decode cX5_oftenSwapped 6 = .ok (.istore 5, 2) := by decide +kernel
theorem dX5_oftenSwapped_8 : decode cX5_oftenSwapped 8 = .ok (.aload_n 0, 1) := by decide +kernel
theorem dX5_oftenSwapped_9 : decode cX5_oftenSwapped 9 = .ok (.getfield 19, 3) := by decide +kernel
theorem dX5_oftenSwapped_12 : decode cX5_oftenSwapped 12 = .ok (.iload_n 1, 1) := by decide +kernel
theorem dX5_oftenSwapped_13 : decode cX5_oftenSwapped 13 = .ok (.aload_n 0, 1) := by decide +kernel
theorem dX5_oftenSwapped_14 : decode cX5_oftenSwapped 14 = .ok (.getfield 19, 3) := by decide +kernel
theorem dX5_oftenSwapped_17 : decode cX5_oftenSwapped 17 = .ok (.iload_n 2, 1) := by decide +kernel
theorem dX5_oftenSwapped_18 : decode cX5_oftenSwapped 18 = .ok (.iaload, 1) := by decide +kernel
theorem dX5_oftenSwapped_19 : decode cX5_oftenSwapped 19 = .ok (.iastore, 1) := by decide +kernel
theorem dX5_oftenSwapped_20 : decode cX5_oftenSwapped 20 = .ok (.aload_n 0, 1) := by decide +kernel
theorem dX5_oftenSwapped_21 : decode cX5_oftenSwapped 21 = .ok (.getfield 19, 3) := by decide +kernel
theorem dX5_oftenSwapped_24 : decode cX5_oftenSwapped 24 = .ok (.iload_n 2, 1) := by decide +kernel
theorem dX5_oftenSwapped_25 : decode cX5_oftenSwapped 25 = .ok (.iload 5, 2) := by decide +kernel
theorem dX5_oftenSwapped_27 : decode cX5_oftenSwapped 27 = .ok (.iastore, 1) := by decide +kernel
theorem dX5_oftenSwapped_28 : decode cX5_oftenSwapped 28 = .ok (.aload_n 0, 1) := by decide +kernel
theorem dX5_oftenSwapped_29 : decode cX5_oftenSwapped 29 = .ok (.iload_n 3, 1) := by decide +kernel
theorem dX5_oftenSwapped_30 : decode cX5_oftenSwapped 30 = .ok (.iload 4, 2) := by decide +kernel
theorem dX5_oftenSwapped_32 : decode cX5_oftenSwapped 32 = .ok (.invokevirtual 229, 3) := by decide +kernel
theorem dX5_oftenSwapped_35 : decode cX5_oftenSwapped 35 = .ok (.istore 6, 2) := by decide +kernel
theorem dX5_oftenSwapped_37 : decode cX5_oftenSwapped 37 = .ok (.aload_n 0, 1) := by decide +kernel
theorem dX5_oftenSwapped_38 : decode cX5_oftenSwapped 38 = .ok (.getfield 19, 3) := by decide +kernel
theorem dX5_oftenSwapped_41 : decode cX5_oftenSwapped 41 = .ok (.iload_n 2, 1) := by decide +kernel
theorem dX5_oftenSwapped_42 : decode cX5_oftenSwapped 42 = .ok (.aload_n 0, 1) := by decide +kernel
theorem dX5_oftenSwapped_43 : decode cX5_oftenSwapped 43 = .ok (.getfield 19, 3) := by decide +kernel
theorem dX5_oftenSwapped_46 : decode cX5_oftenSwapped 46 = .ok (.iload_n 1, 1) := by decide +kernel
theorem dX5_oftenSwapped_47 : decode cX5_oftenSwapped 47 = .ok (.iaload, 1) := by decide +kernel
theorem dX5_oftenSwapped_48 : decode cX5_oftenSwapped 48 = .ok (.iastore, 1) := by decide +kernel
theorem dX5_oftenSwapped_49 : decode cX5_oftenSwapped 49 = .ok (.aload_n 0, 1) := by decide +kernel
theorem dX5_oftenSwapped_50 : decode cX5_oftenSwapped 50 = .ok (.getfield 19, 3) := by decide +kernel
theorem dX5_oftenSwapped_53 : decode cX5_oftenSwapped 53 = .ok (.iload_n 1, 1) := by decide +kernel
theorem dX5_oftenSwapped_54 : decode cX5_oftenSwapped 54 = .ok (.iload 5, 2) := by decide +kernel
theorem dX5_oftenSwapped_56 : decode cX5_oftenSwapped 56 = .ok (.iastore, 1) := by decide +kernel
theorem dX5_oftenSwapped_57 : decode cX5_oftenSwapped 57 = .ok (.iload 6, 2) := by decide +kernel
theorem dX5_oftenSwapped_59 : decode cX5_oftenSwapped 59 = .ok (.ireturn, 1) := by decide +kernel
set_option maxRecDepth 20000 in
theorem ggX5_swap_X5_isShore : GoodIn wsX5_swap wsX5_isShore := goodIn_r _ [6, 1, 116, 117, 118, 119, 120, 121, 122, 123, 124, 125, 126, 127, 128, 129, 130, 131, 132, 133, 134, 135, 136, 137, 138, 139, 140, 141, 142, 143, 144, 145, 146, 147, 148] (by decide +kernel) (by decide +kernel)
set_option maxRecDepth 20000 in
theorem gX5_swap_X5_isShore : GoodIn wsX5_swap (wsV RX5 123 RX5 yX5_isShore wsX5_isShore) := goodIn_app (goodIn_of _ (by decide +kernel)) ggX5_swap_X5_isShore
set_option maxRecDepth 20000 in
theorem ggX5_swap_X5_notHours : GoodIn wsX5_swap wsX5_notHours := goodIn_r _ [9, 10, 11, 5, 12] (by decide +kernel) (by decide +kernel)
set_option maxRecDepth 20000 in
theorem gX5_swap_X5_notHours : GoodIn wsX5_swap (va_wsS RX5 207 yX5_notHours wsX5_notHours) := goodIn_app (goodIn_of _ (by decide +kernel)) ggX5_swap_X5_notHours
set_option maxRecDepth 20000 in
theorem ggX5_swap_X5_no : GoodIn wsX5_swap wsX5_no := goodIn_r _ [16, 17, 116, 117, 118, 119, 120, 121, 122, 123, 124, 125, 126, 127, 128, 129, 130, 131, 132, 133, 134, 135, 136, 137, 138, 139, 140, 141, 142, 143, 144, 145, 146, 147, 148] (by decide +kernel) (by decide +kernel)
set_option maxRecDepth 20000 in
theorem gX5_swap_X5_no : GoodIn wsX5_swap (wsV RX5 77 RX5 yX5_no wsX5_no) := goodIn_app (goodIn_of _ (by decide +kernel)) ggX5_swap_X5_no
set_option maxRecDepth 20000 in
theorem ggX5_swap_X5_oftenOf : GoodIn wsX5_swap wsX5_oftenOf := goodIn_r _ [21, 22, 23, 24, 25, 5, 26, 27, 28, 29, 30, 31, 32, 33, 34, 35, 36, 37, 38, 39, 40, 41, 42, 43, 44, 45, 46, 1, 47, 48, 49, 50, 51, 52, 53, 54, 55, 56, 57, 58, 59, 60, 61, 62, 63, 64, 65, 66, 67, 68, 69, 70, 71, 72, 73, 74, 75, 76, 77, 78, 79, 80, 81, 82, 83, 84, 85, 86, 87, 88, 89, 90, 91, 92, 93, 94, 95, 96, 97, 98, 99, 100, 101, 102, 103, 104, 105, 106, 107, 108, 109, 110, 111, 116, 117, 118, 119, 120, 121, 122, 123, 124, 125, 126, 127, 128, 129, 130, 131, 132, 133, 134, 135, 136, 137, 138, 139, 140, 141, 142, 143, 144, 145, 146, 147, 148] (by decide +kernel) (by decide +kernel)
set_option maxRecDepth 20000 in
theorem gX5_swap_X5_oftenOf : GoodIn wsX5_swap (wsV RX5 229 RX5 yX5_oftenOf wsX5_oftenOf) := goodIn_app (goodIn_of _ (by decide +kernel)) ggX5_swap_X5_oftenOf
set_option maxRecDepth 20000 in
theorem ggX5_swap_X5_oftenSwapped : GoodIn wsX5_swap wsX5_oftenSwapped := goodIn_r _ [115, 44, 18, 19, 20, 5, 21, 22, 23, 24, 25, 26, 27, 28, 29, 30, 31, 32, 33, 34, 35, 36, 37, 38, 39, 40, 41, 42, 43, 45, 46, 1, 47, 48, 49, 50, 51, 52, 53, 54, 55, 56, 57, 58, 59, 60, 61, 62, 63, 64, 65, 66, 67, 68, 69, 70, 71, 72, 73, 74, 75, 76, 77, 78, 79, 80, 81, 82, 83, 84, 85, 86, 87, 88, 89, 90, 91, 92, 93, 94, 95, 96, 97, 98, 99, 100, 101, 102, 103, 104, 105, 106, 107, 108, 109, 110, 111, 116, 117, 118, 119, 120, 121, 122, 123, 124, 125, 126, 127, 128, 129, 130, 131, 132, 133, 134, 135, 136, 137, 138, 139, 140, 141, 142, 143, 144, 145, 146, 147, 148] (by decide +kernel) (by decide +kernel)
set_option maxRecDepth 20000 in
theorem gX5_swap_X5_oftenSwapped : GoodIn wsX5_swap (wsV RX5 290 RX5 yX5_oftenSwapped wsX5_oftenSwapped) := goodIn_app (goodIn_of _ (by decide +kernel)) ggX5_swap_X5_oftenSwapped
theorem dX5_swap_0 : decode cX5_swap 0 = .ok (.aload_n 0, 1) := by decide +kernel
theorem dX5_swap_1 : decode cX5_swap 1 = .ok (.iload_n 1, 1) := by decide +kernel
theorem dX5_swap_2 : decode cX5_swap 2 = .ok (.invokevirtual 123, 3) := by decide +kernel
theorem dX5_swap_5 : decode cX5_swap 5 = .ok (.ifCond .ne 7, 3) := by decide +kernel
theorem dX5_swap_8 : decode cX5_swap 8 = .ok (.iconst (-1), 1) := by decide +kernel
theorem dX5_swap_9 : decode cX5_swap 9 = .ok (.goto 7, 3) := by decide +kernel
theorem dX5_swap_12 : decode cX5_swap 12 = .ok (.iload_n 2, 1) := by decide +kernel
theorem dX5_swap_13 : decode cX5_swap 13 = .ok (.invokestatic 207, 3) := by decide +kernel
theorem dX5_swap_16 : decode cX5_swap 16 = .ok (.istore_n 3, 1) := by decide +kernel
theorem dX5_swap_17 : decode cX5_swap 17 = .ok (.iload_n 3, 1) := by decide +kernel
theorem dX5_swap_18 : decode cX5_swap 18 = .ok (.ifCond .eq 9, 3) := by decide +kernel
theorem dX5_swap_21 : decode cX5_swap 21 = .ok (.aload_n 0, 1) := by decide +kernel
theorem dX5_swap_22 : decode cX5_swap 22 = .ok (.iload_n 3, 1) := by decide +kernel
theorem dX5_swap_23 : decode cX5_swap 23 = .ok (.invokevirtual 77, 3) := by decide +kernel
theorem dX5_swap_26 : decode cX5_swap 26 = .ok (.ireturn, 1) := by decide +kernel
theorem dX5_swap_27 : decode cX5_swap 27 = .ok (.bipush (-9), 2) := by decide +kernel
theorem dX5_swap_29 : decode cX5_swap 29 = .ok (.istore 4, 2) := by decide +kernel
theorem dX5_swap_31 : decode cX5_swap 31 = .ok (.aload_n 0, 1) := by decide +kernel
theorem dX5_swap_32 : decode cX5_swap 32 = .ok (.iload_n 1, 1) := by decide +kernel
theorem dX5_swap_33 : decode cX5_swap 33 = .ok (.iload_n 2, 1) := by decide +kernel
theorem dX5_swap_34 : decode cX5_swap 34 = .ok (.invokevirtual 229, 3) := by decide +kernel
theorem dX5_swap_37 : decode cX5_swap 37 = .ok (.istore 5, 2) := by decide +kernel
theorem dX5_swap_39 : decode cX5_swap 39 = .ok (.iconst 0, 1) := by decide +kernel
theorem dX5_swap_40 : decode cX5_swap 40 = .ok (.istore 6, 2) := by decide +kernel
theorem dX5_swap_42 : decode cX5_swap 42 = .ok (.iload 6, 2) := by decide +kernel
theorem dX5_swap_44 : decode cX5_swap 44 = .ok (.aload_n 0, 1) := by decide +kernel
theorem dX5_swap_45 : decode cX5_swap 45 = .ok (.getfield 67, 3) := by decide +kernel
theorem dX5_swap_48 : decode cX5_swap 48 = .ok (.if_icmp .ge 66, 3) := by decide +kernel
theorem dX5_swap_51 : decode cX5_swap 51 = .ok (.iload 6, 2) := by decide +kernel
theorem dX5_swap_53 : decode cX5_swap 53 = .ok (.iconst 1, 1) := by decide +kernel
theorem dX5_swap_54 : decode cX5_swap 54 = .ok (.iadd, 1) := by decide +kernel
theorem dX5_swap_55 : decode cX5_swap 55 = .ok (.istore 7, 2) := by decide +kernel
theorem dX5_swap_57 : decode cX5_swap 57 = .ok (.iload 7, 2) := by decide +kernel
theorem dX5_swap_59 : decode cX5_swap 59 = .ok (.aload_n 0, 1) := by decide +kernel
theorem dX5_swap_60 : decode cX5_swap 60 = .ok (.getfield 67, 3) := by decide +kernel
theorem dX5_swap_63 : decode cX5_swap 63 = .ok (.if_icmp .ge 45, 3) := by decide +kernel
theorem dX5_swap_66 : decode cX5_swap 66 = .ok (.aload_n 0, 1) := by decide +kernel
theorem dX5_swap_67 : decode cX5_swap 67 = .ok (.iload 6, 2) := by decide +kernel
theorem dX5_swap_69 : decode cX5_swap 69 = .ok (.iload 7, 2) := by decide +kernel
theorem dX5_swap_71 : decode cX5_swap 71 = .ok (.iload_n 1, 1) := by decide +kernel
theorem dX5_swap_72 : decode cX5_swap 72 = .ok (.iload_n 2, 1) := by decide +kernel
theorem dX5_swap_73 : decode cX5_swap 73 = .ok (.invokevirtual 290, 3) := by decide +kernel
theorem dX5_swap_76 : decode cX5_swap 76 = .ok (.istore 8, 2) := by decide +kernel
theorem dX5_swap_78 : decode cX5_swap 78 = .ok (.iload 8, 2) := by decide +kernel
theorem dX5_swap_80 : decode cX5_swap 80 = .ok (.iload 5, 2) := by decide +kernel
theorem dX5_swap_82 : decode cX5_swap 82 = .ok (.if_icmp .gt 6, 3) := by decide +kernel
theorem dX5_swap_85 : decode cX5_swap 85 = .ok (.goto 17, 3) := by decide +kernel
theorem dX5_swap_88 : decode cX5_swap 88 = .ok (.bipush 10, 2) := by decide +kernel
theorem dX5_swap_90 : decode cX5_swap 90 = .ok (.iload 6, 2) := by decide +kernel
theorem dX5_swap_92 : decode cX5_swap 92 = .ok (.imul, 1) := by decide +kernel
theorem dX5_swap_93 : decode cX5_swap 93 = .ok (.iload 7, 2) := by decide +kernel
theorem dX5_swap_95 : decode cX5_swap 95 = .ok (.iadd, 1) := by decide +kernel
theorem dX5_swap_96 : decode cX5_swap 96 = .ok (.istore 4, 2) := by decide +kernel
theorem dX5_swap_98 : decode cX5_swap 98 = .ok (.iload 8, 2) := by decide +kernel
theorem dX5_swap_100 : decode cX5_swap 100 = .ok (.istore 5, 2) := by decide +kernel
theorem dX5_swap_102 : decode cX5_swap 102 = .ok (.iinc 7 1, 3) := by decide +kernel
theorem dX5_swap_105 : decode cX5_swap 105 = .ok (.goto (-48), 3) := by decide +kernel
theorem dX5_swap_108 : decode cX5_swap 108 = .ok (.iinc 6 1, 3) := by decide +kernel
theorem dX5_swap_111 : decode cX5_swap 111 = .ok (.goto (-69), 3) := by decide +kernel
theorem dX5_swap_114 : decode cX5_swap 114 = .ok (.iload 4, 2) := by decide +kernel
theorem dX5_swap_116 : decode cX5_swap 116 = .ok (.ireturn, 1) := by decide +kernel
set_option maxRecDepth 20000 in
theorem ggX5_ring_X5_notHours : GoodIn wsX5_ring wsX5_notHours := goodIn_r _ [5, 6, 7, 4, 8] (by decide +kernel) (by decide +kernel)
set_option maxRecDepth 20000 in
theorem gX5_ring_X5_notHours : GoodIn wsX5_ring (va_wsS RX5 207 yX5_notHours wsX5_notHours) := goodIn_app (goodIn_of _ (by decide +kernel)) ggX5_ring_X5_notHours
set_option maxRecDepth 20000 in
theorem ggX5_ring_X5_no : GoodIn wsX5_ring wsX5_no := goodIn_r _ [12, 13, 99, 100, 101, 102, 103, 104, 105, 106, 107, 108, 109, 110, 111, 112, 113, 114, 115, 116, 117, 118, 119, 120, 121, 122, 123, 124, 125, 126, 127, 128, 129, 130, 131] (by decide +kernel) (by decide +kernel)
set_option maxRecDepth 20000 in
theorem gX5_ring_X5_no : GoodIn wsX5_ring (wsV RX5 77 RX5 yX5_no wsX5_no) := goodIn_app (goodIn_of _ (by decide +kernel)) ggX5_ring_X5_no
set_option maxRecDepth 20000 in
theorem ggX5_ring_X5_thinks : GoodIn wsX5_ring wsX5_thinks := goodIn_r _ [17, 18, 19, 20, 4, 21, 22, 23, 24, 25, 26, 27, 28, 29, 30, 1, 31, 32, 33, 34, 35, 36, 37, 38, 39, 40, 41, 42, 99, 100, 101, 102, 103, 104, 105, 106, 107, 108, 109, 110, 111, 112, 113, 114, 115, 116, 117, 118, 119, 120, 121, 122, 123, 124, 125, 126, 127, 128, 129, 130, 131] (by decide +kernel) (by decide +kernel)
set_option maxRecDepth 20000 in
theorem gX5_ring_X5_thinks : GoodIn wsX5_ring (wsV RX5 210 RX5 yX5_thinks wsX5_thinks) := goodIn_app (goodIn_of _ (by decide +kernel)) ggX5_ring_X5_thinks
set_option maxRecDepth 20000 in
theorem ggX5_ring_X5_goes : GoodIn wsX5_ring wsX5_goes := goodIn_r _ [46, 47, 48, 49, 4, 50, 32, 29, 27, 26, 33, 28, 51, 52, 53, 54, 55, 56, 57, 58, 30, 1, 59, 60, 61, 62, 63, 64, 65, 24, 25, 66, 67, 68, 69, 70, 71, 72, 73, 74, 75, 76, 77, 78, 79, 80, 81, 82, 83, 31, 84, 85, 86, 87, 88, 89, 90, 91, 92, 93, 94, 99, 100, 101, 102, 103, 104, 105, 106, 107, 108, 109, 110, 111, 112, 113, 114, 115, 116, 117, 118, 119, 120, 121, 122, 123, 124, 125, 126, 127, 128, 129, 130, 131] (by decide +kernel) (by decide +kernel)
set_option maxRecDepth 20000 in
theorem gX5_ring_X5_goes : GoodIn wsX5_ring (wsV RX5 116 RX5 yX5_goes wsX5_goes) := goodIn_app (goodIn_of _ (by decide +kernel)) ggX5_ring_X5_goes
set_option maxRecDepth 20000 in
theorem ggX5_ring_X5_forgets : GoodIn wsX5_ring wsX5_forgets := goodIn_r _ [98, 18, 19, 20, 4, 21, 22, 23, 24, 25, 26, 27, 28, 29, 30, 1, 31, 32, 33, 34, 35, 36, 37, 38, 39, 40, 41, 42, 99, 100, 101, 102, 103, 104, 105, 106, 107, 108, 109, 110, 111, 112, 113, 114, 115, 116, 117, 118, 119, 120, 121, 122, 123, 124, 125, 126, 127, 128, 129, 130, 131] (by decide +kernel) (by decide +kernel)
set_option maxRecDepth 20000 in
theorem gX5_ring_X5_forgets : GoodIn wsX5_ring (wsV RX5 213 RX5 yX5_forgets wsX5_forgets) := goodIn_app (goodIn_of _ (by decide +kernel)) ggX5_ring_X5_forgets
theorem dX5_ring_0 : decode cX5_ring 0 = .ok (.iload_n 1, 1) := by decide +kernel
theorem dX5_ring_1 : decode cX5_ring 1 = .ok (.invokestatic 207, 3) := by decide +kernel
theorem dX5_ring_4 : decode cX5_ring 4 = .ok (.istore_n 2, 1) := by decide +kernel
theorem dX5_ring_5 : decode cX5_ring 5 = .ok (.iload_n 2, 1) := by decide +kernel
theorem dX5_ring_6 : decode cX5_ring 6 = .ok (.ifCond .eq 9, 3) := by decide +kernel
theorem dX5_ring_9 : decode cX5_ring 9 = .ok (.aload_n 0, 1) := by decide +kernel
theorem dX5_ring_10 : decode cX5_ring 10 = .ok (.iload_n 2, 1) := by decide +kernel
theorem dX5_ring_11 : decode cX5_ring 11 = .ok (.invokevirtual 77, 3) := by decide +kernel
theorem dX5_ring_14 : decode cX5_ring 14 = .ok (.ireturn, 1) := by decide +kernel
theorem dX5_ring_15 : decode cX5_ring 15 = .ok (.aload_n 0, 1) := by decide +kernel
theorem dX5_ring_16 : decode cX5_ring 16 = .ok (.invokevirtual 210, 3) := by decide +kernel
theorem dX5_ring_19 : decode cX5_ring 19 = .ok (.aload_n 0, 1) := by decide +kernel
theorem dX5_ring_20 : decode cX5_ring 20 = .ok (.iload_n 1, 1) := by decide +kernel
theorem dX5_ring_21 : decode cX5_ring 21 = .ok (.invokevirtual 116, 3) := by decide +kernel
theorem dX5_ring_24 : decode cX5_ring 24 = .ok (.aload_n 0, 1) := by decide +kernel
theorem dX5_ring_25 : decode cX5_ring 25 = .ok (.getfield 55, 3) := by decide +kernel
theorem dX5_ring_28 : decode cX5_ring 28 = .ok (.istore_n 3, 1) := by decide +kernel
theorem dX5_ring_29 : decode cX5_ring 29 = .ok (.aload_n 0, 1) := by decide +kernel
theorem dX5_ring_30 : decode cX5_ring 30 = .ok (.bipush 24, 2) := by decide +kernel
theorem dX5_ring_32 : decode cX5_ring 32 = .ok (.invokevirtual 116, 3) := by decide +kernel
theorem dX5_ring_35 : decode cX5_ring 35 = .ok (.aload_n 0, 1) := by decide +kernel
theorem dX5_ring_36 : decode cX5_ring 36 = .ok (.getfield 55, 3) := by decide +kernel
theorem dX5_ring_39 : decode cX5_ring 39 = .ok (.iload_n 3, 1) := by decide +kernel
theorem dX5_ring_40 : decode cX5_ring 40 = .ok (.if_icmp .ne 8, 3) := by decide +kernel
theorem dX5_ring_43 : decode cX5_ring 43 = .ok (.bipush 24, 2) := by decide +kernel
theorem dX5_ring_45 : decode cX5_ring 45 = .ok (.goto 5, 3) := by decide +kernel
theorem dX5_ring_48 : decode cX5_ring 48 = .ok (.bipush (-9), 2) := by decide +kernel
theorem dX5_ring_50 : decode cX5_ring 50 = .ok (.istore 4, 2) := by decide +kernel
theorem dX5_ring_52 : decode cX5_ring 52 = .ok (.aload_n 0, 1) := by decide +kernel
theorem dX5_ring_53 : decode cX5_ring 53 = .ok (.bipush 24, 2) := by decide +kernel
theorem dX5_ring_55 : decode cX5_ring 55 = .ok (.invokevirtual 116, 3) := by decide +kernel
theorem dX5_ring_58 : decode cX5_ring 58 = .ok (.iload 4, 2) := by decide +kernel
theorem dX5_ring_60 : decode cX5_ring 60 = .ok (.ifCond .ge 16, 3) := by decide +kernel
theorem dX5_ring_63 : decode cX5_ring 63 = .ok (.aload_n 0, 1) := by decide +kernel
theorem dX5_ring_64 : decode cX5_ring 64 = .ok (.getfield 55, 3) := by decide +kernel
theorem dX5_ring_67 : decode cX5_ring 67 = .ok (.iload_n 3, 1) := by decide +kernel
theorem dX5_ring_68 : decode cX5_ring 68 = .ok (.if_icmp .ne 8, 3) := by decide +kernel
theorem dX5_ring_71 : decode cX5_ring 71 = .ok (.bipush 48, 2) := by decide +kernel
theorem dX5_ring_73 : decode cX5_ring 73 = .ok (.goto 5, 3) := by decide +kernel
theorem dX5_ring_76 : decode cX5_ring 76 = .ok (.iload 4, 2) := by decide +kernel
theorem dX5_ring_78 : decode cX5_ring 78 = .ok (.istore 4, 2) := by decide +kernel
theorem dX5_ring_80 : decode cX5_ring 80 = .ok (.aload_n 0, 1) := by decide +kernel
theorem dX5_ring_81 : decode cX5_ring 81 = .ok (.invokevirtual 213, 3) := by decide +kernel
theorem dX5_ring_84 : decode cX5_ring 84 = .ok (.iload 4, 2) := by decide +kernel
theorem dX5_ring_86 : decode cX5_ring 86 = .ok (.ireturn, 1) := by decide +kernel
set_option maxRecDepth 20000 in
theorem ggX5_row_X5_bound : GoodIn wsX5_row wsX5_bound := goodIn_r _ [6] (by decide +kernel) (by decide +kernel)
set_option maxRecDepth 20000 in
theorem gX5_row_X5_bound : GoodIn wsX5_row (va_wsS RX5 70 yX5_bound wsX5_bound) := goodIn_app (goodIn_of _ (by decide +kernel)) ggX5_row_X5_bound
set_option maxRecDepth 20000 in
theorem ggX5_row_X5_no : GoodIn wsX5_row wsX5_no := goodIn_r _ [10, 11, 12, 13, 14, 15, 16, 17, 18, 19, 20, 21, 22, 23, 24, 25, 26, 27, 28, 29, 30, 31, 32, 33, 34, 35, 36, 37, 38, 39, 40, 41, 42, 43, 44] (by decide +kernel) (by decide +kernel)
set_option maxRecDepth 20000 in
theorem gX5_row_X5_no : GoodIn wsX5_row (wsV RX5 77 RX5 yX5_no wsX5_no) := goodIn_app (goodIn_of _ (by decide +kernel)) ggX5_row_X5_no
theorem dX5_row_0 : decode cX5_row 0 = .ok (.iload_n 1, 1) := by decide +kernel
theorem dX5_row_1 : decode cX5_row 1 = .ok (.iconst 0, 1) := by decide +kernel
theorem dX5_row_2 : decode cX5_row 2 = .ok (.bipush 99, 2) := by decide +kernel
theorem dX5_row_4 : decode cX5_row 4 = .ok (.invokestatic 70, 3) := by decide +kernel
theorem dX5_row_7 : decode cX5_row 7 = .ok (.istore_n 2, 1) := by decide +kernel
theorem dX5_row_8 : decode cX5_row 8 = .ok (.iload_n 2, 1) := by decide +kernel
theorem dX5_row_9 : decode cX5_row 9 = .ok (.ifCond .ne 15, 3) := by decide +kernel
theorem dX5_row_12 : decode cX5_row 12 = .ok (.aload_n 0, 1) := by decide +kernel
theorem dX5_row_13 : decode cX5_row 13 = .ok (.getfield 250, 3) := by decide +kernel
theorem dX5_row_16 : decode cX5_row 16 = .ok (.bipush 12, 2) := by decide +kernel
theorem dX5_row_18 : decode cX5_row 18 = .ok (.if_icmp .ne 6, 3) := by decide +kernel
theorem dX5_row_21 : decode cX5_row 21 = .ok (.bipush (-6), 2) := by decide +kernel
theorem dX5_row_23 : decode cX5_row 23 = .ok (.istore_n 2, 1) := by decide +kernel
theorem dX5_row_24 : decode cX5_row 24 = .ok (.iload_n 2, 1) := by decide +kernel
theorem dX5_row_25 : decode cX5_row 25 = .ok (.ifCond .eq 9, 3) := by decide +kernel
theorem dX5_row_28 : decode cX5_row 28 = .ok (.aload_n 0, 1) := by decide +kernel
theorem dX5_row_29 : decode cX5_row 29 = .ok (.iload_n 2, 1) := by decide +kernel
theorem dX5_row_30 : decode cX5_row 30 = .ok (.invokevirtual 77, 3) := by decide +kernel
theorem dX5_row_33 : decode cX5_row 33 = .ok (.ireturn, 1) := by decide +kernel
theorem dX5_row_34 : decode cX5_row 34 = .ok (.aload_n 0, 1) := by decide +kernel
theorem dX5_row_35 : decode cX5_row 35 = .ok (.getfield 49, 3) := by decide +kernel
theorem dX5_row_38 : decode cX5_row 38 = .ok (.aload_n 0, 1) := by decide +kernel
theorem dX5_row_39 : decode cX5_row 39 = .ok (.getfield 250, 3) := by decide +kernel
theorem dX5_row_42 : decode cX5_row 42 = .ok (.iload_n 1, 1) := by decide +kernel
theorem dX5_row_43 : decode cX5_row 43 = .ok (.iastore, 1) := by decide +kernel
theorem dX5_row_44 : decode cX5_row 44 = .ok (.aload_n 0, 1) := by decide +kernel
theorem dX5_row_45 : decode cX5_row 45 = .ok (.dup, 1) := by decide +kernel
theorem dX5_row_46 : decode cX5_row 46 = .ok (.getfield 250, 3) := by decide +kernel
theorem dX5_row_49 : decode cX5_row 49 = .ok (.iconst 1, 1) := by decide +kernel
theorem dX5_row_50 : decode cX5_row 50 = .ok (.iadd, 1) := by decide +kernel
theorem dX5_row_51 : decode cX5_row 51 = .ok (.putfield 250, 3) := by decide +kernel
theorem dX5_row_54 : decode cX5_row 54 = .ok (.aload_n 0, 1) := by decide +kernel
theorem dX5_row_55 : decode cX5_row 55 = .ok (.getfield 250, 3) := by decide +kernel
theorem dX5_row_58 : decode cX5_row 58 = .ok (.ireturn, 1) := by decide +kernel
set_option maxRecDepth 20000 in
theorem ggX5_judge_X5_thinks : GoodIn wsX5_judge wsX5_thinks := goodIn_r _ [8, 9, 10, 11, 7, 12, 13, 14, 15, 16, 17, 18, 19, 20, 21, 22, 23, 2, 24, 25, 26, 27, 28, 29, 30, 31, 32, 33, 86, 87, 88, 89, 90, 91, 92, 93, 94, 95, 96, 97, 98, 99, 100, 101, 102, 103, 104, 105, 106, 107, 108, 109, 110, 111, 112, 113, 114, 115, 116, 117, 118] (by decide +kernel) (by decide +kernel)
set_option maxRecDepth 20000 in
theorem gX5_judge_X5_thinks : GoodIn wsX5_judge (wsV RX5 210 RX5 yX5_thinks wsX5_thinks) := goodIn_app (goodIn_of _ (by decide +kernel)) ggX5_judge_X5_thinks
set_option maxRecDepth 20000 in
theorem ggX5_judge_X5_loudestAt : GoodIn wsX5_judge wsX5_loudestAt := goodIn_r _ [37, 20, 38, 39, 40, 7, 41, 21, 18, 17, 22, 42, 43, 44, 45, 46, 47, 48, 15, 16, 49, 50, 51, 52, 53, 54, 55, 56, 57, 58, 59, 60, 61, 62, 86, 87, 88, 89, 90, 91, 92, 93, 94, 95, 96, 97, 98, 99, 100, 101, 102, 103, 104, 105, 106, 107, 108, 109, 110, 111, 112, 113, 114, 115, 116, 117, 118] (by decide +kernel) (by decide +kernel)
set_option maxRecDepth 20000 in
theorem gX5_judge_X5_loudestAt : GoodIn wsX5_judge (wsV RX5 188 RX5 yX5_loudestAt wsX5_loudestAt) := goodIn_app (goodIn_of _ (by decide +kernel)) ggX5_judge_X5_loudestAt
set_option maxRecDepth 20000 in
theorem ggX5_judge_X5_goesHour : GoodIn wsX5_judge wsX5_goesHour := goodIn_r _ [66, 2, 20, 18, 17, 24, 19, 34, 35, 36, 7, 37, 38, 39, 40, 41, 21, 22, 42, 43, 44, 45, 46, 47, 48, 15, 16, 49, 50, 51, 52, 53, 54, 55, 56, 57, 58, 59, 60, 61, 62, 67, 68, 69, 70, 23, 71, 72, 73, 74, 75, 76, 77, 78, 79, 80, 81, 86, 87, 88, 89, 90, 91, 92, 93, 94, 95, 96, 97, 98, 99, 100, 101, 102, 103, 104, 105, 106, 107, 108, 109, 110, 111, 112, 113, 114, 115, 116, 117, 118] (by decide +kernel) (by decide +kernel)
set_option maxRecDepth 20000 in
theorem gX5_judge_X5_goesHour : GoodIn wsX5_judge (wsV RX5 197 RX5 yX5_goesHour wsX5_goesHour) := goodIn_app (goodIn_of _ (by decide +kernel)) ggX5_judge_X5_goesHour
set_option maxRecDepth 20000 in
theorem ggX5_judge_X5_forgets : GoodIn wsX5_judge wsX5_forgets := goodIn_r _ [85, 9, 10, 11, 7, 12, 13, 14, 15, 16, 17, 18, 19, 20, 21, 22, 23, 2, 24, 25, 26, 27, 28, 29, 30, 31, 32, 33, 86, 87, 88, 89, 90, 91, 92, 93, 94, 95, 96, 97, 98, 99, 100, 101, 102, 103, 104, 105, 106, 107, 108, 109, 110, 111, 112, 113, 114, 115, 116, 117, 118] (by decide +kernel) (by decide +kernel)
set_option maxRecDepth 20000 in
theorem gX5_judge_X5_forgets : GoodIn wsX5_judge (wsV RX5 213 RX5 yX5_forgets wsX5_forgets) := goodIn_app (goodIn_of _ (by decide +kernel)) ggX5_judge_X5_forgets
theorem dX5_judge_0 : decode cX5_judge 0 = .ok (.aload_n 0, 1) := by decide +kernel
theorem dX5_judge_1 : decode cX5_judge 1 = .ok (.getfield 250, 3) := by decide +kernel
theorem dX5_judge_4 : decode cX5_judge 4 = .ok (.istore_n 1, 1) := by decide +kernel
theorem dX5_judge_5 : decode cX5_judge 5 = .ok (.aload_n 0, 1) := by decide +kernel
theorem dX5_judge_6 : decode cX5_judge 6 = .ok (.iconst 0, 1) := by decide +kernel
theorem dX5_judge_7 : decode cX5_judge 7 = .ok (.putfield 250, 3) := by decide +kernel
theorem dX5_judge_10 : decode cX5_judge 10 = .ok (.aload_n 0, 1) := by decide +kernel
theorem dX5_judge_11 : decode cX5_judge 11 = .ok (.invokevirtual 210, 3) := by decide +kernel
theorem dX5_judge_14 : decode cX5_judge 14 = .ok (.bipush (-9), 2) := by decide +kernel
theorem dX5_judge_16 : decode cX5_judge 16 = .ok (.istore_n 2, 1) := by decide +kernel
theorem dX5_judge_17 : decode cX5_judge 17 = .ok (.iconst 0, 1) := by decide +kernel
theorem dX5_judge_18 : decode cX5_judge 18 = .ok (.istore_n 3, 1) := by decide +kernel
theorem dX5_judge_19 : decode cX5_judge 19 = .ok (.iload_n 3, 1) := by decide +kernel
theorem dX5_judge_20 : decode cX5_judge 20 = .ok (.iload_n 1, 1) := by decide +kernel
theorem dX5_judge_21 : decode cX5_judge 21 = .ok (.if_icmp .ge 56, 3) := by decide +kernel
theorem dX5_judge_24 : decode cX5_judge 24 = .ok (.iload_n 2, 1) := by decide +kernel
theorem dX5_judge_25 : decode cX5_judge 25 = .ok (.ifCond .ge 52, 3) := by decide +kernel
theorem dX5_judge_28 : decode cX5_judge 28 = .ok (.aload_n 0, 1) := by decide +kernel
theorem dX5_judge_29 : decode cX5_judge 29 = .ok (.aload_n 0, 1) := by decide +kernel
theorem dX5_judge_30 : decode cX5_judge 30 = .ok (.getfield 62, 3) := by decide +kernel
theorem dX5_judge_33 : decode cX5_judge 33 = .ok (.invokevirtual 188, 3) := by decide +kernel
theorem dX5_judge_36 : decode cX5_judge 36 = .ok (.istore 4, 2) := by decide +kernel
theorem dX5_judge_38 : decode cX5_judge 38 = .ok (.iload 4, 2) := by decide +kernel
theorem dX5_judge_40 : decode cX5_judge 40 = .ok (.ifCond .ge 8, 3) := by decide +kernel
theorem dX5_judge_43 : decode cX5_judge 43 = .ok (.bipush 9, 2) := by decide +kernel
theorem dX5_judge_45 : decode cX5_judge 45 = .ok (.goto 5, 3) := by decide +kernel
theorem dX5_judge_48 : decode cX5_judge 48 = .ok (.iload 4, 2) := by decide +kernel
theorem dX5_judge_50 : decode cX5_judge 50 = .ok (.aload_n 0, 1) := by decide +kernel
theorem dX5_judge_51 : decode cX5_judge 51 = .ok (.getfield 49, 3) := by decide +kernel
theorem dX5_judge_54 : decode cX5_judge 54 = .ok (.iload_n 3, 1) := by decide +kernel
theorem dX5_judge_55 : decode cX5_judge 55 = .ok (.iaload, 1) := by decide +kernel
theorem dX5_judge_56 : decode cX5_judge 56 = .ok (.if_icmp .ne 8, 3) := by decide +kernel
theorem dX5_judge_59 : decode cX5_judge 59 = .ok (.bipush (-9), 2) := by decide +kernel
theorem dX5_judge_61 : decode cX5_judge 61 = .ok (.goto 4, 3) := by decide +kernel
theorem dX5_judge_64 : decode cX5_judge 64 = .ok (.iload_n 3, 1) := by decide +kernel
theorem dX5_judge_65 : decode cX5_judge 65 = .ok (.istore_n 2, 1) := by decide +kernel
theorem dX5_judge_66 : decode cX5_judge 66 = .ok (.aload_n 0, 1) := by decide +kernel
theorem dX5_judge_67 : decode cX5_judge 67 = .ok (.iconst 0, 1) := by decide +kernel
theorem dX5_judge_68 : decode cX5_judge 68 = .ok (.invokevirtual 197, 3) := by decide +kernel
theorem dX5_judge_71 : decode cX5_judge 71 = .ok (.iinc 3 1, 3) := by decide +kernel
theorem dX5_judge_74 : decode cX5_judge 74 = .ok (.goto (-55), 3) := by decide +kernel
theorem dX5_judge_77 : decode cX5_judge 77 = .ok (.aload_n 0, 1) := by decide +kernel
theorem dX5_judge_78 : decode cX5_judge 78 = .ok (.invokevirtual 213, 3) := by decide +kernel
theorem dX5_judge_81 : decode cX5_judge 81 = .ok (.iload_n 2, 1) := by decide +kernel
theorem dX5_judge_82 : decode cX5_judge 82 = .ok (.ireturn, 1) := by decide +kernel
theorem dX5_clear_0 : decode cX5_clear 0 = .ok (.aload_n 0, 1) := by decide +kernel
theorem dX5_clear_1 : decode cX5_clear 1 = .ok (.getfield 250, 3) := by decide +kernel
theorem dX5_clear_4 : decode cX5_clear 4 = .ok (.istore_n 1, 1) := by decide +kernel
theorem dX5_clear_5 : decode cX5_clear 5 = .ok (.aload_n 0, 1) := by decide +kernel
theorem dX5_clear_6 : decode cX5_clear 6 = .ok (.iconst 0, 1) := by decide +kernel
theorem dX5_clear_7 : decode cX5_clear 7 = .ok (.putfield 250, 3) := by decide +kernel
theorem dX5_clear_10 : decode cX5_clear 10 = .ok (.iload_n 1, 1) := by decide +kernel
theorem dX5_clear_11 : decode cX5_clear 11 = .ok (.ireturn, 1) := by decide +kernel
theorem dX5_draw_0 : decode cX5_draw 0 = .ok (.aload_n 0, 1) := by decide +kernel
theorem dX5_draw_1 : decode cX5_draw 1 = .ok (.aload_n 0, 1) := by decide +kernel
theorem dX5_draw_2 : decode cX5_draw 2 = .ok (.getfield 294, 3) := by decide +kernel
theorem dX5_draw_5 : decode cX5_draw 5 = .ok (.ldc_w 297, 3) := by decide +kernel
theorem dX5_draw_8 : decode cX5_draw 8 = .ok (.imul, 1) := by decide +kernel
theorem dX5_draw_9 : decode cX5_draw 9 = .ok (.sipush 12345, 3) := by decide +kernel
theorem dX5_draw_12 : decode cX5_draw 12 = .ok (.iadd, 1) := by decide +kernel
theorem dX5_draw_13 : decode cX5_draw 13 = .ok (.putfield 294, 3) := by decide +kernel
theorem dX5_draw_16 : decode cX5_draw 16 = .ok (.aload_n 0, 1) := by decide +kernel
theorem dX5_draw_17 : decode cX5_draw 17 = .ok (.getfield 294, 3) := by decide +kernel
theorem dX5_draw_20 : decode cX5_draw 20 = .ok (.ldc_w 298, 3) := by decide +kernel
theorem dX5_draw_23 : decode cX5_draw 23 = .ok (.iand, 1) := by decide +kernel
theorem dX5_draw_24 : decode cX5_draw 24 = .ok (.ldc_w 299, 3) := by decide +kernel
theorem dX5_draw_27 : decode cX5_draw 27 = .ok (.idiv, 1) := by decide +kernel
theorem dX5_draw_28 : decode cX5_draw 28 = .ok (.iload_n 1, 1) := by decide +kernel
theorem dX5_draw_29 : decode cX5_draw 29 = .ok (.irem, 1) := by decide +kernel
theorem dX5_draw_30 : decode cX5_draw 30 = .ok (.ireturn, 1) := by decide +kernel
set_option maxRecDepth 20000 in
theorem ggX5_lots_X5_bound : GoodIn wsX5_lots wsX5_bound := goodIn_r _ [8] (by decide +kernel) (by decide +kernel)
set_option maxRecDepth 20000 in
theorem gX5_lots_X5_bound : GoodIn wsX5_lots (va_wsS RX5 70 yX5_bound wsX5_bound) := goodIn_app (goodIn_of _ (by decide +kernel)) ggX5_lots_X5_bound
set_option maxRecDepth 20000 in
theorem ggX5_lots_X5_isIn : GoodIn wsX5_lots wsX5_isIn := goodIn_r _ [11] (by decide +kernel) (by decide +kernel)
set_option maxRecDepth 20000 in
theorem gX5_lots_X5_isIn : GoodIn wsX5_lots (va_wsS RX5 88 yX5_isIn wsX5_isIn) := goodIn_app (goodIn_of _ (by decide +kernel)) ggX5_lots_X5_isIn
set_option maxRecDepth 20000 in
theorem ggX5_lots_X5_no : GoodIn wsX5_lots wsX5_no := goodIn_r _ [15, 16, 111, 112, 113, 114, 115, 116, 117, 118, 119, 120, 121, 122, 123, 124, 125, 126, 127, 128, 129, 130, 131, 132, 133, 134, 135, 136, 137, 138, 139, 140, 141, 142, 143] (by decide +kernel) (by decide +kernel)
set_option maxRecDepth 20000 in
theorem gX5_lots_X5_no : GoodIn wsX5_lots (wsV RX5 77 RX5 yX5_no wsX5_no) := goodIn_app (goodIn_of _ (by decide +kernel)) ggX5_lots_X5_no
set_option maxRecDepth 20000 in
theorem ggX5_lots_X5_allJoy : GoodIn wsX5_lots wsX5_allJoy := goodIn_r _ [20, 3, 21, 111, 112, 113, 114, 115, 116, 117, 118, 119, 120, 121, 122, 123, 124, 125, 126, 127, 128, 129, 130, 131, 132, 133, 134, 135, 136, 137, 138, 139, 140, 141, 142, 143] (by decide +kernel) (by decide +kernel)
set_option maxRecDepth 20000 in
theorem gX5_lots_X5_allJoy : GoodIn wsX5_lots (wsV RX5 284 RX5 yX5_allJoy wsX5_allJoy) := goodIn_app (goodIn_of _ (by decide +kernel)) ggX5_lots_X5_allJoy
set_option maxRecDepth 20000 in
theorem ggX5_lots_X5_thinks : GoodIn wsX5_lots wsX5_thinks := goodIn_r _ [25, 26, 27, 28, 7, 29, 30, 31, 32, 33, 34, 35, 21, 3, 4, 2, 36, 37, 38, 39, 40, 41, 42, 43, 44, 45, 46, 47, 111, 112, 113, 114, 115, 116, 117, 118, 119, 120, 121, 122, 123, 124, 125, 126, 127, 128, 129, 130, 131, 132, 133, 134, 135, 136, 137, 138, 139, 140, 141, 142, 143] (by decide +kernel) (by decide +kernel)
set_option maxRecDepth 20000 in
theorem gX5_lots_X5_thinks : GoodIn wsX5_lots (wsV RX5 210 RX5 yX5_thinks wsX5_thinks) := goodIn_app (goodIn_of _ (by decide +kernel)) ggX5_lots_X5_thinks
set_option maxRecDepth 20000 in
theorem ggX5_lots_X5_draw : GoodIn wsX5_lots wsX5_draw := goodIn_r _ [51, 1, 52, 53, 54, 111, 112, 113, 114, 115, 116, 117, 118, 119, 120, 121, 122, 123, 124, 125, 126, 127, 128, 129, 130, 131, 132, 133, 134, 135, 136, 137, 138, 139, 140, 141, 142, 143] (by decide +kernel) (by decide +kernel)
set_option maxRecDepth 20000 in
theorem gX5_lots_X5_draw : GoodIn wsX5_lots (wsV RX5 300 RX5 yX5_draw wsX5_draw) := goodIn_app (goodIn_of _ (by decide +kernel)) ggX5_lots_X5_draw
set_option maxRecDepth 20000 in
theorem ggX5_lots_X5_hushed : GoodIn wsX5_lots wsX5_hushed := goodIn_r _ [57] (by decide +kernel) (by decide +kernel)
set_option maxRecDepth 20000 in
theorem gX5_lots_X5_hushed : GoodIn wsX5_lots (va_wsS RX5 263 yX5_hushed wsX5_hushed) := goodIn_app (goodIn_of _ (by decide +kernel)) ggX5_lots_X5_hushed
set_option maxRecDepth 20000 in
theorem ggX5_lots_X5_goes : GoodIn wsX5_lots wsX5_goes := goodIn_r _ [61, 62, 63, 64, 7, 65, 37, 3, 35, 34, 38, 21, 66, 67, 68, 69, 70, 71, 72, 73, 4, 2, 74, 75, 76, 77, 78, 79, 80, 32, 33, 81, 82, 83, 84, 9, 10, 11, 85, 86, 87, 88, 89, 90, 91, 92, 93, 94, 95, 36, 96, 97, 98, 99, 100, 101, 102, 103, 104, 105, 106, 111, 112, 113, 114, 115, 116, 117, 118, 119, 120, 121, 122, 123, 124, 125, 126, 127, 128, 129, 130, 131, 132, 133, 134, 135, 136, 137, 138, 139, 140, 141, 142, 143] (by decide +kernel) (by decide +kernel)
set_option maxRecDepth 20000 in
theorem gX5_lots_X5_goes : GoodIn wsX5_lots (wsV RX5 116 RX5 yX5_goes wsX5_goes) := goodIn_app (goodIn_of _ (by decide +kernel)) ggX5_lots_X5_goes
set_option maxRecDepth 20000 in
theorem ggX5_lots_X5_holder : GoodIn wsX5_lots wsX5_holder := goodIn_r _ [102, 2, 103, 104, 105, 7, 106, 3, 34, 111, 112, 113, 114, 115, 116, 117, 118, 119, 120, 121, 122, 123, 124, 125, 126, 127, 128, 129, 130, 131, 132, 133, 134, 135, 136, 137, 138, 139, 140, 141, 142, 143] (by decide +kernel) (by decide +kernel)
set_option maxRecDepth 20000 in
theorem gX5_lots_X5_holder : GoodIn wsX5_lots (wsV RX5 194 RX5 yX5_holder wsX5_holder) := goodIn_app (goodIn_of _ (by decide +kernel)) ggX5_lots_X5_holder
set_option maxRecDepth 20000 in
theorem ggX5_lots_X5_forgets : GoodIn wsX5_lots wsX5_forgets := goodIn_r _ [110, 26, 27, 28, 7, 29, 30, 31, 32, 33, 34, 35, 21, 3, 4, 2, 36, 37, 38, 39, 40, 41, 42, 43, 44, 45, 46, 47, 111, 112, 113, 114, 115, 116, 117, 118, 119, 120, 121, 122, 123, 124, 125, 126, 127, 128, 129, 130, 131, 132, 133, 134, 135, 136, 137, 138, 139, 140, 141, 142, 143] (by decide +kernel) (by decide +kernel)
set_option maxRecDepth 20000 in
theorem gX5_lots_X5_forgets : GoodIn wsX5_lots (wsV RX5 213 RX5 yX5_forgets wsX5_forgets) := goodIn_app (goodIn_of _ (by decide +kernel)) ggX5_lots_X5_forgets
theorem dX5_lots_0 : decode cX5_lots 0 = .ok (.iload_n 1, 1) := by decide +kernel
theorem dX5_lots_1 : decode cX5_lots 1 = .ok (.iconst 1, 1) := by decide +kernel
theorem dX5_lots_2 : decode cX5_lots 2 = .ok (.bipush 20, 2) := by decide +kernel
theorem dX5_lots_4 : decode cX5_lots 4 = .ok (.invokestatic 70, 3) := by decide +kernel
theorem dX5_lots_7 : decode cX5_lots 7 = .ok (.istore 4, 2) := by decide +kernel
theorem dX5_lots_9 : decode cX5_lots 9 = .ok (.iload 4, 2) := by decide +kernel
theorem dX5_lots_11 : decode cX5_lots 11 = .ok (.ifCond .ne 16, 3) := by decide +kernel
theorem dX5_lots_14 : decode cX5_lots 14 = .ok (.iload_n 3, 1) := by decide +kernel
theorem dX5_lots_15 : decode cX5_lots 15 = .ok (.iconst 0, 1) := by decide +kernel
theorem dX5_lots_16 : decode cX5_lots 16 = .ok (.iconst 1, 1) := by decide +kernel
theorem dX5_lots_17 : decode cX5_lots 17 = .ok (.invokestatic 88, 3) := by decide +kernel
theorem dX5_lots_20 : decode cX5_lots 20 = .ok (.ifCond .ne 7, 3) := by decide +kernel
theorem dX5_lots_23 : decode cX5_lots 23 = .ok (.bipush (-2), 2) := by decide +kernel
theorem dX5_lots_25 : decode cX5_lots 25 = .ok (.istore 4, 2) := by decide +kernel
theorem dX5_lots_27 : decode cX5_lots 27 = .ok (.iload 4, 2) := by decide +kernel
theorem dX5_lots_29 : decode cX5_lots 29 = .ok (.ifCond .eq 10, 3) := by decide +kernel
theorem dX5_lots_32 : decode cX5_lots 32 = .ok (.aload_n 0, 1) := by decide +kernel
theorem dX5_lots_33 : decode cX5_lots 33 = .ok (.iload 4, 2) := by decide +kernel
theorem dX5_lots_35 : decode cX5_lots 35 = .ok (.invokevirtual 77, 3) := by decide +kernel
theorem dX5_lots_38 : decode cX5_lots 38 = .ok (.ireturn, 1) := by decide +kernel
theorem dX5_lots_39 : decode cX5_lots 39 = .ok (.aload_n 0, 1) := by decide +kernel
theorem dX5_lots_40 : decode cX5_lots 40 = .ok (.iload_n 2, 1) := by decide +kernel
theorem dX5_lots_41 : decode cX5_lots 41 = .ok (.putfield 294, 3) := by decide +kernel
theorem dX5_lots_44 : decode cX5_lots 44 = .ok (.iconst 0, 1) := by decide +kernel
theorem dX5_lots_45 : decode cX5_lots 45 = .ok (.istore 5, 2) := by decide +kernel
theorem dX5_lots_47 : decode cX5_lots 47 = .ok (.iconst 0, 1) := by decide +kernel
theorem dX5_lots_48 : decode cX5_lots 48 = .ok (.istore 6, 2) := by decide +kernel
theorem dX5_lots_50 : decode cX5_lots 50 = .ok (.aload_n 0, 1) := by decide +kernel
theorem dX5_lots_51 : decode cX5_lots 51 = .ok (.invokevirtual 284, 3) := by decide +kernel
theorem dX5_lots_54 : decode cX5_lots 54 = .ok (.istore 7, 2) := by decide +kernel
theorem dX5_lots_56 : decode cX5_lots 56 = .ok (.iconst 0, 1) := by decide +kernel
theorem dX5_lots_57 : decode cX5_lots 57 = .ok (.istore 8, 2) := by decide +kernel
theorem dX5_lots_59 : decode cX5_lots 59 = .ok (.iload 8, 2) := by decide +kernel
theorem dX5_lots_61 : decode cX5_lots 61 = .ok (.iload_n 1, 1) := by decide +kernel
theorem dX5_lots_62 : decode cX5_lots 62 = .ok (.if_icmp .ge 98, 3) := by decide +kernel
theorem dX5_lots_65 : decode cX5_lots 65 = .ok (.aload_n 0, 1) := by decide +kernel
theorem dX5_lots_66 : decode cX5_lots 66 = .ok (.invokevirtual 210, 3) := by decide +kernel
theorem dX5_lots_69 : decode cX5_lots 69 = .ok (.aload_n 0, 1) := by decide +kernel
theorem dX5_lots_70 : decode cX5_lots 70 = .ok (.aload_n 0, 1) := by decide +kernel
theorem dX5_lots_71 : decode cX5_lots 71 = .ok (.bipush 31, 2) := by decide +kernel
theorem dX5_lots_73 : decode cX5_lots 73 = .ok (.invokevirtual 300, 3) := by decide +kernel
theorem dX5_lots_76 : decode cX5_lots 76 = .ok (.putfield 55, 3) := by decide +kernel
theorem dX5_lots_79 : decode cX5_lots 79 = .ok (.iconst 0, 1) := by decide +kernel
theorem dX5_lots_80 : decode cX5_lots 80 = .ok (.istore 9, 2) := by decide +kernel
theorem dX5_lots_82 : decode cX5_lots 82 = .ok (.iload 9, 2) := by decide +kernel
theorem dX5_lots_84 : decode cX5_lots 84 = .ok (.aload_n 0, 1) := by decide +kernel
theorem dX5_lots_85 : decode cX5_lots 85 = .ok (.getfield 67, 3) := by decide +kernel
theorem dX5_lots_88 : decode cX5_lots 88 = .ok (.if_icmp .ge 27, 3) := by decide +kernel
theorem dX5_lots_91 : decode cX5_lots 91 = .ok (.aload_n 0, 1) := by decide +kernel
theorem dX5_lots_92 : decode cX5_lots 92 = .ok (.aload_n 0, 1) := by decide +kernel
theorem dX5_lots_93 : decode cX5_lots 93 = .ok (.getfield 126, 3) := by decide +kernel
theorem dX5_lots_96 : decode cX5_lots 96 = .ok (.iload 9, 2) := by decide +kernel
theorem dX5_lots_98 : decode cX5_lots 98 = .ok (.aload_n 0, 1) := by decide +kernel
theorem dX5_lots_99 : decode cX5_lots 99 = .ok (.iconst 4, 1) := by decide +kernel
theorem dX5_lots_100 : decode cX5_lots 100 = .ok (.invokevirtual 300, 3) := by decide +kernel
theorem dX5_lots_103 : decode cX5_lots 103 = .ok (.invokestatic 263, 3) := by decide +kernel
theorem dX5_lots_106 : decode cX5_lots 106 = .ok (.putfield 126, 3) := by decide +kernel
theorem dX5_lots_109 : decode cX5_lots 109 = .ok (.iinc 9 1, 3) := by decide +kernel
theorem dX5_lots_112 : decode cX5_lots 112 = .ok (.goto (-30), 3) := by decide +kernel
theorem dX5_lots_115 : decode cX5_lots 115 = .ok (.aload_n 0, 1) := by decide +kernel
theorem dX5_lots_116 : decode cX5_lots 116 = .ok (.bipush 24, 2) := by decide +kernel
theorem dX5_lots_118 : decode cX5_lots 118 = .ok (.invokevirtual 116, 3) := by decide +kernel
theorem dX5_lots_121 : decode cX5_lots 121 = .ok (.iload 5, 2) := by decide +kernel
theorem dX5_lots_123 : decode cX5_lots 123 = .ok (.aload_n 0, 1) := by decide +kernel
theorem dX5_lots_124 : decode cX5_lots 124 = .ok (.invokevirtual 284, 3) := by decide +kernel
theorem dX5_lots_127 : decode cX5_lots 127 = .ok (.iload 7, 2) := by decide +kernel
theorem dX5_lots_129 : decode cX5_lots 129 = .ok (.isub, 1) := by decide +kernel
theorem dX5_lots_130 : decode cX5_lots 130 = .ok (.iadd, 1) := by decide +kernel
theorem dX5_lots_131 : decode cX5_lots 131 = .ok (.istore 5, 2) := by decide +kernel
theorem dX5_lots_133 : decode cX5_lots 133 = .ok (.iload 6, 2) := by decide +kernel
theorem dX5_lots_135 : decode cX5_lots 135 = .ok (.aload_n 0, 1) := by decide +kernel
theorem dX5_lots_136 : decode cX5_lots 136 = .ok (.invokevirtual 194, 3) := by decide +kernel
theorem dX5_lots_139 : decode cX5_lots 139 = .ok (.ifCond .lt 7, 3) := by decide +kernel
theorem dX5_lots_142 : decode cX5_lots 142 = .ok (.iconst 1, 1) := by decide +kernel
theorem dX5_lots_143 : decode cX5_lots 143 = .ok (.goto 4, 3) := by decide +kernel
theorem dX5_lots_146 : decode cX5_lots 146 = .ok (.iconst 0, 1) := by decide +kernel
theorem dX5_lots_147 : decode cX5_lots 147 = .ok (.iadd, 1) := by decide +kernel
theorem dX5_lots_148 : decode cX5_lots 148 = .ok (.istore 6, 2) := by decide +kernel
theorem dX5_lots_150 : decode cX5_lots 150 = .ok (.aload_n 0, 1) := by decide +kernel
theorem dX5_lots_151 : decode cX5_lots 151 = .ok (.invokevirtual 213, 3) := by decide +kernel
theorem dX5_lots_154 : decode cX5_lots 154 = .ok (.iinc 8 1, 3) := by decide +kernel
theorem dX5_lots_157 : decode cX5_lots 157 = .ok (.goto (-98), 3) := by decide +kernel
theorem dX5_lots_160 : decode cX5_lots 160 = .ok (.iload_n 3, 1) := by decide +kernel
theorem dX5_lots_161 : decode cX5_lots 161 = .ok (.ifCond .ne 8, 3) := by decide +kernel
theorem dX5_lots_164 : decode cX5_lots 164 = .ok (.iload 5, 2) := by decide +kernel
theorem dX5_lots_166 : decode cX5_lots 166 = .ok (.goto 5, 3) := by decide +kernel
theorem dX5_lots_169 : decode cX5_lots 169 = .ok (.iload 6, 2) := by decide +kernel
theorem dX5_lots_171 : decode cX5_lots 171 = .ok (.ireturn, 1) := by decide +kernel
set_option maxRecDepth 20000 in
theorem ggX5_count_X5_isIn : GoodIn wsX5_count wsX5_isIn := goodIn_r _ [12] (by decide +kernel) (by decide +kernel)
set_option maxRecDepth 20000 in
theorem gX5_count_X5_isIn : GoodIn wsX5_count (va_wsS RX5 88 yX5_isIn wsX5_isIn) := goodIn_app (goodIn_of _ (by decide +kernel)) ggX5_count_X5_isIn
set_option maxRecDepth 20000 in
theorem ggX5_count_X5_allJoy : GoodIn wsX5_count wsX5_allJoy := goodIn_r _ [16, 2, 17, 23, 24, 25, 26, 27, 28, 29, 30, 31, 32, 33, 34, 35, 36, 37, 38, 39, 40, 41, 42, 43, 44, 45, 46, 47, 48, 49, 50, 51, 52, 53, 54, 55] (by decide +kernel) (by decide +kernel)
set_option maxRecDepth 20000 in
theorem gX5_count_X5_allJoy : GoodIn wsX5_count (wsV RX5 284 RX5 yX5_allJoy wsX5_allJoy) := goodIn_app (goodIn_of _ (by decide +kernel)) ggX5_count_X5_allJoy
set_option maxRecDepth 20000 in
theorem ggX5_count_X5_allPowder : GoodIn wsX5_count wsX5_allPowder := goodIn_r _ [21, 2, 22, 23, 24, 25, 26, 27, 28, 29, 30, 31, 32, 33, 34, 35, 36, 37, 38, 39, 40, 41, 42, 43, 44, 45, 46, 47, 48, 49, 50, 51, 52, 53, 54, 55] (by decide +kernel) (by decide +kernel)
set_option maxRecDepth 20000 in
theorem gX5_count_X5_allPowder : GoodIn wsX5_count (wsV RX5 287 RX5 yX5_allPowder wsX5_allPowder) := goodIn_app (goodIn_of _ (by decide +kernel)) ggX5_count_X5_allPowder
theorem dX5_count_0 : decode cX5_count 0 = .ok (.iload_n 1, 1) := by decide +kernel
theorem dX5_count_1 : decode cX5_count 1 = .ok (.bipush 11, 2) := by decide +kernel
theorem dX5_count_3 : decode cX5_count 3 = .ok (.bipush 16, 2) := by decide +kernel
theorem dX5_count_5 : decode cX5_count 5 = .ok (.invokestatic 88, 3) := by decide +kernel
theorem dX5_count_8 : decode cX5_count 8 = .ok (.ifCond .eq 13, 3) := by decide +kernel
theorem dX5_count_11 : decode cX5_count 11 = .ok (.aload_n 0, 1) := by decide +kernel
theorem dX5_count_12 : decode cX5_count 12 = .ok (.getfield 7, 3) := by decide +kernel
theorem dX5_count_15 : decode cX5_count 15 = .ok (.iload_n 1, 1) := by decide +kernel
theorem dX5_count_16 : decode cX5_count 16 = .ok (.bipush 10, 2) := by decide +kernel
theorem dX5_count_18 : decode cX5_count 18 = .ok (.isub, 1) := by decide +kernel
theorem dX5_count_19 : decode cX5_count 19 = .ok (.iaload, 1) := by decide +kernel
theorem dX5_count_20 : decode cX5_count 20 = .ok (.ireturn, 1) := by decide +kernel
theorem dX5_count_21 : decode cX5_count 21 = .ok (.iload_n 1, 1) := by decide +kernel
theorem dX5_count_22 : decode cX5_count 22 = .ok (.tableswitch 95 0 8 #[50, 55, 60, 65, 70, 75, 80, 85, 90], 50) := by decide +kernel
theorem dX5_count_72 : decode cX5_count 72 = .ok (.aload_n 0, 1) := by decide +kernel
theorem dX5_count_73 : decode cX5_count 73 = .ok (.getfield 67, 3) := by decide +kernel
theorem dX5_count_76 : decode cX5_count 76 = .ok (.ireturn, 1) := by decide +kernel
theorem dX5_count_77 : decode cX5_count 77 = .ok (.aload_n 0, 1) := by decide +kernel
theorem dX5_count_78 : decode cX5_count 78 = .ok (.getfield 62, 3) := by decide +kernel
theorem dX5_count_81 : decode cX5_count 81 = .ok (.ireturn, 1) := by decide +kernel
theorem dX5_count_82 : decode cX5_count 82 = .ok (.aload_n 0, 1) := by decide +kernel
theorem dX5_count_83 : decode cX5_count 83 = .ok (.getfield 160, 3) := by decide +kernel
theorem dX5_count_86 : decode cX5_count 86 = .ok (.ireturn, 1) := by decide +kernel
theorem dX5_count_87 : decode cX5_count 87 = .ok (.aload_n 0, 1) := by decide +kernel
theorem dX5_count_88 : decode cX5_count 88 = .ok (.getfield 126, 3) := by decide +kernel
theorem dX5_count_91 : decode cX5_count 91 = .ok (.ireturn, 1) := by decide +kernel
theorem dX5_count_92 : decode cX5_count 92 = .ok (.aload_n 0, 1) := by decide +kernel
theorem dX5_count_93 : decode cX5_count 93 = .ok (.invokevirtual 284, 3) := by decide +kernel
theorem dX5_count_96 : decode cX5_count 96 = .ok (.ireturn, 1) := by decide +kernel
theorem dX5_count_97 : decode cX5_count 97 = .ok (.aload_n 0, 1) := by decide +kernel
theorem dX5_count_98 : decode cX5_count 98 = .ok (.invokevirtual 287, 3) := by decide +kernel
theorem dX5_count_101 : decode cX5_count 101 = .ok (.ireturn, 1) := by decide +kernel
theorem dX5_count_102 : decode cX5_count 102 = .ok (.aload_n 0, 1) := by decide +kernel
theorem dX5_count_103 : decode cX5_count 103 = .ok (.getfield 74, 3) := by decide +kernel
theorem dX5_count_106 : decode cX5_count 106 = .ok (.ireturn, 1) := by decide +kernel
theorem dX5_count_107 : decode cX5_count 107 = .ok (.aload_n 0, 1) := by decide +kernel
theorem dX5_count_108 : decode cX5_count 108 = .ok (.getfield 250, 3) := by decide +kernel
theorem dX5_count_111 : decode cX5_count 111 = .ok (.ireturn, 1) := by decide +kernel
theorem dX5_count_112 : decode cX5_count 112 = .ok (.aload_n 0, 1) := by decide +kernel
theorem dX5_count_113 : decode cX5_count 113 = .ok (.getfield 143, 3) := by decide +kernel
theorem dX5_count_116 : decode cX5_count 116 = .ok (.ireturn, 1) := by decide +kernel
theorem dX5_count_117 : decode cX5_count 117 = .ok (.bipush (-9), 2) := by decide +kernel
theorem dX5_count_119 : decode cX5_count 119 = .ok (.ireturn, 1) := by decide +kernel
theorem dJ6_bitCount_0f7a4_0 : decode cJ6_bitCount_0f7a4 0 = .ok (.iload_n 0, 1) := by decide +kernel
theorem dJ6_bitCount_0f7a4_1 : decode cJ6_bitCount_0f7a4 1 = .ok (.iload_n 0, 1) := by decide +kernel
theorem dJ6_bitCount_0f7a4_2 : decode cJ6_bitCount_0f7a4 2 = .ok (.iconst 1, 1) := by decide +kernel
theorem dJ6_bitCount_0f7a4_3 : decode cJ6_bitCount_0f7a4 3 = .ok (.iushr, 1) := by decide +kernel
theorem dJ6_bitCount_0f7a4_4 : decode cJ6_bitCount_0f7a4 4 = .ok (.ldc_w 265, 3) := by decide +kernel
theorem dJ6_bitCount_0f7a4_7 : decode cJ6_bitCount_0f7a4 7 = .ok (.iand, 1) := by decide +kernel
theorem dJ6_bitCount_0f7a4_8 : decode cJ6_bitCount_0f7a4 8 = .ok (.isub, 1) := by decide +kernel
theorem dJ6_bitCount_0f7a4_9 : decode cJ6_bitCount_0f7a4 9 = .ok (.istore_n 0, 1) := by decide +kernel
theorem dJ6_bitCount_0f7a4_10 : decode cJ6_bitCount_0f7a4 10 = .ok (.iload_n 0, 1) := by decide +kernel
theorem dJ6_bitCount_0f7a4_11 : decode cJ6_bitCount_0f7a4 11 = .ok (.ldc_w 266, 3) := by decide +kernel
theorem dJ6_bitCount_0f7a4_14 : decode cJ6_bitCount_0f7a4 14 = .ok (.iand, 1) := by decide +kernel
theorem dJ6_bitCount_0f7a4_15 : decode cJ6_bitCount_0f7a4 15 = .ok (.iload_n 0, 1) := by decide +kernel
theorem dJ6_bitCount_0f7a4_16 : decode cJ6_bitCount_0f7a4 16 = .ok (.iconst 2, 1) := by decide +kernel
theorem dJ6_bitCount_0f7a4_17 : decode cJ6_bitCount_0f7a4 17 = .ok (.iushr, 1) := by decide +kernel
theorem dJ6_bitCount_0f7a4_18 : decode cJ6_bitCount_0f7a4 18 = .ok (.ldc_w 266, 3) := by decide +kernel
theorem dJ6_bitCount_0f7a4_21 : decode cJ6_bitCount_0f7a4 21 = .ok (.iand, 1) := by decide +kernel
theorem dJ6_bitCount_0f7a4_22 : decode cJ6_bitCount_0f7a4 22 = .ok (.iadd, 1) := by decide +kernel
theorem dJ6_bitCount_0f7a4_23 : decode cJ6_bitCount_0f7a4 23 = .ok (.istore_n 0, 1) := by decide +kernel
theorem dJ6_bitCount_0f7a4_24 : decode cJ6_bitCount_0f7a4 24 = .ok (.iload_n 0, 1) := by decide +kernel
theorem dJ6_bitCount_0f7a4_25 : decode cJ6_bitCount_0f7a4 25 = .ok (.iload_n 0, 1) := by decide +kernel
theorem dJ6_bitCount_0f7a4_26 : decode cJ6_bitCount_0f7a4 26 = .ok (.iconst 4, 1) := by decide +kernel
theorem dJ6_bitCount_0f7a4_27 : decode cJ6_bitCount_0f7a4 27 = .ok (.iushr, 1) := by decide +kernel
theorem dJ6_bitCount_0f7a4_28 : decode cJ6_bitCount_0f7a4 28 = .ok (.iadd, 1) := by decide +kernel
theorem dJ6_bitCount_0f7a4_29 : decode cJ6_bitCount_0f7a4 29 = .ok (.ldc_w 267, 3) := by decide +kernel
theorem dJ6_bitCount_0f7a4_32 : decode cJ6_bitCount_0f7a4 32 = .ok (.iand, 1) := by decide +kernel
theorem dJ6_bitCount_0f7a4_33 : decode cJ6_bitCount_0f7a4 33 = .ok (.istore_n 0, 1) := by decide +kernel
theorem dJ6_bitCount_0f7a4_34 : decode cJ6_bitCount_0f7a4 34 = .ok (.iload_n 0, 1) := by decide +kernel
theorem dJ6_bitCount_0f7a4_35 : decode cJ6_bitCount_0f7a4 35 = .ok (.iload_n 0, 1) := by decide +kernel
theorem dJ6_bitCount_0f7a4_36 : decode cJ6_bitCount_0f7a4 36 = .ok (.bipush 8, 2) := by decide +kernel
theorem dJ6_bitCount_0f7a4_38 : decode cJ6_bitCount_0f7a4 38 = .ok (.iushr, 1) := by decide +kernel
theorem dJ6_bitCount_0f7a4_39 : decode cJ6_bitCount_0f7a4 39 = .ok (.iadd, 1) := by decide +kernel
theorem dJ6_bitCount_0f7a4_40 : decode cJ6_bitCount_0f7a4 40 = .ok (.istore_n 0, 1) := by decide +kernel
theorem dJ6_bitCount_0f7a4_41 : decode cJ6_bitCount_0f7a4 41 = .ok (.iload_n 0, 1) := by decide +kernel
theorem dJ6_bitCount_0f7a4_42 : decode cJ6_bitCount_0f7a4 42 = .ok (.iload_n 0, 1) := by decide +kernel
theorem dJ6_bitCount_0f7a4_43 : decode cJ6_bitCount_0f7a4 43 = .ok (.bipush 16, 2) := by decide +kernel
theorem dJ6_bitCount_0f7a4_45 : decode cJ6_bitCount_0f7a4 45 = .ok (.iushr, 1) := by decide +kernel
theorem dJ6_bitCount_0f7a4_46 : decode cJ6_bitCount_0f7a4 46 = .ok (.iadd, 1) := by decide +kernel
theorem dJ6_bitCount_0f7a4_47 : decode cJ6_bitCount_0f7a4 47 = .ok (.istore_n 0, 1) := by decide +kernel
theorem dJ6_bitCount_0f7a4_48 : decode cJ6_bitCount_0f7a4 48 = .ok (.iload_n 0, 1) := by decide +kernel
theorem dJ6_bitCount_0f7a4_49 : decode cJ6_bitCount_0f7a4 49 = .ok (.bipush 63, 2) := by decide +kernel
theorem dJ6_bitCount_0f7a4_51 : decode cJ6_bitCount_0f7a4 51 = .ok (.iand, 1) := by decide +kernel
theorem dJ6_bitCount_0f7a4_52 : decode cJ6_bitCount_0f7a4 52 = .ok (.ireturn, 1) := by decide +kernel
theorem dJ9_abs_0f7a4_0 : decode cJ9_abs_0f7a4 0 = .ok (.iload_n 0, 1) := by decide +kernel
theorem dJ9_abs_0f7a4_1 : decode cJ9_abs_0f7a4 1 = .ok (.ifCond .ge 8, 3) := by decide +kernel
theorem dJ9_abs_0f7a4_4 : decode cJ9_abs_0f7a4 4 = .ok (.iload_n 0, 1) := by decide +kernel
theorem dJ9_abs_0f7a4_5 : decode cJ9_abs_0f7a4 5 = .ok (.ineg, 1) := by decide +kernel
theorem dJ9_abs_0f7a4_6 : decode cJ9_abs_0f7a4 6 = .ok (.goto 4, 3) := by decide +kernel
theorem dJ9_abs_0f7a4_9 : decode cJ9_abs_0f7a4 9 = .ok (.iload_n 0, 1) := by decide +kernel
theorem dJ9_abs_0f7a4_10 : decode cJ9_abs_0f7a4 10 = .ok (.ireturn, 1) := by decide +kernel
theorem dJ9_max_7cf53_0 : decode cJ9_max_7cf53 0 = .ok (.iload_n 0, 1) := by decide +kernel
theorem dJ9_max_7cf53_1 : decode cJ9_max_7cf53 1 = .ok (.iload_n 1, 1) := by decide +kernel
theorem dJ9_max_7cf53_2 : decode cJ9_max_7cf53 2 = .ok (.if_icmp .lt 7, 3) := by decide +kernel
theorem dJ9_max_7cf53_5 : decode cJ9_max_7cf53 5 = .ok (.iload_n 0, 1) := by decide +kernel
theorem dJ9_max_7cf53_6 : decode cJ9_max_7cf53 6 = .ok (.goto 4, 3) := by decide +kernel
theorem dJ9_max_7cf53_9 : decode cJ9_max_7cf53 9 = .ok (.iload_n 1, 1) := by decide +kernel
theorem dJ9_max_7cf53_10 : decode cJ9_max_7cf53 10 = .ok (.ireturn, 1) := by decide +kernel
theorem dJ9_min_7cf53_0 : decode cJ9_min_7cf53 0 = .ok (.iload_n 0, 1) := by decide +kernel
theorem dJ9_min_7cf53_1 : decode cJ9_min_7cf53 1 = .ok (.iload_n 1, 1) := by decide +kernel
theorem dJ9_min_7cf53_2 : decode cJ9_min_7cf53 2 = .ok (.if_icmp .gt 7, 3) := by decide +kernel
theorem dJ9_min_7cf53_5 : decode cJ9_min_7cf53 5 = .ok (.iload_n 0, 1) := by decide +kernel
theorem dJ9_min_7cf53_6 : decode cJ9_min_7cf53 6 = .ok (.goto 4, 3) := by decide +kernel
theorem dJ9_min_7cf53_9 : decode cJ9_min_7cf53 9 = .ok (.iload_n 1, 1) := by decide +kernel
theorem dJ9_min_7cf53_10 : decode cJ9_min_7cf53 10 = .ok (.ireturn, 1) := by decide +kernel
abbrev vwCl : List vw_C := [(RX0, TX0, 11), (RX1, TX1, 2), (RX2, TX2, 4), (RX3, TX3, 3), (RX4, TX4, 9), (RX5, TX5, 33)]
