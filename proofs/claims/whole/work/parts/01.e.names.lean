theorem dX5_statement_24 : decode cX5_statement 24 = .ok (.bipush 105, 2) := by decide +kernel
theorem dX5_statement_26 : decode cX5_statement 26 = .ok (.if_icmp .eq 17, 3) := by decide +kernel
theorem dX5_statement_29 : decode cX5_statement 29 = .ok (.iload_n 1, 1) := by decide +kernel
theorem dX5_statement_30 : decode cX5_statement 30 = .ok (.bipush 118, 2) := by decide +kernel
theorem dX5_statement_32 : decode cX5_statement 32 = .ok (.if_icmp .eq 11, 3) := by decide +kernel
theorem dX5_statement_35 : decode cX5_statement 35 = .ok (.iload_n 1, 1) := by decide +kernel
theorem dX5_statement_36 : decode cX5_statement 36 = .ok (.bipush 104, 2) := by decide +kernel
theorem dX5_statement_38 : decode cX5_statement 38 = .ok (.if_icmp .eq 5, 3) := by decide +kernel
theorem dX5_statement_41 : decode cX5_statement 41 = .ok (.iconst 0, 1) := by decide +kernel
theorem dX5_statement_42 : decode cX5_statement 42 = .ok (.ireturn, 1) := by decide +kernel
theorem dX5_statement_43 : decode cX5_statement 43 = .ok (.aload_n 0, 1) := by decide +kernel
theorem dX5_statement_44 : decode cX5_statement 44 = .ok (.getfield 31, 3) := by decide +kernel
theorem dX5_statement_47 : decode cX5_statement 47 = .ok (.aload_n 0, 1) := by decide +kernel
theorem dX5_statement_48 : decode cX5_statement 48 = .ok (.getfield 96, 3) := by decide +kernel
theorem dX5_statement_51 : decode cX5_statement 51 = .ok (.iload_n 1, 1) := by decide +kernel
theorem dX5_statement_52 : decode cX5_statement 52 = .ok (.iastore, 1) := by decide +kernel
theorem dX5_statement_53 : decode cX5_statement 53 = .ok (.aload_n 0, 1) := by decide +kernel
theorem dX5_statement_54 : decode cX5_statement 54 = .ok (.getfield 34, 3) := by decide +kernel
theorem dX5_statement_57 : decode cX5_statement 57 = .ok (.aload_n 0, 1) := by decide +kernel
theorem dX5_statement_58 : decode cX5_statement 58 = .ok (.getfield 96, 3) := by decide +kernel
theorem dX5_statement_61 : decode cX5_statement 61 = .ok (.aload_n 0, 1) := by decide +kernel
theorem dX5_statement_62 : decode cX5_statement 62 = .ok (.getfield 81, 3) := by decide +kernel
theorem dX5_statement_65 : decode cX5_statement 65 = .ok (.iastore, 1) := by decide +kernel
theorem dX5_statement_66 : decode cX5_statement 66 = .ok (.aload_n 0, 1) := by decide +kernel
theorem dX5_statement_67 : decode cX5_statement 67 = .ok (.dup, 1) := by decide +kernel
theorem dX5_statement_68 : decode cX5_statement 68 = .ok (.getfield 81, 3) := by decide +kernel
theorem dX5_statement_71 : decode cX5_statement 71 = .ok (.iconst 1, 1) := by decide +kernel
theorem dX5_statement_72 : decode cX5_statement 72 = .ok (.iadd, 1) := by decide +kernel
theorem dX5_statement_73 : decode cX5_statement 73 = .ok (.putfield 81, 3) := by decide +kernel
theorem dX5_statement_76 : decode cX5_statement 76 = .ok (.aload_n 0, 1) := by decide +kernel
theorem dX5_statement_77 : decode cX5_statement 77 = .ok (.iload_n 1, 1) := by decide +kernel
theorem dX5_statement_78 : decode cX5_statement 78 = .ok (.iconst 3, 1) := by decide +kernel
theorem dX5_statement_79 : decode cX5_statement 79 = .ok (.aload_n 0, 1) := by decide +kernel
theorem dX5_statement_80 : decode cX5_statement 80 = .ok (.getfield 96, 3) := by decide +kernel
theorem dX5_statement_83 : decode cX5_statement 83 = .ok (.imul, 1) := by decide +kernel
theorem dX5_statement_84 : decode cX5_statement 84 = .ok (.invokevirtual 99, 3) := by decide +kernel
theorem dX5_statement_87 : decode cX5_statement 87 = .ok (.ifCond .eq 12, 3) := by decide +kernel
theorem dX5_statement_90 : decode cX5_statement 90 = .ok (.aload_n 0, 1) := by decide +kernel
theorem dX5_statement_91 : decode cX5_statement 91 = .ok (.invokevirtual 84, 3) := by decide +kernel
theorem dX5_statement_94 : decode cX5_statement 94 = .ok (.bipush 59, 2) := by decide +kernel
theorem dX5_statement_96 : decode cX5_statement 96 = .ok (.if_icmp .eq 5, 3) := by decide +kernel
theorem dX5_statement_99 : decode cX5_statement 99 = .ok (.iconst 0, 1) := by decide +kernel
theorem dX5_statement_100 : decode cX5_statement 100 = .ok (.ireturn, 1) := by decide +kernel
theorem dX5_statement_101 : decode cX5_statement 101 = .ok (.aload_n 0, 1) := by decide +kernel
theorem dX5_statement_102 : decode cX5_statement 102 = .ok (.dup, 1) := by decide +kernel
theorem dX5_statement_103 : decode cX5_statement 103 = .ok (.getfield 81, 3) := by decide +kernel
theorem dX5_statement_106 : decode cX5_statement 106 = .ok (.iconst 1, 1) := by decide +kernel
theorem dX5_statement_107 : decode cX5_statement 107 = .ok (.iadd, 1) := by decide +kernel
theorem dX5_statement_108 : decode cX5_statement 108 = .ok (.putfield 81, 3) := by decide +kernel
theorem dX5_statement_111 : decode cX5_statement 111 = .ok (.iconst 1, 1) := by decide +kernel
theorem dX5_statement_112 : decode cX5_statement 112 = .ok (.ireturn, 1) := by decide +kernel
set_option maxRecDepth 20000 in
theorem ggX5_comesShore_X5_isPlace : GoodIn wsX5_comesShore wsX5_isPlace := goodIn_r _ [5] (by decide +kernel) (by decide +kernel)
set_option maxRecDepth 20000 in
theorem gX5_comesShore_X5_isPlace : GoodIn wsX5_comesShore (va_wsS RX5 102 yX5_isPlace wsX5_isPlace) := goodIn_app (goodIn_of _ (by decide +kernel)) ggX5_comesShore_X5_isPlace
set_option maxRecDepth 20000 in
theorem ggX5_comesShore_X5_shoreAt : GoodIn wsX5_comesShore wsX5_shoreAt := goodIn_r _ [9, 1, 10, 20, 21, 22, 23, 24, 25, 26, 27, 28, 29, 30, 31, 32, 33, 34, 35, 36, 37, 38, 39, 40, 41, 42, 43, 44, 45, 46, 47, 48, 49, 50, 51, 52] (by decide +kernel) (by decide +kernel)
set_option maxRecDepth 20000 in
theorem gX5_comesShore_X5_shoreAt : GoodIn wsX5_comesShore (wsV RX5 106 RX5 yX5_shoreAt wsX5_shoreAt) := goodIn_app (goodIn_of _ (by decide +kernel)) ggX5_comesShore_X5_shoreAt
set_option maxRecDepth 20000 in
theorem ggX5_comesShore_X5_adds : GoodIn wsX5_comesShore wsX5_adds := goodIn_r _ [14, 15, 1, 16, 10, 17, 18, 19, 20, 21, 22, 23, 24, 25, 26, 27, 28, 29, 30, 31, 32, 33, 34, 35, 36, 37, 38, 39, 40, 41, 42, 43, 44, 45, 46, 47, 48, 49, 50, 51, 52] (by decide +kernel) (by decide +kernel)
set_option maxRecDepth 20000 in
theorem gX5_comesShore_X5_adds : GoodIn wsX5_comesShore (wsV RX5 109 RX5 yX5_adds wsX5_adds) := goodIn_app (goodIn_of _ (by decide +kernel)) ggX5_comesShore_X5_adds
theorem dX5_comesShore_0 : decode cX5_comesShore 0 = .ok (.iload_n 1, 1) := by decide +kernel
theorem dX5_comesShore_1 : decode cX5_comesShore 1 = .ok (.iconst 5, 1) := by decide +kernel
theorem dX5_comesShore_2 : decode cX5_comesShore 2 = .ok (.if_icmp .gt 27, 3) := by decide +kernel
theorem dX5_comesShore_5 : decode cX5_comesShore 5 = .ok (.iload_n 3, 1) := by decide +kernel
theorem dX5_comesShore_6 : decode cX5_comesShore 6 = .ok (.invokestatic 102, 3) := by decide +kernel
theorem dX5_comesShore_9 : decode cX5_comesShore 9 = .ok (.ifCond .eq 20, 3) := by decide +kernel
theorem dX5_comesShore_12 : decode cX5_comesShore 12 = .ok (.aload_n 0, 1) := by decide +kernel
theorem dX5_comesShore_13 : decode cX5_comesShore 13 = .ok (.iload_n 3, 1) := by decide +kernel
theorem dX5_comesShore_14 : decode cX5_comesShore 14 = .ok (.invokevirtual 106, 3) := by decide +kernel
theorem dX5_comesShore_17 : decode cX5_comesShore 17 = .ok (.ifCond .ge 12, 3) := by decide +kernel
theorem dX5_comesShore_20 : decode cX5_comesShore 20 = .ok (.aload_n 0, 1) := by decide +kernel
theorem dX5_comesShore_21 : decode cX5_comesShore 21 = .ok (.getfield 67, 3) := by decide +kernel
theorem dX5_comesShore_24 : decode cX5_comesShore 24 = .ok (.bipush 7, 2) := by decide +kernel
theorem dX5_comesShore_26 : decode cX5_comesShore 26 = .ok (.if_icmp .ne 5, 3) := by decide +kernel
theorem dX5_comesShore_29 : decode cX5_comesShore 29 = .ok (.iconst 0, 1) := by decide +kernel
theorem dX5_comesShore_30 : decode cX5_comesShore 30 = .ok (.ireturn, 1) := by decide +kernel
theorem dX5_comesShore_31 : decode cX5_comesShore 31 = .ok (.aload_n 0, 1) := by decide +kernel
theorem dX5_comesShore_32 : decode cX5_comesShore 32 = .ok (.iload_n 1, 1) := by decide +kernel
theorem dX5_comesShore_33 : decode cX5_comesShore 33 = .ok (.iload_n 2, 1) := by decide +kernel
theorem dX5_comesShore_34 : decode cX5_comesShore 34 = .ok (.iload_n 3, 1) := by decide +kernel
theorem dX5_comesShore_35 : decode cX5_comesShore 35 = .ok (.invokevirtual 109, 3) := by decide +kernel
theorem dX5_comesShore_38 : decode cX5_comesShore 38 = .ok (.iconst 1, 1) := by decide +kernel
theorem dX5_comesShore_39 : decode cX5_comesShore 39 = .ok (.ireturn, 1) := by decide +kernel
set_option maxRecDepth 20000 in
theorem ggX5_comesHours_X5_isLate : GoodIn wsX5_comesHours wsX5_isLate := goodIn_r _ [5, 6, 7, 69, 70, 71, 72, 73, 74, 75, 76, 77, 78, 79, 80, 81, 82, 83, 84, 85, 86, 87, 88, 89, 90, 91, 92, 93, 94, 95, 96, 97, 98, 99, 100, 101] (by decide +kernel) (by decide +kernel)
set_option maxRecDepth 20000 in
theorem gX5_comesHours_X5_isLate : GoodIn wsX5_comesHours (wsV RX5 113 RX5 yX5_isLate wsX5_isLate) := goodIn_app (goodIn_of _ (by decide +kernel)) ggX5_comesHours_X5_isLate
set_option maxRecDepth 20000 in
theorem ggX5_comesHours_X5_goes : GoodIn wsX5_comesHours wsX5_goes := goodIn_r _ [11, 12, 13, 14, 4, 15, 7, 16, 17, 18, 6, 19, 20, 21, 22, 23, 24, 25, 26, 27, 28, 29, 30, 31, 32, 33, 34, 35, 36, 37, 38, 39, 40, 41, 42, 43, 44, 45, 46, 47, 48, 49, 50, 51, 52, 53, 54, 55, 56, 57, 58, 59, 60, 61, 62, 63, 64, 65, 66, 67, 68, 69, 70, 71, 72, 73, 74, 75, 76, 77, 78, 79, 80, 81, 82, 83, 84, 85, 86, 87, 88, 89, 90, 91, 92, 93, 94, 95, 96, 97, 98, 99, 100, 101] (by decide +kernel) (by decide +kernel)
set_option maxRecDepth 20000 in
theorem gX5_comesHours_X5_goes : GoodIn wsX5_comesHours (wsV RX5 116 RX5 yX5_goes wsX5_goes) := goodIn_app (goodIn_of _ (by decide +kernel)) ggX5_comesHours_X5_goes
theorem dX5_comesHours_0 : decode cX5_comesHours 0 = .ok (.iload_n 1, 1) := by decide +kernel
theorem dX5_comesHours_1 : decode cX5_comesHours 1 = .ok (.ifCond .eq 11, 3) := by decide +kernel
theorem dX5_comesHours_4 : decode cX5_comesHours 4 = .ok (.aload_n 0, 1) := by decide +kernel
theorem dX5_comesHours_5 : decode cX5_comesHours 5 = .ok (.iload_n 1, 1) := by decide +kernel
theorem dX5_comesHours_6 : decode cX5_comesHours 6 = .ok (.invokevirtual 113, 3) := by decide +kernel
theorem dX5_comesHours_9 : decode cX5_comesHours 9 = .ok (.ifCond .eq 5, 3) := by decide +kernel
theorem dX5_comesHours_12 : decode cX5_comesHours 12 = .ok (.iconst 0, 1) := by decide +kernel
theorem dX5_comesHours_13 : decode cX5_comesHours 13 = .ok (.ireturn, 1) := by decide +kernel
theorem dX5_comesHours_14 : decode cX5_comesHours 14 = .ok (.aload_n 0, 1) := by decide +kernel
theorem dX5_comesHours_15 : decode cX5_comesHours 15 = .ok (.iload_n 1, 1) := by decide +kernel
theorem dX5_comesHours_16 : decode cX5_comesHours 16 = .ok (.invokevirtual 116, 3) := by decide +kernel
theorem dX5_comesHours_19 : decode cX5_comesHours 19 = .ok (.iconst 1, 1) := by decide +kernel
theorem dX5_comesHours_20 : decode cX5_comesHours 20 = .ok (.ireturn, 1) := by decide +kernel
set_option maxRecDepth 20000 in
theorem ggX5_comes_X5_comesShore : GoodIn wsX5_comes wsX5_comesShore := goodIn_r _ [11, 12, 13, 14, 10, 15, 16, 17, 18, 19, 20, 21, 22, 23, 24, 25, 26, 3, 27, 4, 90, 91, 92, 93, 94, 95, 96, 97, 98, 99, 100, 101, 102, 103, 104, 105, 106, 107, 108, 109, 110, 111, 112, 113, 114, 115, 116, 117, 118, 119, 120, 121, 122] (by decide +kernel) (by decide +kernel)
set_option maxRecDepth 20000 in
theorem gX5_comes_X5_comesShore : GoodIn wsX5_comes (wsV RX5 120 RX5 yX5_comesShore wsX5_comesShore) := goodIn_app (goodIn_of _ (by decide +kernel)) ggX5_comes_X5_comesShore
set_option maxRecDepth 20000 in
theorem ggX5_comes_X5_isShore : GoodIn wsX5_comes wsX5_isShore := goodIn_r _ [31, 12, 90, 91, 92, 93, 94, 95, 96, 97, 98, 99, 100, 101, 102, 103, 104, 105, 106, 107, 108, 109, 110, 111, 112, 113, 114, 115, 116, 117, 118, 119, 120, 121, 122] (by decide +kernel) (by decide +kernel)
set_option maxRecDepth 20000 in
theorem gX5_comes_X5_isShore : GoodIn wsX5_comes (wsV RX5 123 RX5 yX5_isShore wsX5_isShore) := goodIn_app (goodIn_of _ (by decide +kernel)) ggX5_comes_X5_isShore
set_option maxRecDepth 20000 in
theorem ggX5_comes_X5_isPlace : GoodIn wsX5_comes wsX5_isPlace := goodIn_r _ [15] (by decide +kernel) (by decide +kernel)
set_option maxRecDepth 20000 in
theorem gX5_comes_X5_isPlace : GoodIn wsX5_comes (va_wsS RX5 102 yX5_isPlace wsX5_isPlace) := goodIn_app (goodIn_of _ (by decide +kernel)) ggX5_comes_X5_isPlace
set_option maxRecDepth 20000 in
theorem ggX5_comes_X5_isIn : GoodIn wsX5_comes wsX5_isIn := goodIn_r _ [34] (by decide +kernel) (by decide +kernel)
set_option maxRecDepth 20000 in
theorem gX5_comes_X5_isIn : GoodIn wsX5_comes (va_wsS RX5 88 yX5_isIn wsX5_isIn) := goodIn_app (goodIn_of _ (by decide +kernel)) ggX5_comes_X5_isIn
set_option maxRecDepth 20000 in
theorem ggX5_comes_X5_comesHours : GoodIn wsX5_comes wsX5_comesHours := goodIn_r _ [38, 39, 40, 41, 10, 42, 43, 44, 45, 46, 47, 48, 49, 50, 51, 52, 12, 3, 20, 27, 53, 54, 55, 56, 57, 58, 59, 60, 4, 5, 61, 62, 63, 64, 65, 66, 67, 25, 26, 68, 69, 70, 71, 32, 33, 34, 72, 73, 74, 75, 76, 77, 78, 79, 80, 81, 82, 6, 83, 84, 85, 86, 87, 88, 89, 16, 17, 18, 19, 90, 91, 92, 93, 94, 95, 96, 97, 98, 99, 100, 101, 102, 103, 104, 105, 106, 107, 108, 109, 110, 111, 112, 113, 114, 115, 116, 117, 118, 119, 120, 121, 122] (by decide +kernel) (by decide +kernel)
set_option maxRecDepth 20000 in
theorem gX5_comes_X5_comesHours : GoodIn wsX5_comes (wsV RX5 129 RX5 yX5_comesHours wsX5_comesHours) := goodIn_app (goodIn_of _ (by decide +kernel)) ggX5_comes_X5_comesHours
theorem dX5_comes_0 : decode cX5_comes 0 = .ok (.iconst 3, 1) := by decide +kernel
theorem dX5_comes_1 : decode cX5_comes 1 = .ok (.iload_n 1, 1) := by decide +kernel
theorem dX5_comes_2 : decode cX5_comes 2 = .ok (.imul, 1) := by decide +kernel
theorem dX5_comes_3 : decode cX5_comes 3 = .ok (.istore_n 2, 1) := by decide +kernel
theorem dX5_comes_4 : decode cX5_comes 4 = .ok (.aload_n 0, 1) := by decide +kernel
theorem dX5_comes_5 : decode cX5_comes 5 = .ok (.getfield 31, 3) := by decide +kernel
theorem dX5_comes_8 : decode cX5_comes 8 = .ok (.iload_n 1, 1) := by decide +kernel
theorem dX5_comes_9 : decode cX5_comes 9 = .ok (.iaload, 1) := by decide +kernel
theorem dX5_comes_10 : decode cX5_comes 10 = .ok (.tableswitch 216 105 118 #[178, 216, 216, 216, 216, 216, 216, 97, 133, 216, 70, 216, 216, 196], 70) := by decide +kernel
theorem dX5_comes_80 : decode cX5_comes 80 = .ok (.aload_n 0, 1) := by decide +kernel
theorem dX5_comes_81 : decode cX5_comes 81 = .ok (.aload_n 0, 1) := by decide +kernel
theorem dX5_comes_82 : decode cX5_comes 82 = .ok (.getfield 37, 3) := by decide +kernel
theorem dX5_comes_85 : decode cX5_comes 85 = .ok (.iload_n 2, 1) := by decide +kernel
theorem dX5_comes_86 : decode cX5_comes 86 = .ok (.iaload, 1) := by decide +kernel
theorem dX5_comes_87 : decode cX5_comes 87 = .ok (.aload_n 0, 1) := by decide +kernel
theorem dX5_comes_88 : decode cX5_comes 88 = .ok (.getfield 37, 3) := by decide +kernel
theorem dX5_comes_91 : decode cX5_comes 91 = .ok (.iload_n 2, 1) := by decide +kernel
theorem dX5_comes_92 : decode cX5_comes 92 = .ok (.iconst 1, 1) := by decide +kernel
theorem dX5_comes_93 : decode cX5_comes 93 = .ok (.iadd, 1) := by decide +kernel
theorem dX5_comes_94 : decode cX5_comes 94 = .ok (.iaload, 1) := by decide +kernel
theorem dX5_comes_95 : decode cX5_comes 95 = .ok (.aload_n 0, 1) := by decide +kernel
theorem dX5_comes_96 : decode cX5_comes 96 = .ok (.getfield 37, 3) := by decide +kernel
theorem dX5_comes_99 : decode cX5_comes 99 = .ok (.iload_n 2, 1) := by decide +kernel
theorem dX5_comes_100 : decode cX5_comes 100 = .ok (.iconst 2, 1) := by decide +kernel
theorem dX5_comes_101 : decode cX5_comes 101 = .ok (.iadd, 1) := by decide +kernel
theorem dX5_comes_102 : decode cX5_comes 102 = .ok (.iaload, 1) := by decide +kernel
theorem dX5_comes_103 : decode cX5_comes 103 = .ok (.invokevirtual 120, 3) := by decide +kernel
theorem dX5_comes_106 : decode cX5_comes 106 = .ok (.ireturn, 1) := by decide +kernel
theorem dX5_comes_107 : decode cX5_comes 107 = .ok (.aload_n 0, 1) := by decide +kernel
theorem dX5_comes_108 : decode cX5_comes 108 = .ok (.aload_n 0, 1) := by decide +kernel
theorem dX5_comes_109 : decode cX5_comes 109 = .ok (.getfield 37, 3) := by decide +kernel
theorem dX5_comes_112 : decode cX5_comes 112 = .ok (.iload_n 2, 1) := by decide +kernel
theorem dX5_comes_113 : decode cX5_comes 113 = .ok (.iaload, 1) := by decide +kernel
theorem dX5_comes_114 : decode cX5_comes 114 = .ok (.invokevirtual 123, 3) := by decide +kernel
theorem dX5_comes_117 : decode cX5_comes 117 = .ok (.ifCond .ne 5, 3) := by decide +kernel
theorem dX5_comes_120 : decode cX5_comes 120 = .ok (.iconst 0, 1) := by decide +kernel
theorem dX5_comes_121 : decode cX5_comes 121 = .ok (.ireturn, 1) := by decide +kernel
theorem dX5_comes_122 : decode cX5_comes 122 = .ok (.aload_n 0, 1) := by decide +kernel
theorem dX5_comes_123 : decode cX5_comes 123 = .ok (.getfield 22, 3) := by decide +kernel
theorem dX5_comes_126 : decode cX5_comes 126 = .ok (.aload_n 0, 1) := by decide +kernel
theorem dX5_comes_127 : decode cX5_comes 127 = .ok (.getfield 37, 3) := by decide +kernel
theorem dX5_comes_130 : decode cX5_comes 130 = .ok (.iload_n 2, 1) := by decide +kernel
theorem dX5_comes_131 : decode cX5_comes 131 = .ok (.iaload, 1) := by decide +kernel
theorem dX5_comes_132 : decode cX5_comes 132 = .ok (.aload_n 0, 1) := by decide +kernel
theorem dX5_comes_133 : decode cX5_comes 133 = .ok (.getfield 37, 3) := by decide +kernel
theorem dX5_comes_136 : decode cX5_comes 136 = .ok (.iload_n 2, 1) := by decide +kernel
theorem dX5_comes_137 : decode cX5_comes 137 = .ok (.iconst 1, 1) := by decide +kernel
theorem dX5_comes_138 : decode cX5_comes 138 = .ok (.iadd, 1) := by decide +kernel
theorem dX5_comes_139 : decode cX5_comes 139 = .ok (.iaload, 1) := by decide +kernel
theorem dX5_comes_140 : decode cX5_comes 140 = .ok (.iastore, 1) := by decide +kernel
theorem dX5_comes_141 : decode cX5_comes 141 = .ok (.iconst 1, 1) := by decide +kernel
theorem dX5_comes_142 : decode cX5_comes 142 = .ok (.ireturn, 1) := by decide +kernel
theorem dX5_comes_143 : decode cX5_comes 143 = .ok (.aload_n 0, 1) := by decide +kernel
theorem dX5_comes_144 : decode cX5_comes 144 = .ok (.dup, 1) := by decide +kernel
theorem dX5_comes_145 : decode cX5_comes 145 = .ok (.getfield 126, 3) := by decide +kernel
theorem dX5_comes_148 : decode cX5_comes 148 = .ok (.aload_n 0, 1) := by decide +kernel
theorem dX5_comes_149 : decode cX5_comes 149 = .ok (.aload_n 0, 1) := by decide +kernel
theorem dX5_comes_150 : decode cX5_comes 150 = .ok (.getfield 37, 3) := by decide +kernel
theorem dX5_comes_153 : decode cX5_comes 153 = .ok (.iload_n 2, 1) := by decide +kernel
theorem dX5_comes_154 : decode cX5_comes 154 = .ok (.iaload, 1) := by decide +kernel
theorem dX5_comes_155 : decode cX5_comes 155 = .ok (.invokevirtual 123, 3) := by decide +kernel
theorem dX5_comes_158 : decode cX5_comes 158 = .ok (.ifCond .eq 14, 3) := by decide +kernel
theorem dX5_comes_161 : decode cX5_comes 161 = .ok (.iconst 1, 1) := by decide +kernel
theorem dX5_comes_162 : decode cX5_comes 162 = .ok (.aload_n 0, 1) := by decide +kernel
theorem dX5_comes_163 : decode cX5_comes 163 = .ok (.getfield 37, 3) := by decide +kernel
theorem dX5_comes_166 : decode cX5_comes 166 = .ok (.iload_n 2, 1) := by decide +kernel
theorem dX5_comes_167 : decode cX5_comes 167 = .ok (.iaload, 1) := by decide +kernel
theorem dX5_comes_168 : decode cX5_comes 168 = .ok (.ishl, 1) := by decide +kernel
theorem dX5_comes_169 : decode cX5_comes 169 = .ok (.goto 4, 3) := by decide +kernel
theorem dX5_comes_172 : decode cX5_comes 172 = .ok (.iconst 0, 1) := by decide +kernel
theorem dX5_comes_173 : decode cX5_comes 173 = .ok (.ixor, 1) := by decide +kernel
theorem dX5_comes_174 : decode cX5_comes 174 = .ok (.putfield 126, 3) := by decide +kernel
theorem dX5_comes_177 : decode cX5_comes 177 = .ok (.aload_n 0, 1) := by decide +kernel
theorem dX5_comes_178 : decode cX5_comes 178 = .ok (.aload_n 0, 1) := by decide +kernel
theorem dX5_comes_179 : decode cX5_comes 179 = .ok (.getfield 37, 3) := by decide +kernel
theorem dX5_comes_182 : decode cX5_comes 182 = .ok (.iload_n 2, 1) := by decide +kernel
theorem dX5_comes_183 : decode cX5_comes 183 = .ok (.iaload, 1) := by decide +kernel
theorem dX5_comes_184 : decode cX5_comes 184 = .ok (.invokevirtual 123, 3) := by decide +kernel
theorem dX5_comes_187 : decode cX5_comes 187 = .ok (.ireturn, 1) := by decide +kernel
theorem dX5_comes_188 : decode cX5_comes 188 = .ok (.aload_n 0, 1) := by decide +kernel
theorem dX5_comes_189 : decode cX5_comes 189 = .ok (.aload_n 0, 1) := by decide +kernel
theorem dX5_comes_190 : decode cX5_comes 190 = .ok (.getfield 37, 3) := by decide +kernel
theorem dX5_comes_193 : decode cX5_comes 193 = .ok (.iload_n 2, 1) := by decide +kernel
theorem dX5_comes_194 : decode cX5_comes 194 = .ok (.iaload, 1) := by decide +kernel
theorem dX5_comes_195 : decode cX5_comes 195 = .ok (.putfield 55, 3) := by decide +kernel
theorem dX5_comes_198 : decode cX5_comes 198 = .ok (.aload_n 0, 1) := by decide +kernel
theorem dX5_comes_199 : decode cX5_comes 199 = .ok (.getfield 55, 3) := by decide +kernel
theorem dX5_comes_202 : decode cX5_comes 202 = .ok (.invokestatic 102, 3) := by decide +kernel
theorem dX5_comes_205 : decode cX5_comes 205 = .ok (.ireturn, 1) := by decide +kernel
theorem dX5_comes_206 : decode cX5_comes 206 = .ok (.aload_n 0, 1) := by decide +kernel
theorem dX5_comes_207 : decode cX5_comes 207 = .ok (.aload_n 0, 1) := by decide +kernel
theorem dX5_comes_208 : decode cX5_comes 208 = .ok (.getfield 37, 3) := by decide +kernel
theorem dX5_comes_211 : decode cX5_comes 211 = .ok (.iload_n 2, 1) := by decide +kernel
theorem dX5_comes_212 : decode cX5_comes 212 = .ok (.iaload, 1) := by decide +kernel
theorem dX5_comes_213 : decode cX5_comes 213 = .ok (.putfield 59, 3) := by decide +kernel
theorem dX5_comes_216 : decode cX5_comes 216 = .ok (.aload_n 0, 1) := by decide +kernel
theorem dX5_comes_217 : decode cX5_comes 217 = .ok (.getfield 59, 3) := by decide +kernel
theorem dX5_comes_220 : decode cX5_comes 220 = .ok (.iconst 1, 1) := by decide +kernel
theorem dX5_comes_221 : decode cX5_comes 221 = .ok (.iconst 5, 1) := by decide +kernel
theorem dX5_comes_222 : decode cX5_comes 222 = .ok (.invokestatic 88, 3) := by decide +kernel
theorem dX5_comes_225 : decode cX5_comes 225 = .ok (.ireturn, 1) := by decide +kernel
theorem dX5_comes_226 : decode cX5_comes 226 = .ok (.aload_n 0, 1) := by decide +kernel
theorem dX5_comes_227 : decode cX5_comes 227 = .ok (.aload_n 0, 1) := by decide +kernel
theorem dX5_comes_228 : decode cX5_comes 228 = .ok (.getfield 37, 3) := by decide +kernel
theorem dX5_comes_231 : decode cX5_comes 231 = .ok (.iload_n 2, 1) := by decide +kernel
theorem dX5_comes_232 : decode cX5_comes 232 = .ok (.iaload, 1) := by decide +kernel
theorem dX5_comes_233 : decode cX5_comes 233 = .ok (.invokevirtual 129, 3) := by decide +kernel
theorem dX5_comes_236 : decode cX5_comes 236 = .ok (.ireturn, 1) := by decide +kernel
set_option maxRecDepth 20000 in
theorem ggX5_bay_X5_statement : GoodIn wsX5_bay wsX5_statement := goodIn_r _ [10, 11, 2, 4, 1, 12, 13, 14, 9, 15, 3, 16, 17, 18, 19, 20, 21, 22, 23, 24, 25, 26, 27, 28, 131, 132, 133, 134, 135, 136, 137, 138, 139, 140, 141, 142, 143, 144, 145, 146, 147, 148, 149, 150, 151, 152, 153, 154, 155, 156, 157, 158, 159, 160, 161, 162, 163] (by decide +kernel) (by decide +kernel)
set_option maxRecDepth 20000 in
theorem gX5_bay_X5_statement : GoodIn wsX5_bay (wsV RX5 132 RX5 yX5_statement wsX5_statement) := goodIn_app (goodIn_of _ (by decide +kernel)) ggX5_bay_X5_statement
set_option maxRecDepth 20000 in
theorem ggX5_bay_X5_passesAll : GoodIn wsX5_bay wsX5_passesAll := goodIn_r _ [32, 33, 34, 35, 36, 37, 38, 39, 40, 41, 42, 43, 44, 45, 46, 47, 48, 9, 49, 50, 51, 52, 53, 54, 131, 132, 133, 134, 135, 136, 137, 138, 139, 140, 141, 142, 143, 144, 145, 146, 147, 148, 149, 150, 151, 152, 153, 154, 155, 156, 157, 158, 159, 160, 161, 162, 163] (by decide +kernel) (by decide +kernel)
set_option maxRecDepth 20000 in
theorem gX5_bay_X5_passesAll : GoodIn wsX5_bay (wsV RX5 136 RX5 yX5_passesAll wsX5_passesAll) := goodIn_app (goodIn_of _ (by decide +kernel)) ggX5_bay_X5_passesAll
set_option maxRecDepth 20000 in
theorem ggX5_bay_X5_comes : GoodIn wsX5_bay wsX5_comes := goodIn_r _ [58, 11, 25, 38, 41, 42, 43, 59, 60, 61, 9, 62, 40, 63, 64, 65, 66, 67, 68, 69, 37, 70, 71, 72, 73, 35, 36, 39, 74, 75, 76, 77, 26, 27, 28, 78, 79, 80, 81, 82, 83, 84, 85, 45, 44, 86, 87, 88, 89, 90, 91, 92, 93, 94, 95, 96, 97, 98, 99, 100, 101, 102, 103, 104, 105, 106, 107, 108, 109, 110, 111, 112, 113, 114, 115, 116, 117, 118, 119, 120, 121, 122, 123, 124, 125, 126, 127, 128, 129, 130, 131, 132, 133, 134, 135, 136, 137, 138, 139, 140, 141, 142, 143, 144, 145, 146, 147, 148, 149, 150, 151, 152, 153, 154, 155, 156, 157, 158, 159, 160, 161, 162, 163] (by decide +kernel) (by decide +kernel)
set_option maxRecDepth 20000 in
theorem gX5_bay_X5_comes : GoodIn wsX5_bay (wsV RX5 140 RX5 yX5_comes wsX5_comes) := goodIn_app (goodIn_of _ (by decide +kernel)) ggX5_bay_X5_comes
theorem dX5_bay_0 : decode cX5_bay 0 = .ok (.aload_n 0, 1) := by decide +kernel
theorem dX5_bay_1 : decode cX5_bay 1 = .ok (.iconst 0, 1) := by decide +kernel
theorem dX5_bay_2 : decode cX5_bay 2 = .ok (.putfield 81, 3) := by decide +kernel
theorem dX5_bay_5 : decode cX5_bay 5 = .ok (.aload_n 0, 1) := by decide +kernel
theorem dX5_bay_6 : decode cX5_bay 6 = .ok (.iconst 0, 1) := by decide +kernel
theorem dX5_bay_7 : decode cX5_bay 7 = .ok (.putfield 96, 3) := by decide +kernel
theorem dX5_bay_10 : decode cX5_bay 10 = .ok (.iconst 1, 1) := by decide +kernel
theorem dX5_bay_11 : decode cX5_bay 11 = .ok (.istore_n 1, 1) := by decide +kernel
theorem dX5_bay_12 : decode cX5_bay 12 = .ok (.iload_n 1, 1) := by decide +kernel
theorem dX5_bay_13 : decode cX5_bay 13 = .ok (.ifCond .eq 47, 3) := by decide +kernel
theorem dX5_bay_16 : decode cX5_bay 16 = .ok (.aload_n 0, 1) := by decide +kernel
theorem dX5_bay_17 : decode cX5_bay 17 = .ok (.getfield 81, 3) := by decide +kernel
theorem dX5_bay_20 : decode cX5_bay 20 = .ok (.aload_n 0, 1) := by decide +kernel
theorem dX5_bay_21 : decode cX5_bay 21 = .ok (.getfield 74, 3) := by decide +kernel
theorem dX5_bay_24 : decode cX5_bay 24 = .ok (.if_icmp .lt 10, 3) := by decide +kernel
theorem dX5_bay_27 : decode cX5_bay 27 = .ok (.aload_n 0, 1) := by decide +kernel
theorem dX5_bay_28 : decode cX5_bay 28 = .ok (.getfield 96, 3) := by decide +kernel
theorem dX5_bay_31 : decode cX5_bay 31 = .ok (.ifCond .ne 29, 3) := by decide +kernel
theorem dX5_bay_34 : decode cX5_bay 34 = .ok (.aload_n 0, 1) := by decide +kernel
theorem dX5_bay_35 : decode cX5_bay 35 = .ok (.invokevirtual 132, 3) := by decide +kernel
theorem dX5_bay_38 : decode cX5_bay 38 = .ok (.istore_n 1, 1) := by decide +kernel
theorem dX5_bay_39 : decode cX5_bay 39 = .ok (.aload_n 0, 1) := by decide +kernel
theorem dX5_bay_40 : decode cX5_bay 40 = .ok (.dup, 1) := by decide +kernel
theorem dX5_bay_41 : decode cX5_bay 41 = .ok (.getfield 96, 3) := by decide +kernel
theorem dX5_bay_44 : decode cX5_bay 44 = .ok (.iload_n 1, 1) := by decide +kernel
theorem dX5_bay_45 : decode cX5_bay 45 = .ok (.ifCond .eq 7, 3) := by decide +kernel
theorem dX5_bay_48 : decode cX5_bay 48 = .ok (.iconst 1, 1) := by decide +kernel
theorem dX5_bay_49 : decode cX5_bay 49 = .ok (.goto 4, 3) := by decide +kernel
theorem dX5_bay_52 : decode cX5_bay 52 = .ok (.iconst 0, 1) := by decide +kernel
theorem dX5_bay_53 : decode cX5_bay 53 = .ok (.iadd, 1) := by decide +kernel
theorem dX5_bay_54 : decode cX5_bay 54 = .ok (.putfield 96, 3) := by decide +kernel
theorem dX5_bay_57 : decode cX5_bay 57 = .ok (.goto (-45), 3) := by decide +kernel
theorem dX5_bay_60 : decode cX5_bay 60 = .ok (.aload_n 0, 1) := by decide +kernel
theorem dX5_bay_61 : decode cX5_bay 61 = .ok (.iconst 0, 1) := by decide +kernel
theorem dX5_bay_62 : decode cX5_bay 62 = .ok (.putfield 74, 3) := by decide +kernel
theorem dX5_bay_65 : decode cX5_bay 65 = .ok (.iload_n 1, 1) := by decide +kernel
theorem dX5_bay_66 : decode cX5_bay 66 = .ok (.ifCond .ne 12, 3) := by decide +kernel
theorem dX5_bay_69 : decode cX5_bay 69 = .ok (.sipush (-1000), 3) := by decide +kernel
theorem dX5_bay_72 : decode cX5_bay 72 = .ok (.aload_n 0, 1) := by decide +kernel
theorem dX5_bay_73 : decode cX5_bay 73 = .ok (.getfield 81, 3) := by decide +kernel
theorem dX5_bay_76 : decode cX5_bay 76 = .ok (.isub, 1) := by decide +kernel
theorem dX5_bay_77 : decode cX5_bay 77 = .ok (.ireturn, 1) := by decide +kernel
theorem dX5_bay_78 : decode cX5_bay 78 = .ok (.aload_n 0, 1) := by decide +kernel
theorem dX5_bay_79 : decode cX5_bay 79 = .ok (.iconst 1, 1) := by decide +kernel
theorem dX5_bay_80 : decode cX5_bay 80 = .ok (.iconst 1, 1) := by decide +kernel
theorem dX5_bay_81 : decode cX5_bay 81 = .ok (.invokevirtual 136, 3) := by decide +kernel
theorem dX5_bay_84 : decode cX5_bay 84 = .ok (.iconst 0, 1) := by decide +kernel
theorem dX5_bay_85 : decode cX5_bay 85 = .ok (.istore_n 2, 1) := by decide +kernel
theorem dX5_bay_86 : decode cX5_bay 86 = .ok (.iload_n 2, 1) := by decide +kernel
theorem dX5_bay_87 : decode cX5_bay 87 = .ok (.aload_n 0, 1) := by decide +kernel
theorem dX5_bay_88 : decode cX5_bay 88 = .ok (.getfield 96, 3) := by decide +kernel
theorem dX5_bay_91 : decode cX5_bay 91 = .ok (.if_icmp .ge 37, 3) := by decide +kernel
theorem dX5_bay_94 : decode cX5_bay 94 = .ok (.aload_n 0, 1) := by decide +kernel
theorem dX5_bay_95 : decode cX5_bay 95 = .ok (.iload_n 2, 1) := by decide +kernel
theorem dX5_bay_96 : decode cX5_bay 96 = .ok (.invokevirtual 140, 3) := by decide +kernel
theorem dX5_bay_99 : decode cX5_bay 99 = .ok (.ifCond .eq 6, 3) := by decide +kernel
theorem dX5_bay_102 : decode cX5_bay 102 = .ok (.goto 20, 3) := by decide +kernel
theorem dX5_bay_105 : decode cX5_bay 105 = .ok (.aload_n 0, 1) := by decide +kernel
theorem dX5_bay_106 : decode cX5_bay 106 = .ok (.iconst 1, 1) := by decide +kernel
theorem dX5_bay_107 : decode cX5_bay 107 = .ok (.iconst 0, 1) := by decide +kernel
theorem dX5_bay_108 : decode cX5_bay 108 = .ok (.invokevirtual 136, 3) := by decide +kernel
theorem dX5_bay_111 : decode cX5_bay 111 = .ok (.sipush (-2000), 3) := by decide +kernel
theorem dX5_bay_114 : decode cX5_bay 114 = .ok (.aload_n 0, 1) := by decide +kernel
theorem dX5_bay_115 : decode cX5_bay 115 = .ok (.getfield 34, 3) := by decide +kernel
theorem dX5_bay_118 : decode cX5_bay 118 = .ok (.iload_n 2, 1) := by decide +kernel
theorem dX5_bay_119 : decode cX5_bay 119 = .ok (.iaload, 1) := by decide +kernel
theorem dX5_bay_120 : decode cX5_bay 120 = .ok (.isub, 1) := by decide +kernel
theorem dX5_bay_121 : decode cX5_bay 121 = .ok (.ireturn, 1) := by decide +kernel
theorem dX5_bay_122 : decode cX5_bay 122 = .ok (.iinc 2 1, 3) := by decide +kernel
theorem dX5_bay_125 : decode cX5_bay 125 = .ok (.goto (-39), 3) := by decide +kernel
theorem dX5_bay_128 : decode cX5_bay 128 = .ok (.aload_n 0, 1) := by decide +kernel
theorem dX5_bay_129 : decode cX5_bay 129 = .ok (.iconst 0, 1) := by decide +kernel
theorem dX5_bay_130 : decode cX5_bay 130 = .ok (.putfield 143, 3) := by decide +kernel
theorem dX5_bay_133 : decode cX5_bay 133 = .ok (.aload_n 0, 1) := by decide +kernel
theorem dX5_bay_134 : decode cX5_bay 134 = .ok (.getfield 96, 3) := by decide +kernel
theorem dX5_bay_137 : decode cX5_bay 137 = .ok (.ireturn, 1) := by decide +kernel
theorem dX5_passes_0 : decode cX5_passes 0 = .ok (.iconst 0, 1) := by decide +kernel
theorem dX5_passes_1 : decode cX5_passes 1 = .ok (.istore_n 2, 1) := by decide +kernel
theorem dX5_passes_2 : decode cX5_passes 2 = .ok (.iload_n 2, 1) := by decide +kernel
theorem dX5_passes_3 : decode cX5_passes 3 = .ok (.aload_n 1, 1) := by decide +kernel
theorem dX5_passes_4 : decode cX5_passes 4 = .ok (.arraylength, 1) := by decide +kernel
theorem dX5_passes_5 : decode cX5_passes 5 = .ok (.if_icmp .ge 53, 3) := by decide +kernel
theorem dX5_passes_8 : decode cX5_passes 8 = .ok (.aload_n 0, 1) := by decide +kernel
theorem dX5_passes_9 : decode cX5_passes 9 = .ok (.getfield 146, 3) := by decide +kernel
theorem dX5_passes_12 : decode cX5_passes 12 = .ok (.ifCond .eq 18, 3) := by decide +kernel
theorem dX5_passes_15 : decode cX5_passes 15 = .ok (.aload_n 0, 1) := by decide +kernel
theorem dX5_passes_16 : decode cX5_passes 16 = .ok (.getfield 40, 3) := by decide +kernel
theorem dX5_passes_19 : decode cX5_passes 19 = .ok (.aload_n 0, 1) := by decide +kernel
theorem dX5_passes_20 : decode cX5_passes 20 = .ok (.getfield 150, 3) := by decide +kernel
theorem dX5_passes_23 : decode cX5_passes 23 = .ok (.aload_n 1, 1) := by decide +kernel
theorem dX5_passes_24 : decode cX5_passes 24 = .ok (.iload_n 2, 1) := by decide +kernel
theorem dX5_passes_25 : decode cX5_passes 25 = .ok (.iaload, 1) := by decide +kernel
theorem dX5_passes_26 : decode cX5_passes 26 = .ok (.iastore, 1) := by decide +kernel
theorem dX5_passes_27 : decode cX5_passes 27 = .ok (.goto 15, 3) := by decide +kernel
theorem dX5_passes_30 : decode cX5_passes 30 = .ok (.aload_n 1, 1) := by decide +kernel
theorem dX5_passes_31 : decode cX5_passes 31 = .ok (.iload_n 2, 1) := by decide +kernel
theorem dX5_passes_32 : decode cX5_passes 32 = .ok (.aload_n 0, 1) := by decide +kernel
theorem dX5_passes_33 : decode cX5_passes 33 = .ok (.getfield 40, 3) := by decide +kernel
theorem dX5_passes_36 : decode cX5_passes 36 = .ok (.aload_n 0, 1) := by decide +kernel
theorem dX5_passes_37 : decode cX5_passes 37 = .ok (.getfield 150, 3) := by decide +kernel
theorem dX5_passes_40 : decode cX5_passes 40 = .ok (.iaload, 1) := by decide +kernel
theorem dX5_passes_41 : decode cX5_passes 41 = .ok (.iastore, 1) := by decide +kernel
theorem dX5_passes_42 : decode cX5_passes 42 = .ok (.aload_n 0, 1) := by decide +kernel
theorem dX5_passes_43 : decode cX5_passes 43 = .ok (.dup, 1) := by decide +kernel
theorem dX5_passes_44 : decode cX5_passes 44 = .ok (.getfield 150, 3) := by decide +kernel
theorem dX5_passes_47 : decode cX5_passes 47 = .ok (.iconst 1, 1) := by decide +kernel
theorem dX5_passes_48 : decode cX5_passes 48 = .ok (.iadd, 1) := by decide +kernel
theorem dX5_passes_49 : decode cX5_passes 49 = .ok (.putfield 150, 3) := by decide +kernel
theorem dX5_passes_52 : decode cX5_passes 52 = .ok (.iinc 2 1, 3) := by decide +kernel
theorem dX5_passes_55 : decode cX5_passes 55 = .ok (.goto (-53), 3) := by decide +kernel
theorem dX5_passes_58 : decode cX5_passes 58 = .ok (.return_, 1) := by decide +kernel
theorem dX5_passOne_0 : decode cX5_passOne 0 = .ok (.aload_n 0, 1) := by decide +kernel
theorem dX5_passOne_1 : decode cX5_passOne 1 = .ok (.getfield 146, 3) := by decide +kernel
theorem dX5_passOne_4 : decode cX5_passOne 4 = .ok (.ifCond .eq 7, 3) := by decide +kernel
theorem dX5_passOne_7 : decode cX5_passOne 7 = .ok (.iload_n 1, 1) := by decide +kernel
theorem dX5_passOne_8 : decode cX5_passOne 8 = .ok (.goto 12, 3) := by decide +kernel
theorem dX5_passOne_11 : decode cX5_passOne 11 = .ok (.aload_n 0, 1) := by decide +kernel
theorem dX5_passOne_12 : decode cX5_passOne 12 = .ok (.getfield 40, 3) := by decide +kernel
theorem dX5_passOne_15 : decode cX5_passOne 15 = .ok (.aload_n 0, 1) := by decide +kernel
theorem dX5_passOne_16 : decode cX5_passOne 16 = .ok (.getfield 150, 3) := by decide +kernel
theorem dX5_passOne_19 : decode cX5_passOne 19 = .ok (.iaload, 1) := by decide +kernel
theorem dX5_passOne_20 : decode cX5_passOne 20 = .ok (.istore_n 2, 1) := by decide +kernel
theorem dX5_passOne_21 : decode cX5_passOne 21 = .ok (.aload_n 0, 1) := by decide +kernel
theorem dX5_passOne_22 : decode cX5_passOne 22 = .ok (.getfield 146, 3) := by decide +kernel
theorem dX5_passOne_25 : decode cX5_passOne 25 = .ok (.ifCond .eq 13, 3) := by decide +kernel
theorem dX5_passOne_28 : decode cX5_passOne 28 = .ok (.aload_n 0, 1) := by decide +kernel
theorem dX5_passOne_29 : decode cX5_passOne 29 = .ok (.getfield 40, 3) := by decide +kernel
theorem dX5_passOne_32 : decode cX5_passOne 32 = .ok (.aload_n 0, 1) := by decide +kernel
theorem dX5_passOne_33 : decode cX5_passOne 33 = .ok (.getfield 150, 3) := by decide +kernel
theorem dX5_passOne_36 : decode cX5_passOne 36 = .ok (.iload_n 1, 1) := by decide +kernel
theorem dX5_passOne_37 : decode cX5_passOne 37 = .ok (.iastore, 1) := by decide +kernel
theorem dX5_passOne_38 : decode cX5_passOne 38 = .ok (.aload_n 0, 1) := by decide +kernel
theorem dX5_passOne_39 : decode cX5_passOne 39 = .ok (.dup, 1) := by decide +kernel
theorem dX5_passOne_40 : decode cX5_passOne 40 = .ok (.getfield 150, 3) := by decide +kernel
theorem dX5_passOne_43 : decode cX5_passOne 43 = .ok (.iconst 1, 1) := by decide +kernel
theorem dX5_passOne_44 : decode cX5_passOne 44 = .ok (.iadd, 1) := by decide +kernel
theorem dX5_passOne_45 : decode cX5_passOne 45 = .ok (.putfield 150, 3) := by decide +kernel
theorem dX5_passOne_48 : decode cX5_passOne 48 = .ok (.iload_n 2, 1) := by decide +kernel
theorem dX5_passOne_49 : decode cX5_passOne 49 = .ok (.ireturn, 1) := by decide +kernel
set_option maxRecDepth 20000 in
theorem ggX5_passesAll_X5_passes : GoodIn wsX5_passesAll wsX5_passes := goodIn_r _ [18, 2, 19, 1, 24, 25, 26, 27, 28, 29, 30, 31, 32, 33, 34, 35, 36, 37, 38, 39, 40, 41, 42, 43, 44, 45, 46, 47, 48, 49, 50, 51, 52, 53, 54, 55, 56] (by decide +kernel) (by decide +kernel)
set_option maxRecDepth 20000 in
theorem gX5_passesAll_X5_passes : GoodIn wsX5_passesAll (wsV RX5 153 RX5 yX5_passes wsX5_passes) := goodIn_app (goodIn_of _ (by decide +kernel)) ggX5_passesAll_X5_passes
set_option maxRecDepth 20000 in
theorem ggX5_passesAll_X5_passOne : GoodIn wsX5_passesAll wsX5_passOne := goodIn_r _ [23, 2, 19, 1, 24, 25, 26, 27, 28, 29, 30, 31, 32, 33, 34, 35, 36, 37, 38, 39, 40, 41, 42, 43, 44, 45, 46, 47, 48, 49, 50, 51, 52, 53, 54, 55, 56] (by decide +kernel) (by decide +kernel)
set_option maxRecDepth 20000 in
theorem gX5_passesAll_X5_passOne : GoodIn wsX5_passesAll (wsV RX5 157 RX5 yX5_passOne wsX5_passOne) := goodIn_app (goodIn_of _ (by decide +kernel)) ggX5_passesAll_X5_passOne
theorem dX5_passesAll_0 : decode cX5_passesAll 0 = .ok (.aload_n 0, 1) := by decide +kernel
theorem dX5_passesAll_1 : decode cX5_passesAll 1 = .ok (.bipush 41, 2) := by decide +kernel
theorem dX5_passesAll_3 : decode cX5_passesAll 3 = .ok (.iload_n 1, 1) := by decide +kernel
theorem dX5_passesAll_4 : decode cX5_passesAll 4 = .ok (.imul, 1) := by decide +kernel
theorem dX5_passesAll_5 : decode cX5_passesAll 5 = .ok (.putfield 150, 3) := by decide +kernel
theorem dX5_passesAll_8 : decode cX5_passesAll 8 = .ok (.aload_n 0, 1) := by decide +kernel
theorem dX5_passesAll_9 : decode cX5_passesAll 9 = .ok (.iload_n 2, 1) := by decide +kernel
theorem dX5_passesAll_10 : decode cX5_passesAll 10 = .ok (.putfield 146, 3) := by decide +kernel
theorem dX5_passesAll_13 : decode cX5_passesAll 13 = .ok (.aload_n 0, 1) := by decide +kernel
theorem dX5_passesAll_14 : decode cX5_passesAll 14 = .ok (.aload_n 0, 1) := by decide +kernel
theorem dX5_passesAll_15 : decode cX5_passesAll 15 = .ok (.getfield 13, 3) := by decide +kernel
theorem dX5_passesAll_18 : decode cX5_passesAll 18 = .ok (.invokevirtual 153, 3) := by decide +kernel
theorem dX5_passesAll_21 : decode cX5_passesAll 21 = .ok (.aload_n 0, 1) := by decide +kernel
theorem dX5_passesAll_22 : decode cX5_passesAll 22 = .ok (.aload_n 0, 1) := by decide +kernel
theorem dX5_passesAll_23 : decode cX5_passesAll 23 = .ok (.getfield 16, 3) := by decide +kernel
theorem dX5_passesAll_26 : decode cX5_passesAll 26 = .ok (.invokevirtual 153, 3) := by decide +kernel
theorem dX5_passesAll_29 : decode cX5_passesAll 29 = .ok (.aload_n 0, 1) := by decide +kernel
theorem dX5_passesAll_30 : decode cX5_passesAll 30 = .ok (.aload_n 0, 1) := by decide +kernel
theorem dX5_passesAll_31 : decode cX5_passesAll 31 = .ok (.getfield 19, 3) := by decide +kernel
theorem dX5_passesAll_34 : decode cX5_passesAll 34 = .ok (.invokevirtual 153, 3) := by decide +kernel
theorem dX5_passesAll_37 : decode cX5_passesAll 37 = .ok (.aload_n 0, 1) := by decide +kernel
theorem dX5_passesAll_38 : decode cX5_passesAll 38 = .ok (.aload_n 0, 1) := by decide +kernel
theorem dX5_passesAll_39 : decode cX5_passesAll 39 = .ok (.getfield 22, 3) := by decide +kernel
theorem dX5_passesAll_42 : decode cX5_passesAll 42 = .ok (.invokevirtual 153, 3) := by decide +kernel
theorem dX5_passesAll_45 : decode cX5_passesAll 45 = .ok (.aload_n 0, 1) := by decide +kernel
theorem dX5_passesAll_46 : decode cX5_passesAll 46 = .ok (.aload_n 0, 1) := by decide +kernel
theorem dX5_passesAll_47 : decode cX5_passesAll 47 = .ok (.getfield 25, 3) := by decide +kernel
theorem dX5_passesAll_50 : decode cX5_passesAll 50 = .ok (.invokevirtual 153, 3) := by decide +kernel
theorem dX5_passesAll_53 : decode cX5_passesAll 53 = .ok (.aload_n 0, 1) := by decide +kernel
theorem dX5_passesAll_54 : decode cX5_passesAll 54 = .ok (.aload_n 0, 1) := by decide +kernel
theorem dX5_passesAll_55 : decode cX5_passesAll 55 = .ok (.aload_n 0, 1) := by decide +kernel
theorem dX5_passesAll_56 : decode cX5_passesAll 56 = .ok (.getfield 67, 3) := by decide +kernel
theorem dX5_passesAll_59 : decode cX5_passesAll 59 = .ok (.invokevirtual 157, 3) := by decide +kernel
theorem dX5_passesAll_62 : decode cX5_passesAll 62 = .ok (.putfield 67, 3) := by decide +kernel
theorem dX5_passesAll_65 : decode cX5_passesAll 65 = .ok (.aload_n 0, 1) := by decide +kernel
theorem dX5_passesAll_66 : decode cX5_passesAll 66 = .ok (.aload_n 0, 1) := by decide +kernel
theorem dX5_passesAll_67 : decode cX5_passesAll 67 = .ok (.aload_n 0, 1) := by decide +kernel
theorem dX5_passesAll_68 : decode cX5_passesAll 68 = .ok (.getfield 126, 3) := by decide +kernel
theorem dX5_passesAll_71 : decode cX5_passesAll 71 = .ok (.invokevirtual 157, 3) := by decide +kernel
theorem dX5_passesAll_74 : decode cX5_passesAll 74 = .ok (.putfield 126, 3) := by decide +kernel
theorem dX5_passesAll_77 : decode cX5_passesAll 77 = .ok (.aload_n 0, 1) := by decide +kernel
theorem dX5_passesAll_78 : decode cX5_passesAll 78 = .ok (.aload_n 0, 1) := by decide +kernel
theorem dX5_passesAll_79 : decode cX5_passesAll 79 = .ok (.aload_n 0, 1) := by decide +kernel
theorem dX5_passesAll_80 : decode cX5_passesAll 80 = .ok (.getfield 55, 3) := by decide +kernel
theorem dX5_passesAll_83 : decode cX5_passesAll 83 = .ok (.invokevirtual 157, 3) := by decide +kernel
theorem dX5_passesAll_86 : decode cX5_passesAll 86 = .ok (.putfield 55, 3) := by decide +kernel
theorem dX5_passesAll_89 : decode cX5_passesAll 89 = .ok (.aload_n 0, 1) := by decide +kernel
theorem dX5_passesAll_90 : decode cX5_passesAll 90 = .ok (.aload_n 0, 1) := by decide +kernel
theorem dX5_passesAll_91 : decode cX5_passesAll 91 = .ok (.aload_n 0, 1) := by decide +kernel
theorem dX5_passesAll_92 : decode cX5_passesAll 92 = .ok (.getfield 59, 3) := by decide +kernel
theorem dX5_passesAll_95 : decode cX5_passesAll 95 = .ok (.invokevirtual 157, 3) := by decide +kernel
theorem dX5_passesAll_98 : decode cX5_passesAll 98 = .ok (.putfield 59, 3) := by decide +kernel
theorem dX5_passesAll_101 : decode cX5_passesAll 101 = .ok (.aload_n 0, 1) := by decide +kernel
theorem dX5_passesAll_102 : decode cX5_passesAll 102 = .ok (.aload_n 0, 1) := by decide +kernel
theorem dX5_passesAll_103 : decode cX5_passesAll 103 = .ok (.aload_n 0, 1) := by decide +kernel
theorem dX5_passesAll_104 : decode cX5_passesAll 104 = .ok (.getfield 62, 3) := by decide +kernel
theorem dX5_passesAll_107 : decode cX5_passesAll 107 = .ok (.invokevirtual 157, 3) := by decide +kernel
theorem dX5_passesAll_110 : decode cX5_passesAll 110 = .ok (.putfield 62, 3) := by decide +kernel
theorem dX5_passesAll_113 : decode cX5_passesAll 113 = .ok (.aload_n 0, 1) := by decide +kernel
theorem dX5_passesAll_114 : decode cX5_passesAll 114 = .ok (.aload_n 0, 1) := by decide +kernel
theorem dX5_passesAll_115 : decode cX5_passesAll 115 = .ok (.aload_n 0, 1) := by decide +kernel
theorem dX5_passesAll_116 : decode cX5_passesAll 116 = .ok (.getfield 160, 3) := by decide +kernel
theorem dX5_passesAll_119 : decode cX5_passesAll 119 = .ok (.invokevirtual 157, 3) := by decide +kernel
theorem dX5_passesAll_122 : decode cX5_passesAll 122 = .ok (.putfield 160, 3) := by decide +kernel
theorem dX5_passesAll_125 : decode cX5_passesAll 125 = .ok (.return_, 1) := by decide +kernel
set_option maxRecDepth 20000 in
theorem ggX5_thinks_X5_passesAll : GoodIn wsX5_thinks wsX5_passesAll := goodIn_r _ [5, 6, 7, 8, 9, 10, 11, 12, 13, 14, 15, 16, 17, 18, 19, 20, 21, 4, 22, 23, 24, 25, 26, 27, 28, 29, 30, 31, 32, 33, 34, 35, 36, 37, 38, 39, 40, 41, 42, 43, 44, 45, 46, 47, 48, 49, 50, 51, 52, 53, 54, 55, 56, 57, 58, 59, 60] (by decide +kernel) (by decide +kernel)
set_option maxRecDepth 20000 in
theorem gX5_thinks_X5_passesAll : GoodIn wsX5_thinks (wsV RX5 136 RX5 yX5_passesAll wsX5_passesAll) := goodIn_app (goodIn_of _ (by decide +kernel)) ggX5_thinks_X5_passesAll
theorem dX5_thinks_0 : decode cX5_thinks 0 = .ok (.aload_n 0, 1) := by decide +kernel
theorem dX5_thinks_1 : decode cX5_thinks 1 = .ok (.iconst 2, 1) := by decide +kernel
theorem dX5_thinks_2 : decode cX5_thinks 2 = .ok (.iconst 1, 1) := by decide +kernel
theorem dX5_thinks_3 : decode cX5_thinks 3 = .ok (.invokevirtual 136, 3) := by decide +kernel
theorem dX5_thinks_6 : decode cX5_thinks 6 = .ok (.return_, 1) := by decide +kernel
set_option maxRecDepth 20000 in
theorem ggX5_forgets_X5_passesAll : GoodIn wsX5_forgets wsX5_passesAll := goodIn_r _ [5, 6, 7, 8, 9, 10, 11, 12, 13, 14, 15, 16, 17, 18, 19, 20, 21, 4, 22, 23, 24, 25, 26, 27, 28, 29, 30, 31, 32, 33, 34, 35, 36, 37, 38, 39, 40, 41, 42, 43, 44, 45, 46, 47, 48, 49, 50, 51, 52, 53, 54, 55, 56, 57, 58, 59, 60] (by decide +kernel) (by decide +kernel)
set_option maxRecDepth 20000 in
theorem gX5_forgets_X5_passesAll : GoodIn wsX5_forgets (wsV RX5 136 RX5 yX5_passesAll wsX5_passesAll) := goodIn_app (goodIn_of _ (by decide +kernel)) ggX5_forgets_X5_passesAll
theorem dX5_forgets_0 : decode cX5_forgets 0 = .ok (.aload_n 0, 1) := by decide +kernel
theorem dX5_forgets_1 : decode cX5_forgets 1 = .ok (.iconst 2, 1) := by decide +kernel
theorem dX5_forgets_2 : decode cX5_forgets 2 = .ok (.iconst 0, 1) := by decide +kernel
theorem dX5_forgets_3 : decode cX5_forgets 3 = .ok (.invokevirtual 136, 3) := by decide +kernel
theorem dX5_forgets_6 : decode cX5_forgets 6 = .ok (.return_, 1) := by decide +kernel
set_option maxRecDepth 20000 in
theorem ggX5_changes_X5_passesAll : GoodIn wsX5_changes wsX5_passesAll := goodIn_r _ [5, 6, 7, 8, 9, 10, 11, 12, 13, 14, 15, 16, 17, 18, 19, 20, 21, 4, 22, 23, 24, 25, 26, 27, 28, 29, 30, 31, 32, 33, 34, 35, 36, 37, 38, 39, 40, 41, 42, 43, 44, 45, 46, 47, 48, 49, 50, 51, 52, 53, 54, 55, 56, 57, 58, 59, 60] (by decide +kernel) (by decide +kernel)
set_option maxRecDepth 20000 in
theorem gX5_changes_X5_passesAll : GoodIn wsX5_changes (wsV RX5 136 RX5 yX5_passesAll wsX5_passesAll) := goodIn_app (goodIn_of _ (by decide +kernel)) ggX5_changes_X5_passesAll
theorem dX5_changes_0 : decode cX5_changes 0 = .ok (.aload_n 0, 1) := by decide +kernel
theorem dX5_changes_1 : decode cX5_changes 1 = .ok (.iconst 1, 1) := by decide +kernel
theorem dX5_changes_2 : decode cX5_changes 2 = .ok (.iconst 1, 1) := by decide +kernel
theorem dX5_changes_3 : decode cX5_changes 3 = .ok (.invokevirtual 136, 3) := by decide +kernel
theorem dX5_changes_6 : decode cX5_changes 6 = .ok (.return_, 1) := by decide +kernel
set_option maxRecDepth 20000 in
theorem ggX5_changesBack_X5_passesAll : GoodIn wsX5_changesBack wsX5_passesAll := goodIn_r _ [5, 6, 7, 8, 9, 10, 11, 12, 13, 14, 15, 16, 17, 18, 19, 20, 21, 4, 22, 23, 24, 25, 26, 27, 28, 29, 30, 31, 32, 33, 34, 35, 36, 37, 38, 39, 40, 41, 42, 43, 44, 45, 46, 47, 48, 49, 50, 51, 52, 53, 54, 55, 56, 57, 58, 59, 60] (by decide +kernel) (by decide +kernel)
set_option maxRecDepth 20000 in
theorem gX5_changesBack_X5_passesAll : GoodIn wsX5_changesBack (wsV RX5 136 RX5 yX5_passesAll wsX5_passesAll) := goodIn_app (goodIn_of _ (by decide +kernel)) ggX5_changesBack_X5_passesAll
theorem dX5_changesBack_0 : decode cX5_changesBack 0 = .ok (.aload_n 0, 1) := by decide +kernel
theorem dX5_changesBack_1 : decode cX5_changesBack 1 = .ok (.iconst 1, 1) := by decide +kernel
theorem dX5_changesBack_2 : decode cX5_changesBack 2 = .ok (.iconst 0, 1) := by decide +kernel
theorem dX5_changesBack_3 : decode cX5_changesBack 3 = .ok (.invokevirtual 136, 3) := by decide +kernel
theorem dX5_changesBack_6 : decode cX5_changesBack 6 = .ok (.return_, 1) := by decide +kernel
set_option maxRecDepth 20000 in
theorem ggX5_keepsBack_X5_passesAll : GoodIn wsX5_keepsBack wsX5_passesAll := goodIn_r _ [7, 8, 9, 10, 11, 12, 13, 14, 15, 16, 17, 18, 19, 20, 21, 22, 23, 6, 24, 2, 25, 26, 27, 28, 29, 30, 31, 32, 33, 34, 35, 36, 37, 38, 39, 40, 41, 42, 43, 44, 45, 46, 47, 48, 49, 50, 51, 52, 53, 54, 55, 56, 57, 58, 59, 60, 61] (by decide +kernel) (by decide +kernel)
set_option maxRecDepth 20000 in
theorem gX5_keepsBack_X5_passesAll : GoodIn wsX5_keepsBack (wsV RX5 136 RX5 yX5_passesAll wsX5_passesAll) := goodIn_app (goodIn_of _ (by decide +kernel)) ggX5_keepsBack_X5_passesAll
theorem dX5_keepsBack_0 : decode cX5_keepsBack 0 = .ok (.aload_n 0, 1) := by decide +kernel
theorem dX5_keepsBack_1 : decode cX5_keepsBack 1 = .ok (.getfield 143, 3) := by decide +kernel
theorem dX5_keepsBack_4 : decode cX5_keepsBack 4 = .ok (.bipush 8, 2) := by decide +kernel
theorem dX5_keepsBack_6 : decode cX5_keepsBack 6 = .ok (.if_icmp .ne 44, 3) := by decide +kernel
theorem dX5_keepsBack_9 : decode cX5_keepsBack 9 = .ok (.bipush 123, 2) := by decide +kernel
theorem dX5_keepsBack_11 : decode cX5_keepsBack 11 = .ok (.istore_n 1, 1) := by decide +kernel
theorem dX5_keepsBack_12 : decode cX5_keepsBack 12 = .ok (.iload_n 1, 1) := by decide +kernel
theorem dX5_keepsBack_13 : decode cX5_keepsBack 13 = .ok (.sipush 410, 3) := by decide +kernel
theorem dX5_keepsBack_16 : decode cX5_keepsBack 16 = .ok (.if_icmp .ge 24, 3) := by decide +kernel
theorem dX5_keepsBack_19 : decode cX5_keepsBack 19 = .ok (.aload_n 0, 1) := by decide +kernel
theorem dX5_keepsBack_20 : decode cX5_keepsBack 20 = .ok (.getfield 40, 3) := by decide +kernel
theorem dX5_keepsBack_23 : decode cX5_keepsBack 23 = .ok (.iload_n 1, 1) := by decide +kernel
theorem dX5_keepsBack_24 : decode cX5_keepsBack 24 = .ok (.aload_n 0, 1) := by decide +kernel
theorem dX5_keepsBack_25 : decode cX5_keepsBack 25 = .ok (.getfield 40, 3) := by decide +kernel
theorem dX5_keepsBack_28 : decode cX5_keepsBack 28 = .ok (.iload_n 1, 1) := by decide +kernel
theorem dX5_keepsBack_29 : decode cX5_keepsBack 29 = .ok (.bipush 41, 2) := by decide +kernel
theorem dX5_keepsBack_31 : decode cX5_keepsBack 31 = .ok (.iadd, 1) := by decide +kernel
theorem dX5_keepsBack_32 : decode cX5_keepsBack 32 = .ok (.iaload, 1) := by decide +kernel
theorem dX5_keepsBack_33 : decode cX5_keepsBack 33 = .ok (.iastore, 1) := by decide +kernel
theorem dX5_keepsBack_34 : decode cX5_keepsBack 34 = .ok (.iinc 1 1, 3) := by decide +kernel
theorem dX5_keepsBack_37 : decode cX5_keepsBack 37 = .ok (.goto (-25), 3) := by decide +kernel
theorem dX5_keepsBack_40 : decode cX5_keepsBack 40 = .ok (.aload_n 0, 1) := by decide +kernel
theorem dX5_keepsBack_41 : decode cX5_keepsBack 41 = .ok (.dup, 1) := by decide +kernel
theorem dX5_keepsBack_42 : decode cX5_keepsBack 42 = .ok (.getfield 143, 3) := by decide +kernel
theorem dX5_keepsBack_45 : decode cX5_keepsBack 45 = .ok (.iconst 1, 1) := by decide +kernel
theorem dX5_keepsBack_46 : decode cX5_keepsBack 46 = .ok (.isub, 1) := by decide +kernel
theorem dX5_keepsBack_47 : decode cX5_keepsBack 47 = .ok (.putfield 143, 3) := by decide +kernel
theorem dX5_keepsBack_50 : decode cX5_keepsBack 50 = .ok (.aload_n 0, 1) := by decide +kernel
theorem dX5_keepsBack_51 : decode cX5_keepsBack 51 = .ok (.iconst 3, 1) := by decide +kernel
theorem dX5_keepsBack_52 : decode cX5_keepsBack 52 = .ok (.aload_n 0, 1) := by decide +kernel
theorem dX5_keepsBack_53 : decode cX5_keepsBack 53 = .ok (.getfield 143, 3) := by decide +kernel
theorem dX5_keepsBack_56 : decode cX5_keepsBack 56 = .ok (.iadd, 1) := by decide +kernel
theorem dX5_keepsBack_57 : decode cX5_keepsBack 57 = .ok (.iconst 1, 1) := by decide +kernel
theorem dX5_keepsBack_58 : decode cX5_keepsBack 58 = .ok (.invokevirtual 136, 3) := by decide +kernel
theorem dX5_keepsBack_61 : decode cX5_keepsBack 61 = .ok (.aload_n 0, 1) := by decide +kernel
theorem dX5_keepsBack_62 : decode cX5_keepsBack 62 = .ok (.dup, 1) := by decide +kernel
theorem dX5_keepsBack_63 : decode cX5_keepsBack 63 = .ok (.getfield 143, 3) := by decide +kernel
theorem dX5_keepsBack_66 : decode cX5_keepsBack 66 = .ok (.iconst 1, 1) := by decide +kernel
theorem dX5_keepsBack_67 : decode cX5_keepsBack 67 = .ok (.iadd, 1) := by decide +kernel
theorem dX5_keepsBack_68 : decode cX5_keepsBack 68 = .ok (.putfield 143, 3) := by decide +kernel
theorem dX5_keepsBack_71 : decode cX5_keepsBack 71 = .ok (.return_, 1) := by decide +kernel
set_option maxRecDepth 20000 in
theorem ggX5_back_X5_no : GoodIn wsX5_back wsX5_no := goodIn_r _ [6, 7, 34, 35, 36, 37, 38, 39, 40, 41, 42, 43, 44, 45, 46, 47, 48, 49, 50, 51, 52, 53, 54, 55, 56, 57, 58, 59, 60, 61, 62, 63, 64, 65, 66] (by decide +kernel) (by decide +kernel)
set_option maxRecDepth 20000 in
theorem gX5_back_X5_no : GoodIn wsX5_back (wsV RX5 77 RX5 yX5_no wsX5_no) := goodIn_app (goodIn_of _ (by decide +kernel)) ggX5_back_X5_no
set_option maxRecDepth 20000 in
theorem ggX5_back_X5_passesAll : GoodIn wsX5_back wsX5_passesAll := goodIn_r _ [11, 12, 13, 14, 15, 16, 17, 18, 19, 20, 21, 22, 23, 24, 25, 26, 27, 5, 28, 29, 30, 31, 32, 33, 34, 35, 36, 37, 38, 39, 40, 41, 42, 43, 44, 45, 46, 47, 48, 49, 50, 51, 52, 53, 54, 55, 56, 57, 58, 59, 60, 61, 62, 63, 64, 65, 66] (by decide +kernel) (by decide +kernel)
set_option maxRecDepth 20000 in
theorem gX5_back_X5_passesAll : GoodIn wsX5_back (wsV RX5 136 RX5 yX5_passesAll wsX5_passesAll) := goodIn_app (goodIn_of _ (by decide +kernel)) ggX5_back_X5_passesAll
theorem dX5_back_0 : decode cX5_back 0 = .ok (.aload_n 0, 1) := by decide +kernel
theorem dX5_back_1 : decode cX5_back 1 = .ok (.getfield 143, 3) := by decide +kernel
theorem dX5_back_4 : decode cX5_back 4 = .ok (.ifCond .ne 10, 3) := by decide +kernel
theorem dX5_back_7 : decode cX5_back 7 = .ok (.aload_n 0, 1) := by decide +kernel
theorem dX5_back_8 : decode cX5_back 8 = .ok (.bipush (-3), 2) := by decide +kernel
theorem dX5_back_10 : decode cX5_back 10 = .ok (.invokevirtual 77, 3) := by decide +kernel
theorem dX5_back_13 : decode cX5_back 13 = .ok (.ireturn, 1) := by decide +kernel
theorem dX5_back_14 : decode cX5_back 14 = .ok (.aload_n 0, 1) := by decide +kernel
theorem dX5_back_15 : decode cX5_back 15 = .ok (.dup, 1) := by decide +kernel
theorem dX5_back_16 : decode cX5_back 16 = .ok (.getfield 143, 3) := by decide +kernel
theorem dX5_back_19 : decode cX5_back 19 = .ok (.iconst 1, 1) := by decide +kernel
theorem dX5_back_20 : decode cX5_back 20 = .ok (.isub, 1) := by decide +kernel
theorem dX5_back_21 : decode cX5_back 21 = .ok (.putfield 143, 3) := by decide +kernel
theorem dX5_back_24 : decode cX5_back 24 = .ok (.aload_n 0, 1) := by decide +kernel
theorem dX5_back_25 : decode cX5_back 25 = .ok (.iconst 3, 1) := by decide +kernel
theorem dX5_back_26 : decode cX5_back 26 = .ok (.aload_n 0, 1) := by decide +kernel
theorem dX5_back_27 : decode cX5_back 27 = .ok (.getfield 143, 3) := by decide +kernel
theorem dX5_back_30 : decode cX5_back 30 = .ok (.iadd, 1) := by decide +kernel
theorem dX5_back_31 : decode cX5_back 31 = .ok (.iconst 0, 1) := by decide +kernel
theorem dX5_back_32 : decode cX5_back 32 = .ok (.invokevirtual 136, 3) := by decide +kernel
theorem dX5_back_35 : decode cX5_back 35 = .ok (.aload_n 0, 1) := by decide +kernel
theorem dX5_back_36 : decode cX5_back 36 = .ok (.getfield 143, 3) := by decide +kernel
theorem dX5_back_39 : decode cX5_back 39 = .ok (.ireturn, 1) := by decide +kernel
set_option maxRecDepth 20000 in
theorem ggX5_image_X5_passesAll : GoodIn wsX5_image wsX5_passesAll := goodIn_r _ [7, 8, 9, 10, 11, 12, 13, 14, 15, 16, 17, 18, 19, 2, 20, 21, 22, 6, 23, 24, 25, 26, 27, 28, 29, 30, 31, 32, 33, 34, 35, 36, 37, 38, 39, 40, 41, 42, 43, 44, 45, 46, 47, 48, 49, 50, 51, 52, 53, 54, 55, 56, 57, 58, 59, 60, 61] (by decide +kernel) (by decide +kernel)
set_option maxRecDepth 20000 in
theorem gX5_image_X5_passesAll : GoodIn wsX5_image (wsV RX5 136 RX5 yX5_passesAll wsX5_passesAll) := goodIn_app (goodIn_of _ (by decide +kernel)) ggX5_image_X5_passesAll
theorem dX5_image_0 : decode cX5_image 0 = .ok (.aload_n 0, 1) := by decide +kernel
theorem dX5_image_1 : decode cX5_image 1 = .ok (.iconst 1, 1) := by decide +kernel
theorem dX5_image_2 : decode cX5_image 2 = .ok (.putfield 163, 3) := by decide +kernel
theorem dX5_image_5 : decode cX5_image 5 = .ok (.aload_n 0, 1) := by decide +kernel
theorem dX5_image_6 : decode cX5_image 6 = .ok (.iconst 0, 1) := by decide +kernel
theorem dX5_image_7 : decode cX5_image 7 = .ok (.iconst 1, 1) := by decide +kernel
theorem dX5_image_8 : decode cX5_image 8 = .ok (.invokevirtual 136, 3) := by decide +kernel
theorem dX5_image_11 : decode cX5_image 11 = .ok (.aload_n 0, 1) := by decide +kernel
theorem dX5_image_12 : decode cX5_image 12 = .ok (.getfield 160, 3) := by decide +kernel
theorem dX5_image_15 : decode cX5_image 15 = .ok (.ireturn, 1) := by decide +kernel
set_option maxRecDepth 20000 in
theorem ggX5_restore_X5_no : GoodIn wsX5_restore wsX5_no := goodIn_r _ [8, 9, 35, 36, 37, 38, 39, 40, 41, 42, 43, 44, 45, 46, 47, 48, 49, 50, 51, 52, 53, 54, 55, 56, 57, 58, 59, 60, 61, 62, 63, 64, 65, 66, 67] (by decide +kernel) (by decide +kernel)
set_option maxRecDepth 20000 in
theorem gX5_restore_X5_no : GoodIn wsX5_restore (wsV RX5 77 RX5 yX5_no wsX5_no) := goodIn_app (goodIn_of _ (by decide +kernel)) ggX5_restore_X5_no
set_option maxRecDepth 20000 in
theorem ggX5_restore_X5_passesAll : GoodIn wsX5_restore wsX5_passesAll := goodIn_r _ [13, 14, 15, 16, 17, 18, 19, 20, 21, 22, 23, 24, 25, 3, 26, 27, 28, 7, 29, 30, 31, 32, 33, 34, 35, 36, 37, 38, 39, 40, 41, 42, 43, 44, 45, 46, 47, 48, 49, 50, 51, 52, 53, 54, 55, 56, 57, 58, 59, 60, 61, 62, 63, 64, 65, 66, 67] (by decide +kernel) (by decide +kernel)
set_option maxRecDepth 20000 in
theorem gX5_restore_X5_passesAll : GoodIn wsX5_restore (wsV RX5 136 RX5 yX5_passesAll wsX5_passesAll) := goodIn_app (goodIn_of _ (by decide +kernel)) ggX5_restore_X5_passesAll
theorem dX5_restore_0 : decode cX5_restore 0 = .ok (.aload_n 0, 1) := by decide +kernel
theorem dX5_restore_1 : decode cX5_restore 1 = .ok (.getfield 163, 3) := by decide +kernel
theorem dX5_restore_4 : decode cX5_restore 4 = .ok (.ifCond .ne 10, 3) := by decide +kernel
theorem dX5_restore_7 : decode cX5_restore 7 = .ok (.aload_n 0, 1) := by decide +kernel
theorem dX5_restore_8 : decode cX5_restore 8 = .ok (.bipush (-3), 2) := by decide +kernel
theorem dX5_restore_10 : decode cX5_restore 10 = .ok (.invokevirtual 77, 3) := by decide +kernel
theorem dX5_restore_13 : decode cX5_restore 13 = .ok (.ireturn, 1) := by decide +kernel
theorem dX5_restore_14 : decode cX5_restore 14 = .ok (.aload_n 0, 1) := by decide +kernel
theorem dX5_restore_15 : decode cX5_restore 15 = .ok (.iconst 0, 1) := by decide +kernel
theorem dX5_restore_16 : decode cX5_restore 16 = .ok (.iconst 0, 1) := by decide +kernel
theorem dX5_restore_17 : decode cX5_restore 17 = .ok (.invokevirtual 136, 3) := by decide +kernel
theorem dX5_restore_20 : decode cX5_restore 20 = .ok (.aload_n 0, 1) := by decide +kernel
theorem dX5_restore_21 : decode cX5_restore 21 = .ok (.iconst 0, 1) := by decide +kernel
theorem dX5_restore_22 : decode cX5_restore 22 = .ok (.putfield 143, 3) := by decide +kernel
theorem dX5_restore_25 : decode cX5_restore 25 = .ok (.aload_n 0, 1) := by decide +kernel
theorem dX5_restore_26 : decode cX5_restore 26 = .ok (.getfield 160, 3) := by decide +kernel
theorem dX5_restore_29 : decode cX5_restore 29 = .ok (.ireturn, 1) := by decide +kernel
theorem dX5_adds_0 : decode cX5_adds 0 = .ok (.aload_n 0, 1) := by decide +kernel
theorem dX5_adds_1 : decode cX5_adds 1 = .ok (.getfield 13, 3) := by decide +kernel
theorem dX5_adds_4 : decode cX5_adds 4 = .ok (.aload_n 0, 1) := by decide +kernel
theorem dX5_adds_5 : decode cX5_adds 5 = .ok (.getfield 67, 3) := by decide +kernel
theorem dX5_adds_8 : decode cX5_adds 8 = .ok (.iload_n 1, 1) := by decide +kernel
theorem dX5_adds_9 : decode cX5_adds 9 = .ok (.iastore, 1) := by decide +kernel
theorem dX5_adds_10 : decode cX5_adds 10 = .ok (.aload_n 0, 1) := by decide +kernel
theorem dX5_adds_11 : decode cX5_adds 11 = .ok (.getfield 16, 3) := by decide +kernel
theorem dX5_adds_14 : decode cX5_adds 14 = .ok (.aload_n 0, 1) := by decide +kernel
theorem dX5_adds_15 : decode cX5_adds 15 = .ok (.getfield 67, 3) := by decide +kernel
theorem dX5_adds_18 : decode cX5_adds 18 = .ok (.iload_n 2, 1) := by decide +kernel
theorem dX5_adds_19 : decode cX5_adds 19 = .ok (.iastore, 1) := by decide +kernel
theorem dX5_adds_20 : decode cX5_adds 20 = .ok (.aload_n 0, 1) := by decide +kernel
theorem dX5_adds_21 : decode cX5_adds 21 = .ok (.getfield 19, 3) := by decide +kernel
theorem dX5_adds_24 : decode cX5_adds 24 = .ok (.aload_n 0, 1) := by decide +kernel
theorem dX5_adds_25 : decode cX5_adds 25 = .ok (.getfield 67, 3) := by decide +kernel
theorem dX5_adds_28 : decode cX5_adds 28 = .ok (.iload_n 3, 1) := by decide +kernel
theorem dX5_adds_29 : decode cX5_adds 29 = .ok (.iastore, 1) := by decide +kernel
theorem dX5_adds_30 : decode cX5_adds 30 = .ok (.aload_n 0, 1) := by decide +kernel
theorem dX5_adds_31 : decode cX5_adds 31 = .ok (.getfield 22, 3) := by decide +kernel
theorem dX5_adds_34 : decode cX5_adds 34 = .ok (.aload_n 0, 1) := by decide +kernel
theorem dX5_adds_35 : decode cX5_adds 35 = .ok (.getfield 67, 3) := by decide +kernel
theorem dX5_adds_38 : decode cX5_adds 38 = .ok (.bipush 9, 2) := by decide +kernel
theorem dX5_adds_40 : decode cX5_adds 40 = .ok (.iastore, 1) := by decide +kernel
theorem dX5_adds_41 : decode cX5_adds 41 = .ok (.aload_n 0, 1) := by decide +kernel
theorem dX5_adds_42 : decode cX5_adds 42 = .ok (.getfield 25, 3) := by decide +kernel
theorem dX5_adds_45 : decode cX5_adds 45 = .ok (.aload_n 0, 1) := by decide +kernel
theorem dX5_adds_46 : decode cX5_adds 46 = .ok (.getfield 67, 3) := by decide +kernel
theorem dX5_adds_49 : decode cX5_adds 49 = .ok (.iconst 0, 1) := by decide +kernel
theorem dX5_adds_50 : decode cX5_adds 50 = .ok (.iastore, 1) := by decide +kernel
theorem dX5_adds_51 : decode cX5_adds 51 = .ok (.aload_n 0, 1) := by decide +kernel
theorem dX5_adds_52 : decode cX5_adds 52 = .ok (.dup, 1) := by decide +kernel
theorem dX5_adds_53 : decode cX5_adds 53 = .ok (.getfield 126, 3) := by decide +kernel
theorem dX5_adds_56 : decode cX5_adds 56 = .ok (.iconst 1, 1) := by decide +kernel
theorem dX5_adds_57 : decode cX5_adds 57 = .ok (.aload_n 0, 1) := by decide +kernel
theorem dX5_adds_58 : decode cX5_adds 58 = .ok (.getfield 67, 3) := by decide +kernel
theorem dX5_adds_61 : decode cX5_adds 61 = .ok (.ishl, 1) := by decide +kernel
theorem dX5_adds_62 : decode cX5_adds 62 = .ok (.iconst (-1), 1) := by decide +kernel
theorem dX5_adds_63 : decode cX5_adds 63 = .ok (.ixor, 1) := by decide +kernel
theorem dX5_adds_64 : decode cX5_adds 64 = .ok (.iand, 1) := by decide +kernel
theorem dX5_adds_65 : decode cX5_adds 65 = .ok (.putfield 126, 3) := by decide +kernel
theorem dX5_adds_68 : decode cX5_adds 68 = .ok (.aload_n 0, 1) := by decide +kernel
theorem dX5_adds_69 : decode cX5_adds 69 = .ok (.dup, 1) := by decide +kernel
theorem dX5_adds_70 : decode cX5_adds 70 = .ok (.getfield 67, 3) := by decide +kernel
theorem dX5_adds_73 : decode cX5_adds 73 = .ok (.iconst 1, 1) := by decide +kernel
theorem dX5_adds_74 : decode cX5_adds 74 = .ok (.iadd, 1) := by decide +kernel
theorem dX5_adds_75 : decode cX5_adds 75 = .ok (.putfield 67, 3) := by decide +kernel
theorem dX5_adds_78 : decode cX5_adds 78 = .ok (.return_, 1) := by decide +kernel
set_option maxRecDepth 20000 in
theorem ggX5_loudOf_X5_isIn : GoodIn wsX5_loudOf wsX5_isIn := goodIn_r _ [6] (by decide +kernel) (by decide +kernel)
set_option maxRecDepth 20000 in
theorem gX5_loudOf_X5_isIn : GoodIn wsX5_loudOf (va_wsS RX5 88 yX5_isIn wsX5_isIn) := goodIn_app (goodIn_of _ (by decide +kernel)) ggX5_loudOf_X5_isIn
theorem dX5_loudOf_0 : decode cX5_loudOf 0 = .ok (.iload_n 2, 1) := by decide +kernel
theorem dX5_loudOf_1 : decode cX5_loudOf 1 = .ok (.iconst 2, 1) := by decide +kernel
theorem dX5_loudOf_2 : decode cX5_loudOf 2 = .ok (.irem, 1) := by decide +kernel
theorem dX5_loudOf_3 : decode cX5_loudOf 3 = .ok (.ifCond .ne 14, 3) := by decide +kernel
theorem dX5_loudOf_6 : decode cX5_loudOf 6 = .ok (.aload_n 0, 1) := by decide +kernel
theorem dX5_loudOf_7 : decode cX5_loudOf 7 = .ok (.getfield 16, 3) := by decide +kernel
theorem dX5_loudOf_10 : decode cX5_loudOf 10 = .ok (.iload_n 1, 1) := by decide +kernel
theorem dX5_loudOf_11 : decode cX5_loudOf 11 = .ok (.iaload, 1) := by decide +kernel
theorem dX5_loudOf_12 : decode cX5_loudOf 12 = .ok (.iconst 3, 1) := by decide +kernel
theorem dX5_loudOf_13 : decode cX5_loudOf 13 = .ok (.iadd, 1) := by decide +kernel
theorem dX5_loudOf_14 : decode cX5_loudOf 14 = .ok (.goto 4, 3) := by decide +kernel
theorem dX5_loudOf_17 : decode cX5_loudOf 17 = .ok (.iconst 0, 1) := by decide +kernel
theorem dX5_loudOf_18 : decode cX5_loudOf 18 = .ok (.istore_n 3, 1) := by decide +kernel
theorem dX5_loudOf_19 : decode cX5_loudOf 19 = .ok (.aload_n 0, 1) := by decide +kernel
theorem dX5_loudOf_20 : decode cX5_loudOf 20 = .ok (.getfield 13, 3) := by decide +kernel
theorem dX5_loudOf_23 : decode cX5_loudOf 23 = .ok (.iload_n 1, 1) := by decide +kernel
theorem dX5_loudOf_24 : decode cX5_loudOf 24 = .ok (.iaload, 1) := by decide +kernel
theorem dX5_loudOf_25 : decode cX5_loudOf 25 = .ok (.tableswitch 101 1 5 #[35, 37, 39, 69, 99], 35) := by decide +kernel
theorem dX5_loudOf_60 : decode cX5_loudOf 60 = .ok (.iload_n 3, 1) := by decide +kernel
theorem dX5_loudOf_61 : decode cX5_loudOf 61 = .ok (.ireturn, 1) := by decide +kernel
theorem dX5_loudOf_62 : decode cX5_loudOf 62 = .ok (.iconst 4, 1) := by decide +kernel
theorem dX5_loudOf_63 : decode cX5_loudOf 63 = .ok (.ireturn, 1) := by decide +kernel
theorem dX5_loudOf_64 : decode cX5_loudOf 64 = .ok (.iload_n 2, 1) := by decide +kernel
theorem dX5_loudOf_65 : decode cX5_loudOf 65 = .ok (.bipush 9, 2) := by decide +kernel
theorem dX5_loudOf_67 : decode cX5_loudOf 67 = .ok (.bipush 11, 2) := by decide +kernel
theorem dX5_loudOf_69 : decode cX5_loudOf 69 = .ok (.invokestatic 88, 3) := by decide +kernel
theorem dX5_loudOf_72 : decode cX5_loudOf 72 = .ok (.ifCond .ne 14, 3) := by decide +kernel
theorem dX5_loudOf_75 : decode cX5_loudOf 75 = .ok (.iload_n 2, 1) := by decide +kernel
theorem dX5_loudOf_76 : decode cX5_loudOf 76 = .ok (.bipush 18, 2) := by decide +kernel
theorem dX5_loudOf_78 : decode cX5_loudOf 78 = .ok (.bipush 20, 2) := by decide +kernel
theorem dX5_loudOf_80 : decode cX5_loudOf 80 = .ok (.invokestatic 88, 3) := by decide +kernel
theorem dX5_loudOf_83 : decode cX5_loudOf 83 = .ok (.ifCond .eq 9, 3) := by decide +kernel
theorem dX5_loudOf_86 : decode cX5_loudOf 86 = .ok (.iconst 2, 1) := by decide +kernel
theorem dX5_loudOf_87 : decode cX5_loudOf 87 = .ok (.iload_n 3, 1) := by decide +kernel
theorem dX5_loudOf_88 : decode cX5_loudOf 88 = .ok (.imul, 1) := by decide +kernel
theorem dX5_loudOf_89 : decode cX5_loudOf 89 = .ok (.goto 4, 3) := by decide +kernel
theorem dX5_loudOf_92 : decode cX5_loudOf 92 = .ok (.iload_n 3, 1) := by decide +kernel
theorem dX5_loudOf_93 : decode cX5_loudOf 93 = .ok (.ireturn, 1) := by decide +kernel
theorem dX5_loudOf_94 : decode cX5_loudOf 94 = .ok (.iload_n 2, 1) := by decide +kernel
theorem dX5_loudOf_95 : decode cX5_loudOf 95 = .ok (.aload_n 0, 1) := by decide +kernel
theorem dX5_loudOf_96 : decode cX5_loudOf 96 = .ok (.getfield 16, 3) := by decide +kernel
theorem dX5_loudOf_99 : decode cX5_loudOf 99 = .ok (.iload_n 1, 1) := by decide +kernel
theorem dX5_loudOf_100 : decode cX5_loudOf 100 = .ok (.iaload, 1) := by decide +kernel
theorem dX5_loudOf_101 : decode cX5_loudOf 101 = .ok (.if_icmp .eq 16, 3) := by decide +kernel
theorem dX5_loudOf_104 : decode cX5_loudOf 104 = .ok (.iload_n 2, 1) := by decide +kernel
theorem dX5_loudOf_105 : decode cX5_loudOf 105 = .ok (.aload_n 0, 1) := by decide +kernel
theorem dX5_loudOf_106 : decode cX5_loudOf 106 = .ok (.getfield 16, 3) := by decide +kernel
theorem dX5_loudOf_109 : decode cX5_loudOf 109 = .ok (.iload_n 1, 1) := by decide +kernel
theorem dX5_loudOf_110 : decode cX5_loudOf 110 = .ok (.iaload, 1) := by decide +kernel
theorem dX5_loudOf_111 : decode cX5_loudOf 111 = .ok (.bipush 12, 2) := by decide +kernel
theorem dX5_loudOf_113 : decode cX5_loudOf 113 = .ok (.iadd, 1) := by decide +kernel
theorem dX5_loudOf_114 : decode cX5_loudOf 114 = .ok (.if_icmp .ne 8, 3) := by decide +kernel
theorem dX5_loudOf_117 : decode cX5_loudOf 117 = .ok (.bipush 30, 2) := by decide +kernel
theorem dX5_loudOf_119 : decode cX5_loudOf 119 = .ok (.goto 4, 3) := by decide +kernel
theorem dX5_loudOf_122 : decode cX5_loudOf 122 = .ok (.iconst 0, 1) := by decide +kernel
theorem dX5_loudOf_123 : decode cX5_loudOf 123 = .ok (.ireturn, 1) := by decide +kernel
theorem dX5_loudOf_124 : decode cX5_loudOf 124 = .ok (.iconst 1, 1) := by decide +kernel
theorem dX5_loudOf_125 : decode cX5_loudOf 125 = .ok (.ireturn, 1) := by decide +kernel
theorem dX5_loudOf_126 : decode cX5_loudOf 126 = .ok (.aload_n 0, 1) := by decide +kernel
theorem dX5_loudOf_127 : decode cX5_loudOf 127 = .ok (.getfield 16, 3) := by decide +kernel
theorem dX5_loudOf_130 : decode cX5_loudOf 130 = .ok (.iload_n 1, 1) := by decide +kernel
theorem dX5_loudOf_131 : decode cX5_loudOf 131 = .ok (.iaload, 1) := by decide +kernel
theorem dX5_loudOf_132 : decode cX5_loudOf 132 = .ok (.ireturn, 1) := by decide +kernel
theorem dX5_costsOf_0 : decode cX5_costsOf 0 = .ok (.aload_n 0, 1) := by decide +kernel
theorem dX5_costsOf_1 : decode cX5_costsOf 1 = .ok (.getfield 13, 3) := by decide +kernel
theorem dX5_costsOf_4 : decode cX5_costsOf 4 = .ok (.iload_n 1, 1) := by decide +kernel
theorem dX5_costsOf_5 : decode cX5_costsOf 5 = .ok (.iaload, 1) := by decide +kernel
theorem dX5_costsOf_6 : decode cX5_costsOf 6 = .ok (.iconst 4, 1) := by decide +kernel
theorem dX5_costsOf_7 : decode cX5_costsOf 7 = .ok (.if_icmp .ne 7, 3) := by decide +kernel
theorem dX5_costsOf_10 : decode cX5_costsOf 10 = .ok (.iconst 5, 1) := by decide +kernel
theorem dX5_costsOf_11 : decode cX5_costsOf 11 = .ok (.goto 39, 3) := by decide +kernel
theorem dX5_costsOf_14 : decode cX5_costsOf 14 = .ok (.aload_n 0, 1) := by decide +kernel
theorem dX5_costsOf_15 : decode cX5_costsOf 15 = .ok (.getfield 13, 3) := by decide +kernel
theorem dX5_costsOf_18 : decode cX5_costsOf 18 = .ok (.iload_n 1, 1) := by decide +kernel
theorem dX5_costsOf_19 : decode cX5_costsOf 19 = .ok (.iaload, 1) := by decide +kernel
theorem dX5_costsOf_20 : decode cX5_costsOf 20 = .ok (.iconst 1, 1) := by decide +kernel
theorem dX5_costsOf_21 : decode cX5_costsOf 21 = .ok (.if_icmp .eq 13, 3) := by decide +kernel
theorem dX5_costsOf_24 : decode cX5_costsOf 24 = .ok (.aload_n 0, 1) := by decide +kernel
theorem dX5_costsOf_25 : decode cX5_costsOf 25 = .ok (.getfield 13, 3) := by decide +kernel
theorem dX5_costsOf_28 : decode cX5_costsOf 28 = .ok (.iload_n 1, 1) := by decide +kernel
theorem dX5_costsOf_29 : decode cX5_costsOf 29 = .ok (.iaload, 1) := by decide +kernel
theorem dX5_costsOf_30 : decode cX5_costsOf 30 = .ok (.iconst 3, 1) := by decide +kernel
theorem dX5_costsOf_31 : decode cX5_costsOf 31 = .ok (.if_icmp .ne 18, 3) := by decide +kernel
theorem dX5_costsOf_34 : decode cX5_costsOf 34 = .ok (.aload_n 0, 1) := by decide +kernel
theorem dX5_costsOf_35 : decode cX5_costsOf 35 = .ok (.getfield 16, 3) := by decide +kernel
theorem dX5_costsOf_38 : decode cX5_costsOf 38 = .ok (.iload_n 1, 1) := by decide +kernel
theorem dX5_costsOf_39 : decode cX5_costsOf 39 = .ok (.iaload, 1) := by decide +kernel
theorem dX5_costsOf_40 : decode cX5_costsOf 40 = .ok (.bipush 7, 2) := by decide +kernel
theorem dX5_costsOf_42 : decode cX5_costsOf 42 = .ok (.if_icmp .lt 7, 3) := by decide +kernel
theorem dX5_costsOf_45 : decode cX5_costsOf 45 = .ok (.iconst 1, 1) := by decide +kernel
theorem dX5_costsOf_46 : decode cX5_costsOf 46 = .ok (.goto 4, 3) := by decide +kernel
theorem dX5_costsOf_49 : decode cX5_costsOf 49 = .ok (.iconst 0, 1) := by decide +kernel
theorem dX5_costsOf_50 : decode cX5_costsOf 50 = .ok (.ireturn, 1) := by decide +kernel
set_option maxRecDepth 20000 in
theorem ggX5_noiseOf_X5_has : GoodIn wsX5_noiseOf wsX5_has := goodIn_r _ [8] (by decide +kernel) (by decide +kernel)
set_option maxRecDepth 20000 in
theorem gX5_noiseOf_X5_has : GoodIn wsX5_noiseOf (va_wsS RX5 166 yX5_has wsX5_has) := goodIn_app (goodIn_of _ (by decide +kernel)) ggX5_noiseOf_X5_has
set_option maxRecDepth 20000 in
theorem ggX5_noiseOf_X5_costsOf : GoodIn wsX5_noiseOf wsX5_costsOf := goodIn_r _ [12, 13, 14, 22, 23, 24, 25, 26, 27, 28, 29, 30, 31, 32, 33, 34, 35, 36, 37, 38, 39, 40, 41, 42, 43, 44, 45, 46, 47, 48, 49, 50, 51, 52, 53, 54] (by decide +kernel) (by decide +kernel)
set_option maxRecDepth 20000 in
theorem gX5_noiseOf_X5_costsOf : GoodIn wsX5_noiseOf (wsV RX5 169 RX5 yX5_costsOf wsX5_costsOf) := goodIn_app (goodIn_of _ (by decide +kernel)) ggX5_noiseOf_X5_costsOf
set_option maxRecDepth 20000 in
theorem ggX5_noiseOf_X5_loudOf : GoodIn wsX5_noiseOf wsX5_loudOf := goodIn_r _ [18, 14, 13, 19, 20, 7, 21, 22, 23, 24, 25, 26, 27, 28, 29, 30, 31, 32, 33, 34, 35, 36, 37, 38, 39, 40, 41, 42, 43, 44, 45, 46, 47, 48, 49, 50, 51, 52, 53, 54] (by decide +kernel) (by decide +kernel)
set_option maxRecDepth 20000 in
theorem gX5_noiseOf_X5_loudOf : GoodIn wsX5_noiseOf (wsV RX5 172 RX5 yX5_loudOf wsX5_loudOf) := goodIn_app (goodIn_of _ (by decide +kernel)) ggX5_noiseOf_X5_loudOf
theorem dX5_noiseOf_0 : decode cX5_noiseOf 0 = .ok (.aload_n 0, 1) := by decide +kernel
theorem dX5_noiseOf_1 : decode cX5_noiseOf 1 = .ok (.getfield 126, 3) := by decide +kernel
theorem dX5_noiseOf_4 : decode cX5_noiseOf 4 = .ok (.iload_n 1, 1) := by decide +kernel
theorem dX5_noiseOf_5 : decode cX5_noiseOf 5 = .ok (.invokestatic 166, 3) := by decide +kernel
theorem dX5_noiseOf_8 : decode cX5_noiseOf 8 = .ok (.ifCond .ne 30, 3) := by decide +kernel
theorem dX5_noiseOf_11 : decode cX5_noiseOf 11 = .ok (.aload_n 0, 1) := by decide +kernel
theorem dX5_noiseOf_12 : decode cX5_noiseOf 12 = .ok (.getfield 22, 3) := by decide +kernel
theorem dX5_noiseOf_15 : decode cX5_noiseOf 15 = .ok (.iload_n 1, 1) := by decide +kernel
theorem dX5_noiseOf_16 : decode cX5_noiseOf 16 = .ok (.iaload, 1) := by decide +kernel
theorem dX5_noiseOf_17 : decode cX5_noiseOf 17 = .ok (.aload_n 0, 1) := by decide +kernel
theorem dX5_noiseOf_18 : decode cX5_noiseOf 18 = .ok (.iload_n 1, 1) := by decide +kernel
theorem dX5_noiseOf_19 : decode cX5_noiseOf 19 = .ok (.invokevirtual 169, 3) := by decide +kernel
theorem dX5_noiseOf_22 : decode cX5_noiseOf 22 = .ok (.if_icmp .lt 16, 3) := by decide +kernel
theorem dX5_noiseOf_25 : decode cX5_noiseOf 25 = .ok (.aload_n 0, 1) := by decide +kernel
theorem dX5_noiseOf_26 : decode cX5_noiseOf 26 = .ok (.getfield 19, 3) := by decide +kernel
theorem dX5_noiseOf_29 : decode cX5_noiseOf 29 = .ok (.iload_n 1, 1) := by decide +kernel
theorem dX5_noiseOf_30 : decode cX5_noiseOf 30 = .ok (.iaload, 1) := by decide +kernel
theorem dX5_noiseOf_31 : decode cX5_noiseOf 31 = .ok (.aload_n 0, 1) := by decide +kernel
theorem dX5_noiseOf_32 : decode cX5_noiseOf 32 = .ok (.getfield 55, 3) := by decide +kernel
theorem dX5_noiseOf_35 : decode cX5_noiseOf 35 = .ok (.if_icmp .ne 7, 3) := by decide +kernel
theorem dX5_noiseOf_38 : decode cX5_noiseOf 38 = .ok (.iconst 0, 1) := by decide +kernel
theorem dX5_noiseOf_39 : decode cX5_noiseOf 39 = .ok (.goto 9, 3) := by decide +kernel
theorem dX5_noiseOf_42 : decode cX5_noiseOf 42 = .ok (.aload_n 0, 1) := by decide +kernel
theorem dX5_noiseOf_43 : decode cX5_noiseOf 43 = .ok (.iload_n 1, 1) := by decide +kernel
theorem dX5_noiseOf_44 : decode cX5_noiseOf 44 = .ok (.iload_n 2, 1) := by decide +kernel
theorem dX5_noiseOf_45 : decode cX5_noiseOf 45 = .ok (.invokevirtual 172, 3) := by decide +kernel
theorem dX5_noiseOf_48 : decode cX5_noiseOf 48 = .ok (.ireturn, 1) := by decide +kernel
set_option maxRecDepth 20000 in
theorem ggX5_isLouder_X5_noiseOf : GoodIn wsX5_isLouder wsX5_noiseOf := goodIn_r _ [7, 8, 9, 1, 2, 10, 11, 6, 12, 13, 14, 15, 16, 17, 18, 19, 20, 21, 22, 23, 24, 25, 29, 30, 31, 32, 33, 34, 35, 36, 37, 38, 39, 40, 41, 42, 43, 44, 45, 46, 47, 48, 49, 50, 51, 52, 53, 54, 55, 56, 57, 58, 59, 60, 61] (by decide +kernel) (by decide +kernel)
set_option maxRecDepth 20000 in
theorem gX5_isLouder_X5_noiseOf : GoodIn wsX5_isLouder (wsV RX5 176 RX5 yX5_noiseOf wsX5_noiseOf) := goodIn_app (goodIn_of _ (by decide +kernel)) ggX5_isLouder_X5_noiseOf
set_option maxRecDepth 20000 in
theorem ggX5_isLouder_X5_far : GoodIn wsX5_isLouder wsX5_far := goodIn_r _ [28] (by decide +kernel) (by decide +kernel)
set_option maxRecDepth 20000 in
theorem gX5_isLouder_X5_far : GoodIn wsX5_isLouder (va_wsS RX5 179 yX5_far wsX5_far) := goodIn_app (goodIn_of _ (by decide +kernel)) ggX5_isLouder_X5_far
theorem dX5_isLouder_0 : decode cX5_isLouder 0 = .ok (.aload_n 0, 1) := by decide +kernel
theorem dX5_isLouder_1 : decode cX5_isLouder 1 = .ok (.iload_n 1, 1) := by decide +kernel
theorem dX5_isLouder_2 : decode cX5_isLouder 2 = .ok (.iload_n 3, 1) := by decide +kernel
theorem dX5_isLouder_3 : decode cX5_isLouder 3 = .ok (.invokevirtual 176, 3) := by decide +kernel
theorem dX5_isLouder_6 : decode cX5_isLouder 6 = .ok (.aload_n 0, 1) := by decide +kernel
theorem dX5_isLouder_7 : decode cX5_isLouder 7 = .ok (.iload_n 2, 1) := by decide +kernel
theorem dX5_isLouder_8 : decode cX5_isLouder 8 = .ok (.iload_n 3, 1) := by decide +kernel
theorem dX5_isLouder_9 : decode cX5_isLouder 9 = .ok (.invokevirtual 176, 3) := by decide +kernel
theorem dX5_isLouder_12 : decode cX5_isLouder 12 = .ok (.isub, 1) := by decide +kernel
theorem dX5_isLouder_13 : decode cX5_isLouder 13 = .ok (.istore 4, 2) := by decide +kernel
theorem dX5_isLouder_15 : decode cX5_isLouder 15 = .ok (.iload 4, 2) := by decide +kernel
theorem dX5_isLouder_17 : decode cX5_isLouder 17 = .ok (.ifCond .gt 37, 3) := by decide +kernel
theorem dX5_isLouder_20 : decode cX5_isLouder 20 = .ok (.iload 4, 2) := by decide +kernel
theorem dX5_isLouder_22 : decode cX5_isLouder 22 = .ok (.ifCond .ne 36, 3) := by decide +kernel
theorem dX5_isLouder_25 : decode cX5_isLouder 25 = .ok (.aload_n 0, 1) := by decide +kernel
theorem dX5_isLouder_26 : decode cX5_isLouder 26 = .ok (.getfield 19, 3) := by decide +kernel
theorem dX5_isLouder_29 : decode cX5_isLouder 29 = .ok (.iload_n 1, 1) := by decide +kernel
theorem dX5_isLouder_30 : decode cX5_isLouder 30 = .ok (.iaload, 1) := by decide +kernel
theorem dX5_isLouder_31 : decode cX5_isLouder 31 = .ok (.aload_n 0, 1) := by decide +kernel
theorem dX5_isLouder_32 : decode cX5_isLouder 32 = .ok (.getfield 55, 3) := by decide +kernel
theorem dX5_isLouder_35 : decode cX5_isLouder 35 = .ok (.invokestatic 179, 3) := by decide +kernel
theorem dX5_isLouder_38 : decode cX5_isLouder 38 = .ok (.aload_n 0, 1) := by decide +kernel
theorem dX5_isLouder_39 : decode cX5_isLouder 39 = .ok (.getfield 19, 3) := by decide +kernel
theorem dX5_isLouder_42 : decode cX5_isLouder 42 = .ok (.iload_n 2, 1) := by decide +kernel
theorem dX5_isLouder_43 : decode cX5_isLouder 43 = .ok (.iaload, 1) := by decide +kernel
theorem dX5_isLouder_44 : decode cX5_isLouder 44 = .ok (.aload_n 0, 1) := by decide +kernel
theorem dX5_isLouder_45 : decode cX5_isLouder 45 = .ok (.getfield 55, 3) := by decide +kernel
theorem dX5_isLouder_48 : decode cX5_isLouder 48 = .ok (.invokestatic 179, 3) := by decide +kernel
theorem dX5_isLouder_51 : decode cX5_isLouder 51 = .ok (.if_icmp .ge 7, 3) := by decide +kernel
theorem dX5_isLouder_54 : decode cX5_isLouder 54 = .ok (.iconst 1, 1) := by decide +kernel
theorem dX5_isLouder_55 : decode cX5_isLouder 55 = .ok (.goto 4, 3) := by decide +kernel
theorem dX5_isLouder_58 : decode cX5_isLouder 58 = .ok (.iconst 0, 1) := by decide +kernel
theorem dX5_isLouder_59 : decode cX5_isLouder 59 = .ok (.ireturn, 1) := by decide +kernel
set_option maxRecDepth 20000 in
theorem ggX5_loudestAt_X5_noiseOf : GoodIn wsX5_loudestAt wsX5_noiseOf := goodIn_r _ [6, 7, 8, 9, 10, 11, 12, 5, 13, 14, 15, 16, 17, 18, 19, 20, 21, 22, 23, 24, 25, 26, 34, 35, 36, 37, 38, 39, 40, 41, 42, 43, 44, 45, 46, 47, 48, 49, 50, 51, 52, 53, 54, 55, 56, 57, 58, 59, 60, 61, 62, 63, 64, 65, 66] (by decide +kernel) (by decide +kernel)
set_option maxRecDepth 20000 in
theorem gX5_loudestAt_X5_noiseOf : GoodIn wsX5_loudestAt (wsV RX5 176 RX5 yX5_noiseOf wsX5_noiseOf) := goodIn_app (goodIn_of _ (by decide +kernel)) ggX5_loudestAt_X5_noiseOf
set_option maxRecDepth 20000 in
theorem ggX5_loudestAt_X5_isLouder : GoodIn wsX5_loudestAt wsX5_isLouder := goodIn_r _ [30, 9, 10, 2, 3, 4, 5, 6, 7, 8, 11, 12, 13, 14, 15, 16, 17, 18, 19, 20, 21, 22, 23, 24, 25, 26, 31, 32, 33, 34, 35, 36, 37, 38, 39, 40, 41, 42, 43, 44, 45, 46, 47, 48, 49, 50, 51, 52, 53, 54, 55, 56, 57, 58, 59, 60, 61, 62, 63, 64, 65, 66] (by decide +kernel) (by decide +kernel)
set_option maxRecDepth 20000 in
theorem gX5_loudestAt_X5_isLouder : GoodIn wsX5_loudestAt (wsV RX5 182 RX5 yX5_isLouder wsX5_isLouder) := goodIn_app (goodIn_of _ (by decide +kernel)) ggX5_loudestAt_X5_isLouder
theorem dX5_loudestAt_0 : decode cX5_loudestAt 0 = .ok (.bipush (-9), 2) := by decide +kernel
theorem dX5_loudestAt_2 : decode cX5_loudestAt 2 = .ok (.istore_n 2, 1) := by decide +kernel
theorem dX5_loudestAt_3 : decode cX5_loudestAt 3 = .ok (.iconst 0, 1) := by decide +kernel
theorem dX5_loudestAt_4 : decode cX5_loudestAt 4 = .ok (.istore_n 3, 1) := by decide +kernel
theorem dX5_loudestAt_5 : decode cX5_loudestAt 5 = .ok (.iload_n 3, 1) := by decide +kernel
theorem dX5_loudestAt_6 : decode cX5_loudestAt 6 = .ok (.aload_n 0, 1) := by decide +kernel
theorem dX5_loudestAt_7 : decode cX5_loudestAt 7 = .ok (.getfield 67, 3) := by decide +kernel
theorem dX5_loudestAt_10 : decode cX5_loudestAt 10 = .ok (.if_icmp .ge 34, 3) := by decide +kernel
theorem dX5_loudestAt_13 : decode cX5_loudestAt 13 = .ok (.aload_n 0, 1) := by decide +kernel
theorem dX5_loudestAt_14 : decode cX5_loudestAt 14 = .ok (.iload_n 3, 1) := by decide +kernel
theorem dX5_loudestAt_15 : decode cX5_loudestAt 15 = .ok (.iload_n 1, 1) := by decide +kernel
theorem dX5_loudestAt_16 : decode cX5_loudestAt 16 = .ok (.invokevirtual 176, 3) := by decide +kernel
theorem dX5_loudestAt_19 : decode cX5_loudestAt 19 = .ok (.ifCond .le 19, 3) := by decide +kernel
theorem dX5_loudestAt_22 : decode cX5_loudestAt 22 = .ok (.iload_n 2, 1) := by decide +kernel
theorem dX5_loudestAt_23 : decode cX5_loudestAt 23 = .ok (.ifCond .lt 13, 3) := by decide +kernel
theorem dX5_loudestAt_26 : decode cX5_loudestAt 26 = .ok (.aload_n 0, 1) := by decide +kernel
theorem dX5_loudestAt_27 : decode cX5_loudestAt 27 = .ok (.iload_n 3, 1) := by decide +kernel
theorem dX5_loudestAt_28 : decode cX5_loudestAt 28 = .ok (.iload_n 2, 1) := by decide +kernel
theorem dX5_loudestAt_29 : decode cX5_loudestAt 29 = .ok (.iload_n 1, 1) := by decide +kernel
theorem dX5_loudestAt_30 : decode cX5_loudestAt 30 = .ok (.invokevirtual 182, 3) := by decide +kernel
theorem dX5_loudestAt_33 : decode cX5_loudestAt 33 = .ok (.ifCond .eq 5, 3) := by decide +kernel
theorem dX5_loudestAt_36 : decode cX5_loudestAt 36 = .ok (.iload_n 3, 1) := by decide +kernel
theorem dX5_loudestAt_37 : decode cX5_loudestAt 37 = .ok (.istore_n 2, 1) := by decide +kernel
theorem dX5_loudestAt_38 : decode cX5_loudestAt 38 = .ok (.iinc 3 1, 3) := by decide +kernel
theorem dX5_loudestAt_41 : decode cX5_loudestAt 41 = .ok (.goto (-36), 3) := by decide +kernel
theorem dX5_loudestAt_44 : decode cX5_loudestAt 44 = .ok (.iload_n 2, 1) := by decide +kernel
theorem dX5_loudestAt_45 : decode cX5_loudestAt 45 = .ok (.ireturn, 1) := by decide +kernel
set_option maxRecDepth 20000 in
theorem ggX5_allNoise_X5_noiseOf : GoodIn wsX5_allNoise wsX5_noiseOf := goodIn_r _ [6, 7, 8, 9, 10, 11, 12, 5, 13, 14, 15, 16, 17, 18, 19, 20, 21, 22, 23, 24, 25, 26, 27, 28, 29, 30, 31, 32, 33, 34, 35, 36, 37, 38, 39, 40, 41, 42, 43, 44, 45, 46, 47, 48, 49, 50, 51, 52, 53, 54, 55, 56, 57, 58, 59] (by decide +kernel) (by decide +kernel)
set_option maxRecDepth 20000 in
theorem gX5_allNoise_X5_noiseOf : GoodIn wsX5_allNoise (wsV RX5 176 RX5 yX5_noiseOf wsX5_noiseOf) := goodIn_app (goodIn_of _ (by decide +kernel)) ggX5_allNoise_X5_noiseOf
theorem dX5_allNoise_0 : decode cX5_allNoise 0 = .ok (.iconst 0, 1) := by decide +kernel
theorem dX5_allNoise_1 : decode cX5_allNoise 1 = .ok (.istore_n 2, 1) := by decide +kernel
theorem dX5_allNoise_2 : decode cX5_allNoise 2 = .ok (.iconst 0, 1) := by decide +kernel
theorem dX5_allNoise_3 : decode cX5_allNoise 3 = .ok (.istore_n 3, 1) := by decide +kernel
theorem dX5_allNoise_4 : decode cX5_allNoise 4 = .ok (.iload_n 3, 1) := by decide +kernel
theorem dX5_allNoise_5 : decode cX5_allNoise 5 = .ok (.aload_n 0, 1) := by decide +kernel
theorem dX5_allNoise_6 : decode cX5_allNoise 6 = .ok (.getfield 67, 3) := by decide +kernel
theorem dX5_allNoise_9 : decode cX5_allNoise 9 = .ok (.if_icmp .ge 18, 3) := by decide +kernel
theorem dX5_allNoise_12 : decode cX5_allNoise 12 = .ok (.iload_n 2, 1) := by decide +kernel
theorem dX5_allNoise_13 : decode cX5_allNoise 13 = .ok (.aload_n 0, 1) := by decide +kernel
theorem dX5_allNoise_14 : decode cX5_allNoise 14 = .ok (.iload_n 3, 1) := by decide +kernel
theorem dX5_allNoise_15 : decode cX5_allNoise 15 = .ok (.iload_n 1, 1) := by decide +kernel
theorem dX5_allNoise_16 : decode cX5_allNoise 16 = .ok (.invokevirtual 176, 3) := by decide +kernel
theorem dX5_allNoise_19 : decode cX5_allNoise 19 = .ok (.iadd, 1) := by decide +kernel
theorem dX5_allNoise_20 : decode cX5_allNoise 20 = .ok (.istore_n 2, 1) := by decide +kernel
theorem dX5_allNoise_21 : decode cX5_allNoise 21 = .ok (.iinc 3 1, 3) := by decide +kernel
theorem dX5_allNoise_24 : decode cX5_allNoise 24 = .ok (.goto (-20), 3) := by decide +kernel
theorem dX5_allNoise_27 : decode cX5_allNoise 27 = .ok (.iload_n 2, 1) := by decide +kernel
theorem dX5_allNoise_28 : decode cX5_allNoise 28 = .ok (.ireturn, 1) := by decide +kernel
set_option maxRecDepth 20000 in
theorem ggX5_holder_X5_shoreAt : GoodIn wsX5_holder wsX5_shoreAt := goodIn_r _ [6, 7, 8, 9, 10, 11, 12, 13, 14, 15, 16, 17, 18, 19, 20, 21, 22, 23, 24, 25, 26, 27, 28, 29, 30, 31, 32, 33, 34, 35, 36, 37, 38, 39, 40, 41] (by decide +kernel) (by decide +kernel)
set_option maxRecDepth 20000 in
theorem gX5_holder_X5_shoreAt : GoodIn wsX5_holder (wsV RX5 106 RX5 yX5_shoreAt wsX5_shoreAt) := goodIn_app (goodIn_of _ (by decide +kernel)) ggX5_holder_X5_shoreAt
theorem dX5_holder_0 : decode cX5_holder 0 = .ok (.aload_n 0, 1) := by decide +kernel
theorem dX5_holder_1 : decode cX5_holder 1 = .ok (.aload_n 0, 1) := by decide +kernel
theorem dX5_holder_2 : decode cX5_holder 2 = .ok (.getfield 55, 3) := by decide +kernel
theorem dX5_holder_5 : decode cX5_holder 5 = .ok (.invokevirtual 106, 3) := by decide +kernel
theorem dX5_holder_8 : decode cX5_holder 8 = .ok (.ireturn, 1) := by decide +kernel
set_option maxRecDepth 20000 in
theorem ggX5_drifts_X5_far : GoodIn wsX5_drifts wsX5_far := goodIn_r _ [6] (by decide +kernel) (by decide +kernel)
set_option maxRecDepth 20000 in
theorem gX5_drifts_X5_far : GoodIn wsX5_drifts (va_wsS RX5 179 yX5_far wsX5_far) := goodIn_app (goodIn_of _ (by decide +kernel)) ggX5_drifts_X5_far
set_option maxRecDepth 20000 in
theorem ggX5_drifts_X5_held : GoodIn wsX5_drifts wsX5_held := goodIn_r _ [9] (by decide +kernel) (by decide +kernel)
set_option maxRecDepth 20000 in
theorem gX5_drifts_X5_held : GoodIn wsX5_drifts (va_wsS RX5 185 yX5_held wsX5_held) := goodIn_app (goodIn_of _ (by decide +kernel)) ggX5_drifts_X5_held
theorem dX5_drifts_0 : decode cX5_drifts 0 = .ok (.iload_n 1, 1) := by decide +kernel
theorem dX5_drifts_1 : decode cX5_drifts 1 = .ok (.aload_n 0, 1) := by decide +kernel
theorem dX5_drifts_2 : decode cX5_drifts 2 = .ok (.getfield 55, 3) := by decide +kernel
theorem dX5_drifts_5 : decode cX5_drifts 5 = .ok (.invokestatic 179, 3) := by decide +kernel
theorem dX5_drifts_8 : decode cX5_drifts 8 = .ok (.istore_n 3, 1) := by decide +kernel
theorem dX5_drifts_9 : decode cX5_drifts 9 = .ok (.iload_n 2, 1) := by decide +kernel
theorem dX5_drifts_10 : decode cX5_drifts 10 = .ok (.ifCond .eq 10, 3) := by decide +kernel
theorem dX5_drifts_13 : decode cX5_drifts 13 = .ok (.aload_n 0, 1) := by decide +kernel
theorem dX5_drifts_14 : decode cX5_drifts 14 = .ok (.getfield 59, 3) := by decide +kernel
theorem dX5_drifts_17 : decode cX5_drifts 17 = .ok (.goto 19, 3) := by decide +kernel
theorem dX5_drifts_20 : decode cX5_drifts 20 = .ok (.aload_n 0, 1) := by decide +kernel
theorem dX5_drifts_21 : decode cX5_drifts 21 = .ok (.getfield 59, 3) := by decide +kernel
theorem dX5_drifts_24 : decode cX5_drifts 24 = .ok (.iload_n 3, 1) := by decide +kernel
theorem dX5_drifts_25 : decode cX5_drifts 25 = .ok (.if_icmp .ge 10, 3) := by decide +kernel
theorem dX5_drifts_28 : decode cX5_drifts 28 = .ok (.aload_n 0, 1) := by decide +kernel
theorem dX5_drifts_29 : decode cX5_drifts 29 = .ok (.getfield 59, 3) := by decide +kernel
theorem dX5_drifts_32 : decode cX5_drifts 32 = .ok (.goto 4, 3) := by decide +kernel
theorem dX5_drifts_35 : decode cX5_drifts 35 = .ok (.iload_n 3, 1) := by decide +kernel
theorem dX5_drifts_36 : decode cX5_drifts 36 = .ok (.istore 4, 2) := by decide +kernel
theorem dX5_drifts_38 : decode cX5_drifts 38 = .ok (.iload_n 2, 1) := by decide +kernel
theorem dX5_drifts_39 : decode cX5_drifts 39 = .ok (.ifCond .eq 19, 3) := by decide +kernel
theorem dX5_drifts_42 : decode cX5_drifts 42 = .ok (.iload_n 1, 1) := by decide +kernel
theorem dX5_drifts_43 : decode cX5_drifts 43 = .ok (.aload_n 0, 1) := by decide +kernel
theorem dX5_drifts_44 : decode cX5_drifts 44 = .ok (.getfield 55, 3) := by decide +kernel
theorem dX5_drifts_47 : decode cX5_drifts 47 = .ok (.if_icmp .ge 7, 3) := by decide +kernel
theorem dX5_drifts_50 : decode cX5_drifts 50 = .ok (.iconst 1, 1) := by decide +kernel
theorem dX5_drifts_51 : decode cX5_drifts 51 = .ok (.goto 20, 3) := by decide +kernel
theorem dX5_drifts_54 : decode cX5_drifts 54 = .ok (.iconst 0, 1) := by decide +kernel
theorem dX5_drifts_55 : decode cX5_drifts 55 = .ok (.goto 16, 3) := by decide +kernel
theorem dX5_drifts_58 : decode cX5_drifts 58 = .ok (.iload_n 1, 1) := by decide +kernel
theorem dX5_drifts_59 : decode cX5_drifts 59 = .ok (.aload_n 0, 1) := by decide +kernel
theorem dX5_drifts_60 : decode cX5_drifts 60 = .ok (.getfield 55, 3) := by decide +kernel
theorem dX5_drifts_63 : decode cX5_drifts 63 = .ok (.if_icmp .le 7, 3) := by decide +kernel
theorem dX5_drifts_66 : decode cX5_drifts 66 = .ok (.iconst 1, 1) := by decide +kernel
theorem dX5_drifts_67 : decode cX5_drifts 67 = .ok (.goto 4, 3) := by decide +kernel
theorem dX5_drifts_70 : decode cX5_drifts 70 = .ok (.iconst 0, 1) := by decide +kernel
theorem dX5_drifts_71 : decode cX5_drifts 71 = .ok (.istore 5, 2) := by decide +kernel
theorem dX5_drifts_73 : decode cX5_drifts 73 = .ok (.aload_n 0, 1) := by decide +kernel
theorem dX5_drifts_74 : decode cX5_drifts 74 = .ok (.iload 5, 2) := by decide +kernel
theorem dX5_drifts_76 : decode cX5_drifts 76 = .ok (.ifCond .eq 13, 3) := by decide +kernel
theorem dX5_drifts_79 : decode cX5_drifts 79 = .ok (.aload_n 0, 1) := by decide +kernel
theorem dX5_drifts_80 : decode cX5_drifts 80 = .ok (.getfield 55, 3) := by decide +kernel
theorem dX5_drifts_83 : decode cX5_drifts 83 = .ok (.iload 4, 2) := by decide +kernel
theorem dX5_drifts_85 : decode cX5_drifts 85 = .ok (.iadd, 1) := by decide +kernel
theorem dX5_drifts_86 : decode cX5_drifts 86 = .ok (.goto 10, 3) := by decide +kernel
theorem dX5_drifts_89 : decode cX5_drifts 89 = .ok (.aload_n 0, 1) := by decide +kernel
theorem dX5_drifts_90 : decode cX5_drifts 90 = .ok (.getfield 55, 3) := by decide +kernel
theorem dX5_drifts_93 : decode cX5_drifts 93 = .ok (.iload 4, 2) := by decide +kernel
theorem dX5_drifts_95 : decode cX5_drifts 95 = .ok (.isub, 1) := by decide +kernel
theorem dX5_drifts_96 : decode cX5_drifts 96 = .ok (.iconst 0, 1) := by decide +kernel
theorem dX5_drifts_97 : decode cX5_drifts 97 = .ok (.bipush 30, 2) := by decide +kernel
theorem dX5_drifts_99 : decode cX5_drifts 99 = .ok (.invokestatic 185, 3) := by decide +kernel
theorem dX5_drifts_102 : decode cX5_drifts 102 = .ok (.putfield 55, 3) := by decide +kernel
theorem dX5_drifts_105 : decode cX5_drifts 105 = .ok (.return_, 1) := by decide +kernel
set_option maxRecDepth 20000 in
theorem ggX5_goesHour_X5_loudestAt : GoodIn wsX5_goesHour wsX5_loudestAt := goodIn_r _ [11, 2, 12, 13, 14, 10, 15, 16, 3, 4, 17, 18, 19, 20, 21, 22, 23, 24, 25, 26, 27, 28, 29, 30, 31, 32, 33, 34, 35, 36, 37, 38, 39, 40, 57, 58, 59, 60, 61, 62, 63, 64, 65, 66, 67, 68, 69, 70, 71, 72, 73, 74, 75, 76, 77, 78, 79, 80, 81, 82, 83, 84, 85, 86, 87, 88, 89] (by decide +kernel) (by decide +kernel)
set_option maxRecDepth 20000 in
theorem gX5_goesHour_X5_loudestAt : GoodIn wsX5_goesHour (wsV RX5 188 RX5 yX5_loudestAt wsX5_loudestAt) := goodIn_app (goodIn_of _ (by decide +kernel)) ggX5_goesHour_X5_loudestAt
set_option maxRecDepth 20000 in
theorem ggX5_goesHour_X5_noiseOf : GoodIn wsX5_goesHour wsX5_noiseOf := goodIn_r _ [15, 16, 3, 4, 17, 18, 19, 10, 20, 21, 22, 23, 24, 25, 26, 27, 28, 29, 30, 31, 32, 33, 57, 58, 59, 60, 61, 62, 63, 64, 65, 66, 67, 68, 69, 70, 71, 72, 73, 74, 75, 76, 77, 78, 79, 80, 81, 82, 83, 84, 85, 86, 87, 88, 89] (by decide +kernel) (by decide +kernel)
set_option maxRecDepth 20000 in
theorem gX5_goesHour_X5_noiseOf : GoodIn wsX5_goesHour (wsV RX5 176 RX5 yX5_noiseOf wsX5_noiseOf) := goodIn_app (goodIn_of _ (by decide +kernel)) ggX5_goesHour_X5_noiseOf
set_option maxRecDepth 20000 in
theorem ggX5_goesHour_X5_costsOf : GoodIn wsX5_goesHour wsX5_costsOf := goodIn_r _ [24, 25, 26, 57, 58, 59, 60, 61, 62, 63, 64, 65, 66, 67, 68, 69, 70, 71, 72, 73, 74, 75, 76, 77, 78, 79, 80, 81, 82, 83, 84, 85, 86, 87, 88, 89] (by decide +kernel) (by decide +kernel)
set_option maxRecDepth 20000 in
theorem gX5_goesHour_X5_costsOf : GoodIn wsX5_goesHour (wsV RX5 169 RX5 yX5_costsOf wsX5_costsOf) := goodIn_app (goodIn_of _ (by decide +kernel)) ggX5_goesHour_X5_costsOf
set_option maxRecDepth 20000 in
theorem ggX5_goesHour_X5_drifts : GoodIn wsX5_goesHour wsX5_drifts := goodIn_r _ [44, 17, 45, 38, 39, 10, 40, 46, 47, 48, 57, 58, 59, 60, 61, 62, 63, 64, 65, 66, 67, 68, 69, 70, 71, 72, 73, 74, 75, 76, 77, 78, 79, 80, 81, 82, 83, 84, 85, 86, 87, 88, 89] (by decide +kernel) (by decide +kernel)
set_option maxRecDepth 20000 in
theorem gX5_goesHour_X5_drifts : GoodIn wsX5_goesHour (wsV RX5 191 RX5 yX5_drifts wsX5_drifts) := goodIn_app (goodIn_of _ (by decide +kernel)) ggX5_goesHour_X5_drifts
set_option maxRecDepth 20000 in
theorem ggX5_goesHour_X5_holder : GoodIn wsX5_goesHour wsX5_holder := goodIn_r _ [52, 17, 53, 54, 55, 10, 56, 2, 4, 57, 58, 59, 60, 61, 62, 63, 64, 65, 66, 67, 68, 69, 70, 71, 72, 73, 74, 75, 76, 77, 78, 79, 80, 81, 82, 83, 84, 85, 86, 87, 88, 89] (by decide +kernel) (by decide +kernel)
set_option maxRecDepth 20000 in
theorem gX5_goesHour_X5_holder : GoodIn wsX5_goesHour (wsV RX5 194 RX5 yX5_holder wsX5_holder) := goodIn_app (goodIn_of _ (by decide +kernel)) ggX5_goesHour_X5_holder
set_option maxRecDepth 20000 in
theorem ggX5_goesHour_X5_held : GoodIn wsX5_goesHour wsX5_held := goodIn_r _ [48] (by decide +kernel) (by decide +kernel)
set_option maxRecDepth 20000 in
theorem gX5_goesHour_X5_held : GoodIn wsX5_goesHour (va_wsS RX5 185 yX5_held wsX5_held) := goodIn_app (goodIn_of _ (by decide +kernel)) ggX5_goesHour_X5_held
theorem dX5_goesHour_0 : decode cX5_goesHour 0 = .ok (.aload_n 0, 1) := by decide +kernel
theorem dX5_goesHour_1 : decode cX5_goesHour 1 = .ok (.aload_n 0, 1) := by decide +kernel
theorem dX5_goesHour_2 : decode cX5_goesHour 2 = .ok (.getfield 62, 3) := by decide +kernel
theorem dX5_goesHour_5 : decode cX5_goesHour 5 = .ok (.invokevirtual 188, 3) := by decide +kernel
theorem dX5_goesHour_8 : decode cX5_goesHour 8 = .ok (.istore_n 2, 1) := by decide +kernel
theorem dX5_goesHour_9 : decode cX5_goesHour 9 = .ok (.iconst 0, 1) := by decide +kernel
theorem dX5_goesHour_10 : decode cX5_goesHour 10 = .ok (.istore_n 3, 1) := by decide +kernel
theorem dX5_goesHour_11 : decode cX5_goesHour 11 = .ok (.iload_n 3, 1) := by decide +kernel
theorem dX5_goesHour_12 : decode cX5_goesHour 12 = .ok (.aload_n 0, 1) := by decide +kernel
theorem dX5_goesHour_13 : decode cX5_goesHour 13 = .ok (.getfield 67, 3) := by decide +kernel
theorem dX5_goesHour_16 : decode cX5_goesHour 16 = .ok (.if_icmp .ge 39, 3) := by decide +kernel
theorem dX5_goesHour_19 : decode cX5_goesHour 19 = .ok (.aload_n 0, 1) := by decide +kernel
theorem dX5_goesHour_20 : decode cX5_goesHour 20 = .ok (.getfield 22, 3) := by decide +kernel
theorem dX5_goesHour_23 : decode cX5_goesHour 23 = .ok (.iload_n 3, 1) := by decide +kernel
theorem dX5_goesHour_24 : decode cX5_goesHour 24 = .ok (.dup2, 1) := by decide +kernel
theorem dX5_goesHour_25 : decode cX5_goesHour 25 = .ok (.iaload, 1) := by decide +kernel
theorem dX5_goesHour_26 : decode cX5_goesHour 26 = .ok (.aload_n 0, 1) := by decide +kernel
theorem dX5_goesHour_27 : decode cX5_goesHour 27 = .ok (.iload_n 3, 1) := by decide +kernel
theorem dX5_goesHour_28 : decode cX5_goesHour 28 = .ok (.aload_n 0, 1) := by decide +kernel
theorem dX5_goesHour_29 : decode cX5_goesHour 29 = .ok (.getfield 62, 3) := by decide +kernel
theorem dX5_goesHour_32 : decode cX5_goesHour 32 = .ok (.invokevirtual 176, 3) := by decide +kernel
theorem dX5_goesHour_35 : decode cX5_goesHour 35 = .ok (.ifCond .le 11, 3) := by decide +kernel
theorem dX5_goesHour_38 : decode cX5_goesHour 38 = .ok (.aload_n 0, 1) := by decide +kernel
theorem dX5_goesHour_39 : decode cX5_goesHour 39 = .ok (.iload_n 3, 1) := by decide +kernel
theorem dX5_goesHour_40 : decode cX5_goesHour 40 = .ok (.invokevirtual 169, 3) := by decide +kernel
theorem dX5_goesHour_43 : decode cX5_goesHour 43 = .ok (.goto 4, 3) := by decide +kernel
theorem dX5_goesHour_46 : decode cX5_goesHour 46 = .ok (.iconst 0, 1) := by decide +kernel
theorem dX5_goesHour_47 : decode cX5_goesHour 47 = .ok (.isub, 1) := by decide +kernel
theorem dX5_goesHour_48 : decode cX5_goesHour 48 = .ok (.iastore, 1) := by decide +kernel
theorem dX5_goesHour_49 : decode cX5_goesHour 49 = .ok (.iinc 3 1, 3) := by decide +kernel
theorem dX5_goesHour_52 : decode cX5_goesHour 52 = .ok (.goto (-41), 3) := by decide +kernel
theorem dX5_goesHour_55 : decode cX5_goesHour 55 = .ok (.iload_n 2, 1) := by decide +kernel
theorem dX5_goesHour_56 : decode cX5_goesHour 56 = .ok (.ifCond .lt 14, 3) := by decide +kernel
theorem dX5_goesHour_59 : decode cX5_goesHour 59 = .ok (.aload_n 0, 1) := by decide +kernel
theorem dX5_goesHour_60 : decode cX5_goesHour 60 = .ok (.aload_n 0, 1) := by decide +kernel
theorem dX5_goesHour_61 : decode cX5_goesHour 61 = .ok (.getfield 19, 3) := by decide +kernel
theorem dX5_goesHour_64 : decode cX5_goesHour 64 = .ok (.iload_n 2, 1) := by decide +kernel
theorem dX5_goesHour_65 : decode cX5_goesHour 65 = .ok (.iaload, 1) := by decide +kernel
theorem dX5_goesHour_66 : decode cX5_goesHour 66 = .ok (.iload_n 1, 1) := by decide +kernel
theorem dX5_goesHour_67 : decode cX5_goesHour 67 = .ok (.invokevirtual 191, 3) := by decide +kernel
theorem dX5_goesHour_70 : decode cX5_goesHour 70 = .ok (.aload_n 0, 1) := by decide +kernel
theorem dX5_goesHour_71 : decode cX5_goesHour 71 = .ok (.dup, 1) := by decide +kernel
theorem dX5_goesHour_72 : decode cX5_goesHour 72 = .ok (.getfield 62, 3) := by decide +kernel
theorem dX5_goesHour_75 : decode cX5_goesHour 75 = .ok (.iconst 1, 1) := by decide +kernel
theorem dX5_goesHour_76 : decode cX5_goesHour 76 = .ok (.iadd, 1) := by decide +kernel
theorem dX5_goesHour_77 : decode cX5_goesHour 77 = .ok (.putfield 62, 3) := by decide +kernel
theorem dX5_goesHour_80 : decode cX5_goesHour 80 = .ok (.aload_n 0, 1) := by decide +kernel
theorem dX5_goesHour_81 : decode cX5_goesHour 81 = .ok (.getfield 62, 3) := by decide +kernel
theorem dX5_goesHour_84 : decode cX5_goesHour 84 = .ok (.bipush 24, 2) := by decide +kernel
theorem dX5_goesHour_86 : decode cX5_goesHour 86 = .ok (.if_icmp .ne 18, 3) := by decide +kernel
theorem dX5_goesHour_89 : decode cX5_goesHour 89 = .ok (.aload_n 0, 1) := by decide +kernel
theorem dX5_goesHour_90 : decode cX5_goesHour 90 = .ok (.iconst 0, 1) := by decide +kernel
theorem dX5_goesHour_91 : decode cX5_goesHour 91 = .ok (.putfield 62, 3) := by decide +kernel
theorem dX5_goesHour_94 : decode cX5_goesHour 94 = .ok (.aload_n 0, 1) := by decide +kernel
theorem dX5_goesHour_95 : decode cX5_goesHour 95 = .ok (.dup, 1) := by decide +kernel
theorem dX5_goesHour_96 : decode cX5_goesHour 96 = .ok (.getfield 160, 3) := by decide +kernel
theorem dX5_goesHour_99 : decode cX5_goesHour 99 = .ok (.iconst 1, 1) := by decide +kernel
theorem dX5_goesHour_100 : decode cX5_goesHour 100 = .ok (.iadd, 1) := by decide +kernel
theorem dX5_goesHour_101 : decode cX5_goesHour 101 = .ok (.putfield 160, 3) := by decide +kernel
theorem dX5_goesHour_104 : decode cX5_goesHour 104 = .ok (.aload_n 0, 1) := by decide +kernel
theorem dX5_goesHour_105 : decode cX5_goesHour 105 = .ok (.invokevirtual 194, 3) := by decide +kernel
theorem dX5_goesHour_108 : decode cX5_goesHour 108 = .ok (.istore_n 3, 1) := by decide +kernel
theorem dX5_goesHour_109 : decode cX5_goesHour 109 = .ok (.iload_n 3, 1) := by decide +kernel
theorem dX5_goesHour_110 : decode cX5_goesHour 110 = .ok (.ifCond .lt 24, 3) := by decide +kernel
theorem dX5_goesHour_113 : decode cX5_goesHour 113 = .ok (.aload_n 0, 1) := by decide +kernel
theorem dX5_goesHour_114 : decode cX5_goesHour 114 = .ok (.getfield 25, 3) := by decide +kernel
theorem dX5_goesHour_117 : decode cX5_goesHour 117 = .ok (.iload_n 3, 1) := by decide +kernel
theorem dX5_goesHour_118 : decode cX5_goesHour 118 = .ok (.aload_n 0, 1) := by decide +kernel
theorem dX5_goesHour_119 : decode cX5_goesHour 119 = .ok (.getfield 25, 3) := by decide +kernel
theorem dX5_goesHour_122 : decode cX5_goesHour 122 = .ok (.iload_n 3, 1) := by decide +kernel
theorem dX5_goesHour_123 : decode cX5_goesHour 123 = .ok (.iaload, 1) := by decide +kernel
theorem dX5_goesHour_124 : decode cX5_goesHour 124 = .ok (.iconst 1, 1) := by decide +kernel
theorem dX5_goesHour_125 : decode cX5_goesHour 125 = .ok (.iadd, 1) := by decide +kernel
theorem dX5_goesHour_126 : decode cX5_goesHour 126 = .ok (.iconst 0, 1) := by decide +kernel
theorem dX5_goesHour_127 : decode cX5_goesHour 127 = .ok (.sipush 999, 3) := by decide +kernel
theorem dX5_goesHour_130 : decode cX5_goesHour 130 = .ok (.invokestatic 185, 3) := by decide +kernel
theorem dX5_goesHour_133 : decode cX5_goesHour 133 = .ok (.iastore, 1) := by decide +kernel
theorem dX5_goesHour_134 : decode cX5_goesHour 134 = .ok (.return_, 1) := by decide +kernel
set_option maxRecDepth 20000 in
theorem ggX5_goes_X5_goesHour : GoodIn wsX5_goes wsX5_goesHour := goodIn_r _ [5, 6, 7, 8, 9, 10, 11, 12, 13, 14, 4, 15, 16, 17, 18, 19, 20, 21, 22, 23, 24, 25, 26, 27, 28, 29, 30, 31, 32, 33, 34, 35, 36, 37, 38, 39, 40, 41, 42, 43, 44, 45, 46, 47, 48, 49, 50, 51, 52, 53, 54, 55, 56, 57, 58, 59, 60, 61, 62, 63, 64, 65, 66, 67, 68, 69, 70, 71, 72, 73, 74, 75, 76, 77, 78, 79, 80, 81, 82, 83, 84, 85, 86, 87, 88, 89, 90, 91, 92, 93] (by decide +kernel) (by decide +kernel)
set_option maxRecDepth 20000 in
theorem gX5_goes_X5_goesHour : GoodIn wsX5_goes (wsV RX5 197 RX5 yX5_goesHour wsX5_goesHour) := goodIn_app (goodIn_of _ (by decide +kernel)) ggX5_goes_X5_goesHour
theorem dX5_goes_0 : decode cX5_goes 0 = .ok (.iconst 0, 1) := by decide +kernel
theorem dX5_goes_1 : decode cX5_goes 1 = .ok (.istore_n 2, 1) := by decide +kernel
theorem dX5_goes_2 : decode cX5_goes 2 = .ok (.iload_n 2, 1) := by decide +kernel
theorem dX5_goes_3 : decode cX5_goes 3 = .ok (.iload_n 1, 1) := by decide +kernel
theorem dX5_goes_4 : decode cX5_goes 4 = .ok (.if_icmp .ge 14, 3) := by decide +kernel
theorem dX5_goes_7 : decode cX5_goes 7 = .ok (.aload_n 0, 1) := by decide +kernel
theorem dX5_goes_8 : decode cX5_goes 8 = .ok (.iconst 0, 1) := by decide +kernel
theorem dX5_goes_9 : decode cX5_goes 9 = .ok (.invokevirtual 197, 3) := by decide +kernel
theorem dX5_goes_12 : decode cX5_goes 12 = .ok (.iinc 2 1, 3) := by decide +kernel
theorem dX5_goes_15 : decode cX5_goes 15 = .ok (.goto (-13), 3) := by decide +kernel
theorem dX5_goes_18 : decode cX5_goes 18 = .ok (.return_, 1) := by decide +kernel
theorem dX5_isLate_0 : decode cX5_isLate 0 = .ok (.aload_n 0, 1) := by decide +kernel
theorem dX5_isLate_1 : decode cX5_isLate 1 = .ok (.getfield 160, 3) := by decide +kernel
theorem dX5_isLate_4 : decode cX5_isLate 4 = .ok (.aload_n 0, 1) := by decide +kernel
theorem dX5_isLate_5 : decode cX5_isLate 5 = .ok (.getfield 62, 3) := by decide +kernel
theorem dX5_isLate_8 : decode cX5_isLate 8 = .ok (.iload_n 1, 1) := by decide +kernel
theorem dX5_isLate_9 : decode cX5_isLate 9 = .ok (.iadd, 1) := by decide +kernel
theorem dX5_isLate_10 : decode cX5_isLate 10 = .ok (.bipush 24, 2) := by decide +kernel
theorem dX5_isLate_12 : decode cX5_isLate 12 = .ok (.idiv, 1) := by decide +kernel
theorem dX5_isLate_13 : decode cX5_isLate 13 = .ok (.iadd, 1) := by decide +kernel
theorem dX5_isLate_14 : decode cX5_isLate 14 = .ok (.sipush 999, 3) := by decide +kernel
theorem dX5_isLate_17 : decode cX5_isLate 17 = .ok (.if_icmp .le 7, 3) := by decide +kernel
theorem dX5_isLate_20 : decode cX5_isLate 20 = .ok (.iconst 1, 1) := by decide +kernel
theorem dX5_isLate_21 : decode cX5_isLate 21 = .ok (.goto 4, 3) := by decide +kernel
theorem dX5_isLate_24 : decode cX5_isLate 24 = .ok (.iconst 0, 1) := by decide +kernel
theorem dX5_isLate_25 : decode cX5_isLate 25 = .ok (.ireturn, 1) := by decide +kernel
set_option maxRecDepth 20000 in
theorem ggX5_shoreOf_X5_isShore : GoodIn wsX5_shoreOf wsX5_isShore := goodIn_r _ [12, 13, 23, 24, 25, 26, 27, 28, 29, 30, 31, 32, 33, 34, 35, 36, 37, 38, 39, 40, 41, 42, 43, 44, 45, 46, 47, 48, 49, 50, 51, 52, 53, 54, 55] (by decide +kernel) (by decide +kernel)
set_option maxRecDepth 20000 in
theorem gX5_shoreOf_X5_isShore : GoodIn wsX5_shoreOf (wsV RX5 123 RX5 yX5_isShore wsX5_isShore) := goodIn_app (goodIn_of _ (by decide +kernel)) ggX5_shoreOf_X5_isShore
set_option maxRecDepth 20000 in
theorem ggX5_shoreOf_X5_no : GoodIn wsX5_shoreOf wsX5_no := goodIn_r _ [17, 18, 23, 24, 25, 26, 27, 28, 29, 30, 31, 32, 33, 34, 35, 36, 37, 38, 39, 40, 41, 42, 43, 44, 45, 46, 47, 48, 49, 50, 51, 52, 53, 54, 55] (by decide +kernel) (by decide +kernel)
set_option maxRecDepth 20000 in
theorem gX5_shoreOf_X5_no : GoodIn wsX5_shoreOf (wsV RX5 77 RX5 yX5_no wsX5_no) := goodIn_app (goodIn_of _ (by decide +kernel)) ggX5_shoreOf_X5_no
set_option maxRecDepth 20000 in
theorem ggX5_shoreOf_X5_costsOf : GoodIn wsX5_shoreOf wsX5_costsOf := goodIn_r _ [22, 1, 2, 23, 24, 25, 26, 27, 28, 29, 30, 31, 32, 33, 34, 35, 36, 37, 38, 39, 40, 41, 42, 43, 44, 45, 46, 47, 48, 49, 50, 51, 52, 53, 54, 55] (by decide +kernel) (by decide +kernel)
set_option maxRecDepth 20000 in
theorem gX5_shoreOf_X5_costsOf : GoodIn wsX5_shoreOf (wsV RX5 169 RX5 yX5_costsOf wsX5_costsOf) := goodIn_app (goodIn_of _ (by decide +kernel)) ggX5_shoreOf_X5_costsOf
theorem dX5_shoreOf_0 : decode cX5_shoreOf 0 = .ok (.aload_n 0, 1) := by decide +kernel
theorem dX5_shoreOf_1 : decode cX5_shoreOf 1 = .ok (.iload_n 1, 1) := by decide +kernel
theorem dX5_shoreOf_2 : decode cX5_shoreOf 2 = .ok (.invokevirtual 123, 3) := by decide +kernel
theorem dX5_shoreOf_5 : decode cX5_shoreOf 5 = .ok (.ifCond .ne 9, 3) := by decide +kernel
theorem dX5_shoreOf_8 : decode cX5_shoreOf 8 = .ok (.aload_n 0, 1) := by decide +kernel
theorem dX5_shoreOf_9 : decode cX5_shoreOf 9 = .ok (.iconst (-1), 1) := by decide +kernel
theorem dX5_shoreOf_10 : decode cX5_shoreOf 10 = .ok (.invokevirtual 77, 3) := by decide +kernel
theorem dX5_shoreOf_13 : decode cX5_shoreOf 13 = .ok (.ireturn, 1) := by decide +kernel
theorem dX5_shoreOf_14 : decode cX5_shoreOf 14 = .ok (.iload_n 2, 1) := by decide +kernel
theorem dX5_shoreOf_15 : decode cX5_shoreOf 15 = .ok (.tableswitch 114 0 7 #[45, 52, 59, 66, 73, 82, 89, 95], 45) := by decide +kernel
theorem dX5_shoreOf_60 : decode cX5_shoreOf 60 = .ok (.aload_n 0, 1) := by decide +kernel
theorem dX5_shoreOf_61 : decode cX5_shoreOf 61 = .ok (.getfield 13, 3) := by decide +kernel
theorem dX5_shoreOf_64 : decode cX5_shoreOf 64 = .ok (.iload_n 1, 1) := by decide +kernel
theorem dX5_shoreOf_65 : decode cX5_shoreOf 65 = .ok (.iaload, 1) := by decide +kernel
theorem dX5_shoreOf_66 : decode cX5_shoreOf 66 = .ok (.ireturn, 1) := by decide +kernel
theorem dX5_shoreOf_67 : decode cX5_shoreOf 67 = .ok (.aload_n 0, 1) := by decide +kernel
theorem dX5_shoreOf_68 : decode cX5_shoreOf 68 = .ok (.getfield 16, 3) := by decide +kernel
theorem dX5_shoreOf_71 : decode cX5_shoreOf 71 = .ok (.iload_n 1, 1) := by decide +kernel
theorem dX5_shoreOf_72 : decode cX5_shoreOf 72 = .ok (.iaload, 1) := by decide +kernel
theorem dX5_shoreOf_73 : decode cX5_shoreOf 73 = .ok (.ireturn, 1) := by decide +kernel
theorem dX5_shoreOf_74 : decode cX5_shoreOf 74 = .ok (.aload_n 0, 1) := by decide +kernel
theorem dX5_shoreOf_75 : decode cX5_shoreOf 75 = .ok (.getfield 19, 3) := by decide +kernel
theorem dX5_shoreOf_78 : decode cX5_shoreOf 78 = .ok (.iload_n 1, 1) := by decide +kernel
theorem dX5_shoreOf_79 : decode cX5_shoreOf 79 = .ok (.iaload, 1) := by decide +kernel
theorem dX5_shoreOf_80 : decode cX5_shoreOf 80 = .ok (.ireturn, 1) := by decide +kernel
theorem dX5_shoreOf_81 : decode cX5_shoreOf 81 = .ok (.aload_n 0, 1) := by decide +kernel
theorem dX5_shoreOf_82 : decode cX5_shoreOf 82 = .ok (.getfield 22, 3) := by decide +kernel
theorem dX5_shoreOf_85 : decode cX5_shoreOf 85 = .ok (.iload_n 1, 1) := by decide +kernel
theorem dX5_shoreOf_86 : decode cX5_shoreOf 86 = .ok (.iaload, 1) := by decide +kernel
theorem dX5_shoreOf_87 : decode cX5_shoreOf 87 = .ok (.ireturn, 1) := by decide +kernel
theorem dX5_shoreOf_88 : decode cX5_shoreOf 88 = .ok (.aload_n 0, 1) := by decide +kernel
theorem dX5_shoreOf_89 : decode cX5_shoreOf 89 = .ok (.getfield 126, 3) := by decide +kernel
theorem dX5_shoreOf_92 : decode cX5_shoreOf 92 = .ok (.iload_n 1, 1) := by decide +kernel
theorem dX5_shoreOf_93 : decode cX5_shoreOf 93 = .ok (.ishr, 1) := by decide +kernel
theorem dX5_shoreOf_94 : decode cX5_shoreOf 94 = .ok (.iconst 1, 1) := by decide +kernel
theorem dX5_shoreOf_95 : decode cX5_shoreOf 95 = .ok (.iand, 1) := by decide +kernel
theorem dX5_shoreOf_96 : decode cX5_shoreOf 96 = .ok (.ireturn, 1) := by decide +kernel
theorem dX5_shoreOf_97 : decode cX5_shoreOf 97 = .ok (.aload_n 0, 1) := by decide +kernel
theorem dX5_shoreOf_98 : decode cX5_shoreOf 98 = .ok (.getfield 25, 3) := by decide +kernel
theorem dX5_shoreOf_101 : decode cX5_shoreOf 101 = .ok (.iload_n 1, 1) := by decide +kernel
theorem dX5_shoreOf_102 : decode cX5_shoreOf 102 = .ok (.iaload, 1) := by decide +kernel
theorem dX5_shoreOf_103 : decode cX5_shoreOf 103 = .ok (.ireturn, 1) := by decide +kernel
theorem dX5_shoreOf_104 : decode cX5_shoreOf 104 = .ok (.aload_n 0, 1) := by decide +kernel
theorem dX5_shoreOf_105 : decode cX5_shoreOf 105 = .ok (.iload_n 1, 1) := by decide +kernel
theorem dX5_shoreOf_106 : decode cX5_shoreOf 106 = .ok (.invokevirtual 169, 3) := by decide +kernel
theorem dX5_shoreOf_109 : decode cX5_shoreOf 109 = .ok (.ireturn, 1) := by decide +kernel
theorem dX5_shoreOf_110 : decode cX5_shoreOf 110 = .ok (.aload_n 0, 1) := by decide +kernel
theorem dX5_shoreOf_111 : decode cX5_shoreOf 111 = .ok (.getfield 19, 3) := by decide +kernel
theorem dX5_shoreOf_114 : decode cX5_shoreOf 114 = .ok (.iload_n 1, 1) := by decide +kernel
theorem dX5_shoreOf_115 : decode cX5_shoreOf 115 = .ok (.iaload, 1) := by decide +kernel
theorem dX5_shoreOf_116 : decode cX5_shoreOf 116 = .ok (.aload_n 0, 1) := by decide +kernel
theorem dX5_shoreOf_117 : decode cX5_shoreOf 117 = .ok (.getfield 55, 3) := by decide +kernel
theorem dX5_shoreOf_120 : decode cX5_shoreOf 120 = .ok (.if_icmp .ne 7, 3) := by decide +kernel
theorem dX5_shoreOf_123 : decode cX5_shoreOf 123 = .ok (.iconst 1, 1) := by decide +kernel
theorem dX5_shoreOf_124 : decode cX5_shoreOf 124 = .ok (.goto 4, 3) := by decide +kernel
theorem dX5_shoreOf_127 : decode cX5_shoreOf 127 = .ok (.iconst 0, 1) := by decide +kernel
theorem dX5_shoreOf_128 : decode cX5_shoreOf 128 = .ok (.ireturn, 1) := by decide +kernel
theorem dX5_shoreOf_129 : decode cX5_shoreOf 129 = .ok (.aload_n 0, 1) := by decide +kernel
theorem dX5_shoreOf_130 : decode cX5_shoreOf 130 = .ok (.bipush (-2), 2) := by decide +kernel
theorem dX5_shoreOf_132 : decode cX5_shoreOf 132 = .ok (.invokevirtual 77, 3) := by decide +kernel
theorem dX5_shoreOf_135 : decode cX5_shoreOf 135 = .ok (.ireturn, 1) := by decide +kernel
set_option maxRecDepth 20000 in
theorem ggX5_isleOf_X5_holder : GoodIn wsX5_isleOf wsX5_holder := goodIn_r _ [7, 1, 8, 9, 10, 6, 11, 12, 13, 19, 20, 21, 22, 23, 24, 25, 26, 27, 28, 29, 30, 31, 32, 33, 34, 35, 36, 37, 38, 39, 40, 41, 42, 43, 44, 45, 46, 47, 48, 49, 50, 51] (by decide +kernel) (by decide +kernel)
set_option maxRecDepth 20000 in
theorem gX5_isleOf_X5_holder : GoodIn wsX5_isleOf (wsV RX5 194 RX5 yX5_holder wsX5_holder) := goodIn_app (goodIn_of _ (by decide +kernel)) ggX5_isleOf_X5_holder
set_option maxRecDepth 20000 in
theorem ggX5_isleOf_X5_no : GoodIn wsX5_isleOf wsX5_no := goodIn_r _ [17, 18, 19, 20, 21, 22, 23, 24, 25, 26, 27, 28, 29, 30, 31, 32, 33, 34, 35, 36, 37, 38, 39, 40, 41, 42, 43, 44, 45, 46, 47, 48, 49, 50, 51] (by decide +kernel) (by decide +kernel)
set_option maxRecDepth 20000 in
theorem gX5_isleOf_X5_no : GoodIn wsX5_isleOf (wsV RX5 77 RX5 yX5_no wsX5_no) := goodIn_app (goodIn_of _ (by decide +kernel)) ggX5_isleOf_X5_no
theorem dX5_isleOf_0 : decode cX5_isleOf 0 = .ok (.iload_n 1, 1) := by decide +kernel
theorem dX5_isleOf_1 : decode cX5_isleOf 1 = .ok (.ifCond .ne 10, 3) := by decide +kernel
theorem dX5_isleOf_4 : decode cX5_isleOf 4 = .ok (.aload_n 0, 1) := by decide +kernel
theorem dX5_isleOf_5 : decode cX5_isleOf 5 = .ok (.getfield 55, 3) := by decide +kernel
theorem dX5_isleOf_8 : decode cX5_isleOf 8 = .ok (.goto 33, 3) := by decide +kernel
theorem dX5_isleOf_11 : decode cX5_isleOf 11 = .ok (.iload_n 1, 1) := by decide +kernel
theorem dX5_isleOf_12 : decode cX5_isleOf 12 = .ok (.iconst 1, 1) := by decide +kernel
theorem dX5_isleOf_13 : decode cX5_isleOf 13 = .ok (.if_icmp .ne 10, 3) := by decide +kernel
theorem dX5_isleOf_16 : decode cX5_isleOf 16 = .ok (.aload_n 0, 1) := by decide +kernel
theorem dX5_isleOf_17 : decode cX5_isleOf 17 = .ok (.getfield 59, 3) := by decide +kernel
theorem dX5_isleOf_20 : decode cX5_isleOf 20 = .ok (.goto 21, 3) := by decide +kernel
theorem dX5_isleOf_23 : decode cX5_isleOf 23 = .ok (.iload_n 1, 1) := by decide +kernel
theorem dX5_isleOf_24 : decode cX5_isleOf 24 = .ok (.iconst 2, 1) := by decide +kernel
theorem dX5_isleOf_25 : decode cX5_isleOf 25 = .ok (.if_icmp .ne 10, 3) := by decide +kernel
theorem dX5_isleOf_28 : decode cX5_isleOf 28 = .ok (.aload_n 0, 1) := by decide +kernel
theorem dX5_isleOf_29 : decode cX5_isleOf 29 = .ok (.invokevirtual 194, 3) := by decide +kernel
theorem dX5_isleOf_32 : decode cX5_isleOf 32 = .ok (.goto 9, 3) := by decide +kernel
theorem dX5_isleOf_35 : decode cX5_isleOf 35 = .ok (.aload_n 0, 1) := by decide +kernel
theorem dX5_isleOf_36 : decode cX5_isleOf 36 = .ok (.bipush (-2), 2) := by decide +kernel
theorem dX5_isleOf_38 : decode cX5_isleOf 38 = .ok (.invokevirtual 77, 3) := by decide +kernel
theorem dX5_isleOf_41 : decode cX5_isleOf 41 = .ok (.ireturn, 1) := by decide +kernel
set_option maxRecDepth 20000 in
theorem ggX5_shore_X5_isIn : GoodIn wsX5_shore wsX5_isIn := goodIn_r _ [6] (by decide +kernel) (by decide +kernel)
set_option maxRecDepth 20000 in
theorem gX5_shore_X5_isIn : GoodIn wsX5_shore (va_wsS RX5 88 yX5_isIn wsX5_isIn) := goodIn_app (goodIn_of _ (by decide +kernel)) ggX5_shore_X5_isIn
set_option maxRecDepth 20000 in
theorem ggX5_shore_X5_bound : GoodIn wsX5_shore wsX5_bound := goodIn_r _ [9] (by decide +kernel) (by decide +kernel)
set_option maxRecDepth 20000 in
theorem gX5_shore_X5_bound : GoodIn wsX5_shore (va_wsS RX5 70 yX5_bound wsX5_bound) := goodIn_app (goodIn_of _ (by decide +kernel)) ggX5_shore_X5_bound
set_option maxRecDepth 20000 in
theorem ggX5_shore_X5_isPlace : GoodIn wsX5_shore wsX5_isPlace := goodIn_r _ [12] (by decide +kernel) (by decide +kernel)
set_option maxRecDepth 20000 in
theorem gX5_shore_X5_isPlace : GoodIn wsX5_shore (va_wsS RX5 102 yX5_isPlace wsX5_isPlace) := goodIn_app (goodIn_of _ (by decide +kernel)) ggX5_shore_X5_isPlace
set_option maxRecDepth 20000 in
theorem ggX5_shore_X5_shoreAt : GoodIn wsX5_shore wsX5_shoreAt := goodIn_r _ [16, 1, 17, 32, 33, 34, 35, 36, 37, 38, 39, 40, 41, 42, 43, 44, 45, 46, 47, 48, 49, 50, 51, 52, 53, 54, 55, 56, 57, 58, 59, 60, 61, 62, 63, 64] (by decide +kernel) (by decide +kernel)
set_option maxRecDepth 20000 in
theorem gX5_shore_X5_shoreAt : GoodIn wsX5_shore (wsV RX5 106 RX5 yX5_shoreAt wsX5_shoreAt) := goodIn_app (goodIn_of _ (by decide +kernel)) ggX5_shore_X5_shoreAt
set_option maxRecDepth 20000 in
theorem ggX5_shore_X5_no : GoodIn wsX5_shore wsX5_no := goodIn_r _ [21, 22, 32, 33, 34, 35, 36, 37, 38, 39, 40, 41, 42, 43, 44, 45, 46, 47, 48, 49, 50, 51, 52, 53, 54, 55, 56, 57, 58, 59, 60, 61, 62, 63, 64] (by decide +kernel) (by decide +kernel)
set_option maxRecDepth 20000 in
theorem gX5_shore_X5_no : GoodIn wsX5_shore (wsV RX5 77 RX5 yX5_no wsX5_no) := goodIn_app (goodIn_of _ (by decide +kernel)) ggX5_shore_X5_no
set_option maxRecDepth 20000 in
theorem ggX5_shore_X5_adds : GoodIn wsX5_shore wsX5_adds := goodIn_r _ [26, 27, 1, 28, 17, 29, 30, 31, 32, 33, 34, 35, 36, 37, 38, 39, 40, 41, 42, 43, 44, 45, 46, 47, 48, 49, 50, 51, 52, 53, 54, 55, 56, 57, 58, 59, 60, 61, 62, 63, 64] (by decide +kernel) (by decide +kernel)
set_option maxRecDepth 20000 in
theorem gX5_shore_X5_adds : GoodIn wsX5_shore (wsV RX5 109 RX5 yX5_adds wsX5_adds) := goodIn_app (goodIn_of _ (by decide +kernel)) ggX5_shore_X5_adds
theorem dX5_shore_0 : decode cX5_shore 0 = .ok (.iload_n 1, 1) := by decide +kernel
theorem dX5_shore_1 : decode cX5_shore 1 = .ok (.iconst 0, 1) := by decide +kernel
theorem dX5_shore_2 : decode cX5_shore 2 = .ok (.iconst 5, 1) := by decide +kernel
theorem dX5_shore_3 : decode cX5_shore 3 = .ok (.invokestatic 88, 3) := by decide +kernel
theorem dX5_shore_6 : decode cX5_shore 6 = .ok (.ifCond .ne 8, 3) := by decide +kernel
theorem dX5_shore_9 : decode cX5_shore 9 = .ok (.bipush (-2), 2) := by decide +kernel
theorem dX5_shore_11 : decode cX5_shore 11 = .ok (.goto 10, 3) := by decide +kernel
theorem dX5_shore_14 : decode cX5_shore 14 = .ok (.iload_n 2, 1) := by decide +kernel
theorem dX5_shore_15 : decode cX5_shore 15 = .ok (.iconst 0, 1) := by decide +kernel
theorem dX5_shore_16 : decode cX5_shore 16 = .ok (.bipush 9, 2) := by decide +kernel
theorem dX5_shore_18 : decode cX5_shore 18 = .ok (.invokestatic 70, 3) := by decide +kernel
theorem dX5_shore_21 : decode cX5_shore 21 = .ok (.istore 4, 2) := by decide +kernel
theorem dX5_shore_23 : decode cX5_shore 23 = .ok (.iload 4, 2) := by decide +kernel
theorem dX5_shore_25 : decode cX5_shore 25 = .ok (.ifCond .ne 16, 3) := by decide +kernel
theorem dX5_shore_28 : decode cX5_shore 28 = .ok (.aload_n 0, 1) := by decide +kernel
theorem dX5_shore_29 : decode cX5_shore 29 = .ok (.getfield 67, 3) := by decide +kernel
theorem dX5_shore_32 : decode cX5_shore 32 = .ok (.bipush 7, 2) := by decide +kernel
theorem dX5_shore_34 : decode cX5_shore 34 = .ok (.if_icmp .ne 7, 3) := by decide +kernel
theorem dX5_shore_37 : decode cX5_shore 37 = .ok (.bipush (-6), 2) := by decide +kernel
theorem dX5_shore_39 : decode cX5_shore 39 = .ok (.istore 4, 2) := by decide +kernel
theorem dX5_shore_41 : decode cX5_shore 41 = .ok (.iload 4, 2) := by decide +kernel
theorem dX5_shore_43 : decode cX5_shore 43 = .ok (.ifCond .ne 30, 3) := by decide +kernel
theorem dX5_shore_46 : decode cX5_shore 46 = .ok (.iload_n 3, 1) := by decide +kernel
theorem dX5_shore_47 : decode cX5_shore 47 = .ok (.invokestatic 102, 3) := by decide +kernel
theorem dX5_shore_50 : decode cX5_shore 50 = .ok (.ifCond .ne 7, 3) := by decide +kernel
theorem dX5_shore_53 : decode cX5_shore 53 = .ok (.iconst (-1), 1) := by decide +kernel
theorem dX5_shore_54 : decode cX5_shore 54 = .ok (.goto 17, 3) := by decide +kernel
theorem dX5_shore_57 : decode cX5_shore 57 = .ok (.aload_n 0, 1) := by decide +kernel
theorem dX5_shore_58 : decode cX5_shore 58 = .ok (.iload_n 3, 1) := by decide +kernel
theorem dX5_shore_59 : decode cX5_shore 59 = .ok (.invokevirtual 106, 3) := by decide +kernel
theorem dX5_shore_62 : decode cX5_shore 62 = .ok (.ifCond .lt 8, 3) := by decide +kernel
theorem dX5_shore_65 : decode cX5_shore 65 = .ok (.bipush (-3), 2) := by decide +kernel
theorem dX5_shore_67 : decode cX5_shore 67 = .ok (.goto 4, 3) := by decide +kernel
theorem dX5_shore_70 : decode cX5_shore 70 = .ok (.iconst 0, 1) := by decide +kernel
theorem dX5_shore_71 : decode cX5_shore 71 = .ok (.istore 4, 2) := by decide +kernel
theorem dX5_shore_73 : decode cX5_shore 73 = .ok (.iload 4, 2) := by decide +kernel
theorem dX5_shore_75 : decode cX5_shore 75 = .ok (.ifCond .eq 10, 3) := by decide +kernel
theorem dX5_shore_78 : decode cX5_shore 78 = .ok (.aload_n 0, 1) := by decide +kernel
theorem dX5_shore_79 : decode cX5_shore 79 = .ok (.iload 4, 2) := by decide +kernel
theorem dX5_shore_81 : decode cX5_shore 81 = .ok (.invokevirtual 77, 3) := by decide +kernel
theorem dX5_shore_84 : decode cX5_shore 84 = .ok (.ireturn, 1) := by decide +kernel
theorem dX5_shore_85 : decode cX5_shore 85 = .ok (.aload_n 0, 1) := by decide +kernel
theorem dX5_shore_86 : decode cX5_shore 86 = .ok (.iconst 0, 1) := by decide +kernel
theorem dX5_shore_87 : decode cX5_shore 87 = .ok (.putfield 143, 3) := by decide +kernel
theorem dX5_shore_90 : decode cX5_shore 90 = .ok (.aload_n 0, 1) := by decide +kernel
theorem dX5_shore_91 : decode cX5_shore 91 = .ok (.iload_n 1, 1) := by decide +kernel
theorem dX5_shore_92 : decode cX5_shore 92 = .ok (.iload_n 2, 1) := by decide +kernel
theorem dX5_shore_93 : decode cX5_shore 93 = .ok (.iload_n 3, 1) := by decide +kernel
theorem dX5_shore_94 : decode cX5_shore 94 = .ok (.invokevirtual 109, 3) := by decide +kernel
theorem dX5_shore_97 : decode cX5_shore 97 = .ok (.aload_n 0, 1) := by decide +kernel
theorem dX5_shore_98 : decode cX5_shore 98 = .ok (.getfield 67, 3) := by decide +kernel
theorem dX5_shore_101 : decode cX5_shore 101 = .ok (.iconst 1, 1) := by decide +kernel
theorem dX5_shore_102 : decode cX5_shore 102 = .ok (.isub, 1) := by decide +kernel
theorem dX5_shore_103 : decode cX5_shore 103 = .ok (.ireturn, 1) := by decide +kernel
set_option maxRecDepth 20000 in
theorem ggX5_powders_X5_isShore : GoodIn wsX5_powders wsX5_isShore := goodIn_r _ [6, 7, 45, 46, 47, 48, 49, 50, 51, 52, 53, 54, 55, 56, 57, 58, 59, 60, 61, 62, 63, 64, 65, 66, 67, 68, 69, 70, 71, 72, 73, 74, 75, 76, 77] (by decide +kernel) (by decide +kernel)
set_option maxRecDepth 20000 in
theorem gX5_powders_X5_isShore : GoodIn wsX5_powders (wsV RX5 123 RX5 yX5_isShore wsX5_isShore) := goodIn_app (goodIn_of _ (by decide +kernel)) ggX5_powders_X5_isShore
set_option maxRecDepth 20000 in
theorem ggX5_powders_X5_bound : GoodIn wsX5_powders wsX5_bound := goodIn_r _ [10] (by decide +kernel) (by decide +kernel)
set_option maxRecDepth 20000 in
theorem gX5_powders_X5_bound : GoodIn wsX5_powders (va_wsS RX5 70 yX5_bound wsX5_bound) := goodIn_app (goodIn_of _ (by decide +kernel)) ggX5_powders_X5_bound
set_option maxRecDepth 20000 in
theorem ggX5_powders_X5_no : GoodIn wsX5_powders wsX5_no := goodIn_r _ [14, 15, 45, 46, 47, 48, 49, 50, 51, 52, 53, 54, 55, 56, 57, 58, 59, 60, 61, 62, 63, 64, 65, 66, 67, 68, 69, 70, 71, 72, 73, 74, 75, 76, 77] (by decide +kernel) (by decide +kernel)
set_option maxRecDepth 20000 in
theorem gX5_powders_X5_no : GoodIn wsX5_powders (wsV RX5 77 RX5 yX5_no wsX5_no) := goodIn_app (goodIn_of _ (by decide +kernel)) ggX5_powders_X5_no
set_option maxRecDepth 20000 in
theorem ggX5_powders_X5_keepsBack : GoodIn wsX5_powders wsX5_keepsBack := goodIn_r _ [19, 20, 21, 22, 23, 24, 5, 25, 26, 27, 28, 29, 30, 1, 31, 7, 32, 33, 34, 35, 36, 37, 38, 39, 40, 41, 42, 43, 44, 45, 46, 47, 48, 49, 50, 51, 52, 53, 54, 55, 56, 57, 58, 59, 60, 61, 62, 63, 64, 65, 66, 67, 68, 69, 70, 71, 72, 73, 74, 75, 76, 77] (by decide +kernel) (by decide +kernel)
set_option maxRecDepth 20000 in
theorem gX5_powders_X5_keepsBack : GoodIn wsX5_powders (wsV RX5 201 RX5 yX5_keepsBack wsX5_keepsBack) := goodIn_app (goodIn_of _ (by decide +kernel)) ggX5_powders_X5_keepsBack
theorem dX5_powders_0 : decode cX5_powders 0 = .ok (.aload_n 0, 1) := by decide +kernel
theorem dX5_powders_1 : decode cX5_powders 1 = .ok (.iload_n 1, 1) := by decide +kernel
theorem dX5_powders_2 : decode cX5_powders 2 = .ok (.invokevirtual 123, 3) := by decide +kernel
theorem dX5_powders_5 : decode cX5_powders 5 = .ok (.ifCond .ne 7, 3) := by decide +kernel
theorem dX5_powders_8 : decode cX5_powders 8 = .ok (.iconst (-1), 1) := by decide +kernel
theorem dX5_powders_9 : decode cX5_powders 9 = .ok (.goto 10, 3) := by decide +kernel
theorem dX5_powders_12 : decode cX5_powders 12 = .ok (.iload_n 2, 1) := by decide +kernel
theorem dX5_powders_13 : decode cX5_powders 13 = .ok (.iconst 0, 1) := by decide +kernel
theorem dX5_powders_14 : decode cX5_powders 14 = .ok (.bipush 99, 2) := by decide +kernel
theorem dX5_powders_16 : decode cX5_powders 16 = .ok (.invokestatic 70, 3) := by decide +kernel
theorem dX5_powders_19 : decode cX5_powders 19 = .ok (.istore_n 3, 1) := by decide +kernel
theorem dX5_powders_20 : decode cX5_powders 20 = .ok (.iload_n 3, 1) := by decide +kernel
theorem dX5_powders_21 : decode cX5_powders 21 = .ok (.ifCond .eq 9, 3) := by decide +kernel
theorem dX5_powders_24 : decode cX5_powders 24 = .ok (.aload_n 0, 1) := by decide +kernel
theorem dX5_powders_25 : decode cX5_powders 25 = .ok (.iload_n 3, 1) := by decide +kernel
theorem dX5_powders_26 : decode cX5_powders 26 = .ok (.invokevirtual 77, 3) := by decide +kernel
theorem dX5_powders_29 : decode cX5_powders 29 = .ok (.ireturn, 1) := by decide +kernel
theorem dX5_powders_30 : decode cX5_powders 30 = .ok (.aload_n 0, 1) := by decide +kernel
theorem dX5_powders_31 : decode cX5_powders 31 = .ok (.invokevirtual 201, 3) := by decide +kernel
theorem dX5_powders_34 : decode cX5_powders 34 = .ok (.aload_n 0, 1) := by decide +kernel
theorem dX5_powders_35 : decode cX5_powders 35 = .ok (.getfield 22, 3) := by decide +kernel
theorem dX5_powders_38 : decode cX5_powders 38 = .ok (.iload_n 1, 1) := by decide +kernel
theorem dX5_powders_39 : decode cX5_powders 39 = .ok (.iaload, 1) := by decide +kernel
theorem dX5_powders_40 : decode cX5_powders 40 = .ok (.istore 4, 2) := by decide +kernel
theorem dX5_powders_42 : decode cX5_powders 42 = .ok (.aload_n 0, 1) := by decide +kernel
theorem dX5_powders_43 : decode cX5_powders 43 = .ok (.getfield 22, 3) := by decide +kernel
theorem dX5_powders_46 : decode cX5_powders 46 = .ok (.iload_n 1, 1) := by decide +kernel
theorem dX5_powders_47 : decode cX5_powders 47 = .ok (.iload_n 2, 1) := by decide +kernel
theorem dX5_powders_48 : decode cX5_powders 48 = .ok (.iastore, 1) := by decide +kernel
theorem dX5_powders_49 : decode cX5_powders 49 = .ok (.iload 4, 2) := by decide +kernel
theorem dX5_powders_51 : decode cX5_powders 51 = .ok (.ireturn, 1) := by decide +kernel
set_option maxRecDepth 20000 in
theorem ggX5_hushes_X5_isShore : GoodIn wsX5_hushes wsX5_isShore := goodIn_r _ [6, 7, 42, 43, 44, 45, 46, 47, 48, 49, 50, 51, 52, 53, 54, 55, 56, 57, 58, 59, 60, 61, 62, 63, 64, 65, 66, 67, 68, 69, 70, 71, 72, 73, 74] (by decide +kernel) (by decide +kernel)
set_option maxRecDepth 20000 in
theorem gX5_hushes_X5_isShore : GoodIn wsX5_hushes (wsV RX5 123 RX5 yX5_isShore wsX5_isShore) := goodIn_app (goodIn_of _ (by decide +kernel)) ggX5_hushes_X5_isShore
set_option maxRecDepth 20000 in
theorem ggX5_hushes_X5_no : GoodIn wsX5_hushes wsX5_no := goodIn_r _ [11, 12, 42, 43, 44, 45, 46, 47, 48, 49, 50, 51, 52, 53, 54, 55, 56, 57, 58, 59, 60, 61, 62, 63, 64, 65, 66, 67, 68, 69, 70, 71, 72, 73, 74] (by decide +kernel) (by decide +kernel)
set_option maxRecDepth 20000 in
theorem gX5_hushes_X5_no : GoodIn wsX5_hushes (wsV RX5 77 RX5 yX5_no wsX5_no) := goodIn_app (goodIn_of _ (by decide +kernel)) ggX5_hushes_X5_no
set_option maxRecDepth 20000 in
theorem ggX5_hushes_X5_keepsBack : GoodIn wsX5_hushes wsX5_keepsBack := goodIn_r _ [16, 17, 18, 19, 20, 21, 5, 22, 23, 24, 25, 26, 27, 28, 29, 7, 1, 30, 31, 32, 33, 34, 35, 36, 37, 38, 39, 40, 41, 42, 43, 44, 45, 46, 47, 48, 49, 50, 51, 52, 53, 54, 55, 56, 57, 58, 59, 60, 61, 62, 63, 64, 65, 66, 67, 68, 69, 70, 71, 72, 73, 74] (by decide +kernel) (by decide +kernel)
set_option maxRecDepth 20000 in
theorem gX5_hushes_X5_keepsBack : GoodIn wsX5_hushes (wsV RX5 201 RX5 yX5_keepsBack wsX5_keepsBack) := goodIn_app (goodIn_of _ (by decide +kernel)) ggX5_hushes_X5_keepsBack
theorem dX5_hushes_0 : decode cX5_hushes 0 = .ok (.aload_n 0, 1) := by decide +kernel
theorem dX5_hushes_1 : decode cX5_hushes 1 = .ok (.iload_n 1, 1) := by decide +kernel
theorem dX5_hushes_2 : decode cX5_hushes 2 = .ok (.invokevirtual 123, 3) := by decide +kernel
theorem dX5_hushes_5 : decode cX5_hushes 5 = .ok (.ifCond .ne 9, 3) := by decide +kernel
theorem dX5_hushes_8 : decode cX5_hushes 8 = .ok (.aload_n 0, 1) := by decide +kernel
theorem dX5_hushes_9 : decode cX5_hushes 9 = .ok (.iconst (-1), 1) := by decide +kernel
theorem dX5_hushes_10 : decode cX5_hushes 10 = .ok (.invokevirtual 77, 3) := by decide +kernel
theorem dX5_hushes_13 : decode cX5_hushes 13 = .ok (.ireturn, 1) := by decide +kernel
theorem dX5_hushes_14 : decode cX5_hushes 14 = .ok (.aload_n 0, 1) := by decide +kernel
theorem dX5_hushes_15 : decode cX5_hushes 15 = .ok (.invokevirtual 201, 3) := by decide +kernel
theorem dX5_hushes_18 : decode cX5_hushes 18 = .ok (.aload_n 0, 1) := by decide +kernel
theorem dX5_hushes_19 : decode cX5_hushes 19 = .ok (.dup, 1) := by decide +kernel
theorem dX5_hushes_20 : decode cX5_hushes 20 = .ok (.getfield 126, 3) := by decide +kernel
theorem dX5_hushes_23 : decode cX5_hushes 23 = .ok (.iconst 1, 1) := by decide +kernel
theorem dX5_hushes_24 : decode cX5_hushes 24 = .ok (.iload_n 1, 1) := by decide +kernel
theorem dX5_hushes_25 : decode cX5_hushes 25 = .ok (.ishl, 1) := by decide +kernel
theorem dX5_hushes_26 : decode cX5_hushes 26 = .ok (.ixor, 1) := by decide +kernel
theorem dX5_hushes_27 : decode cX5_hushes 27 = .ok (.putfield 126, 3) := by decide +kernel
theorem dX5_hushes_30 : decode cX5_hushes 30 = .ok (.aload_n 0, 1) := by decide +kernel
theorem dX5_hushes_31 : decode cX5_hushes 31 = .ok (.getfield 126, 3) := by decide +kernel
theorem dX5_hushes_34 : decode cX5_hushes 34 = .ok (.iload_n 1, 1) := by decide +kernel
theorem dX5_hushes_35 : decode cX5_hushes 35 = .ok (.ishr, 1) := by decide +kernel
theorem dX5_hushes_36 : decode cX5_hushes 36 = .ok (.iconst 1, 1) := by decide +kernel
theorem dX5_hushes_37 : decode cX5_hushes 37 = .ok (.iand, 1) := by decide +kernel
theorem dX5_hushes_38 : decode cX5_hushes 38 = .ok (.ireturn, 1) := by decide +kernel
set_option maxRecDepth 20000 in
theorem ggX5_isle_X5_isIn : GoodIn wsX5_isle wsX5_isIn := goodIn_r _ [6] (by decide +kernel) (by decide +kernel)
set_option maxRecDepth 20000 in
theorem gX5_isle_X5_isIn : GoodIn wsX5_isle (va_wsS RX5 88 yX5_isIn wsX5_isIn) := goodIn_app (goodIn_of _ (by decide +kernel)) ggX5_isle_X5_isIn
set_option maxRecDepth 20000 in
theorem ggX5_isle_X5_bound : GoodIn wsX5_isle wsX5_bound := goodIn_r _ [9] (by decide +kernel) (by decide +kernel)
set_option maxRecDepth 20000 in
theorem gX5_isle_X5_bound : GoodIn wsX5_isle (va_wsS RX5 70 yX5_bound wsX5_bound) := goodIn_app (goodIn_of _ (by decide +kernel)) ggX5_isle_X5_bound
set_option maxRecDepth 20000 in
theorem ggX5_isle_X5_no : GoodIn wsX5_isle wsX5_no := goodIn_r _ [13, 14, 44, 45, 46, 47, 48, 49, 50, 51, 52, 53, 54, 55, 56, 57, 58, 59, 60, 61, 62, 63, 64, 65, 66, 67, 68, 69, 70, 71, 72, 73, 74, 75, 76] (by decide +kernel) (by decide +kernel)
set_option maxRecDepth 20000 in
theorem gX5_isle_X5_no : GoodIn wsX5_isle (wsV RX5 77 RX5 yX5_no wsX5_no) := goodIn_app (goodIn_of _ (by decide +kernel)) ggX5_isle_X5_no
set_option maxRecDepth 20000 in
theorem ggX5_isle_X5_keepsBack : GoodIn wsX5_isle wsX5_keepsBack := goodIn_r _ [18, 19, 20, 21, 22, 23, 5, 24, 25, 26, 27, 28, 29, 30, 31, 32, 33, 1, 2, 34, 35, 36, 37, 38, 39, 40, 41, 42, 43, 44, 45, 46, 47, 48, 49, 50, 51, 52, 53, 54, 55, 56, 57, 58, 59, 60, 61, 62, 63, 64, 65, 66, 67, 68, 69, 70, 71, 72, 73, 74, 75, 76] (by decide +kernel) (by decide +kernel)
set_option maxRecDepth 20000 in
theorem gX5_isle_X5_keepsBack : GoodIn wsX5_isle (wsV RX5 201 RX5 yX5_keepsBack wsX5_keepsBack) := goodIn_app (goodIn_of _ (by decide +kernel)) ggX5_isle_X5_keepsBack
theorem dX5_isle_0 : decode cX5_isle 0 = .ok (.iload_n 1, 1) := by decide +kernel
theorem dX5_isle_1 : decode cX5_isle 1 = .ok (.iconst 0, 1) := by decide +kernel
theorem dX5_isle_2 : decode cX5_isle 2 = .ok (.iconst 1, 1) := by decide +kernel
theorem dX5_isle_3 : decode cX5_isle 3 = .ok (.invokestatic 88, 3) := by decide +kernel
theorem dX5_isle_6 : decode cX5_isle 6 = .ok (.ifCond .ne 8, 3) := by decide +kernel
theorem dX5_isle_9 : decode cX5_isle 9 = .ok (.bipush (-2), 2) := by decide +kernel
theorem dX5_isle_11 : decode cX5_isle 11 = .ok (.goto 26, 3) := by decide +kernel
theorem dX5_isle_14 : decode cX5_isle 14 = .ok (.iload_n 2, 1) := by decide +kernel
theorem dX5_isle_15 : decode cX5_isle 15 = .ok (.iload_n 1, 1) := by decide +kernel
theorem dX5_isle_16 : decode cX5_isle 16 = .ok (.ifCond .ne 7, 3) := by decide +kernel
theorem dX5_isle_19 : decode cX5_isle 19 = .ok (.iconst 0, 1) := by decide +kernel
theorem dX5_isle_20 : decode cX5_isle 20 = .ok (.goto 4, 3) := by decide +kernel
theorem dX5_isle_23 : decode cX5_isle 23 = .ok (.iconst 1, 1) := by decide +kernel
theorem dX5_isle_24 : decode cX5_isle 24 = .ok (.iload_n 1, 1) := by decide +kernel
theorem dX5_isle_25 : decode cX5_isle 25 = .ok (.ifCond .ne 8, 3) := by decide +kernel
theorem dX5_isle_28 : decode cX5_isle 28 = .ok (.bipush 30, 2) := by decide +kernel
theorem dX5_isle_30 : decode cX5_isle 30 = .ok (.goto 4, 3) := by decide +kernel
theorem dX5_isle_33 : decode cX5_isle 33 = .ok (.iconst 5, 1) := by decide +kernel
theorem dX5_isle_34 : decode cX5_isle 34 = .ok (.invokestatic 70, 3) := by decide +kernel
theorem dX5_isle_37 : decode cX5_isle 37 = .ok (.istore_n 3, 1) := by decide +kernel
theorem dX5_isle_38 : decode cX5_isle 38 = .ok (.iload_n 3, 1) := by decide +kernel
theorem dX5_isle_39 : decode cX5_isle 39 = .ok (.ifCond .eq 9, 3) := by decide +kernel
theorem dX5_isle_42 : decode cX5_isle 42 = .ok (.aload_n 0, 1) := by decide +kernel
theorem dX5_isle_43 : decode cX5_isle 43 = .ok (.iload_n 3, 1) := by decide +kernel
theorem dX5_isle_44 : decode cX5_isle 44 = .ok (.invokevirtual 77, 3) := by decide +kernel
theorem dX5_isle_47 : decode cX5_isle 47 = .ok (.ireturn, 1) := by decide +kernel
theorem dX5_isle_48 : decode cX5_isle 48 = .ok (.aload_n 0, 1) := by decide +kernel
theorem dX5_isle_49 : decode cX5_isle 49 = .ok (.invokevirtual 201, 3) := by decide +kernel
theorem dX5_isle_52 : decode cX5_isle 52 = .ok (.iload_n 1, 1) := by decide +kernel
theorem dX5_isle_53 : decode cX5_isle 53 = .ok (.ifCond .ne 10, 3) := by decide +kernel
theorem dX5_isle_56 : decode cX5_isle 56 = .ok (.aload_n 0, 1) := by decide +kernel
theorem dX5_isle_57 : decode cX5_isle 57 = .ok (.getfield 55, 3) := by decide +kernel
theorem dX5_isle_60 : decode cX5_isle 60 = .ok (.goto 7, 3) := by decide +kernel
theorem dX5_isle_63 : decode cX5_isle 63 = .ok (.aload_n 0, 1) := by decide +kernel
theorem dX5_isle_64 : decode cX5_isle 64 = .ok (.getfield 59, 3) := by decide +kernel
theorem dX5_isle_67 : decode cX5_isle 67 = .ok (.istore 4, 2) := by decide +kernel
theorem dX5_isle_69 : decode cX5_isle 69 = .ok (.iload_n 1, 1) := by decide +kernel
theorem dX5_isle_70 : decode cX5_isle 70 = .ok (.ifCond .ne 11, 3) := by decide +kernel
theorem dX5_isle_73 : decode cX5_isle 73 = .ok (.aload_n 0, 1) := by decide +kernel
theorem dX5_isle_74 : decode cX5_isle 74 = .ok (.iload_n 2, 1) := by decide +kernel
theorem dX5_isle_75 : decode cX5_isle 75 = .ok (.putfield 55, 3) := by decide +kernel
theorem dX5_isle_78 : decode cX5_isle 78 = .ok (.goto 8, 3) := by decide +kernel
theorem dX5_isle_81 : decode cX5_isle 81 = .ok (.aload_n 0, 1) := by decide +kernel
theorem dX5_isle_82 : decode cX5_isle 82 = .ok (.iload_n 2, 1) := by decide +kernel
theorem dX5_isle_83 : decode cX5_isle 83 = .ok (.putfield 59, 3) := by decide +kernel
theorem dX5_isle_86 : decode cX5_isle 86 = .ok (.iload 4, 2) := by decide +kernel
theorem dX5_isle_88 : decode cX5_isle 88 = .ok (.ireturn, 1) := by decide +kernel
set_option maxRecDepth 20000 in
theorem ggX5_hours_X5_bound : GoodIn wsX5_hours wsX5_bound := goodIn_r _ [5] (by decide +kernel) (by decide +kernel)
set_option maxRecDepth 20000 in
theorem gX5_hours_X5_bound : GoodIn wsX5_hours (va_wsS RX5 70 yX5_bound wsX5_bound) := goodIn_app (goodIn_of _ (by decide +kernel)) ggX5_hours_X5_bound
set_option maxRecDepth 20000 in
theorem ggX5_hours_X5_isLate : GoodIn wsX5_hours wsX5_isLate := goodIn_r _ [9, 10, 11, 97, 98, 99, 100, 101, 102, 103, 104, 105, 106, 107, 108, 109, 110, 111, 112, 113, 114, 115, 116, 117, 118, 119, 120, 121, 122, 123, 124, 125, 126, 127, 128, 129] (by decide +kernel) (by decide +kernel)
set_option maxRecDepth 20000 in
theorem gX5_hours_X5_isLate : GoodIn wsX5_hours (wsV RX5 113 RX5 yX5_isLate wsX5_isLate) := goodIn_app (goodIn_of _ (by decide +kernel)) ggX5_hours_X5_isLate
set_option maxRecDepth 20000 in
theorem ggX5_hours_X5_no : GoodIn wsX5_hours wsX5_no := goodIn_r _ [15, 16, 97, 98, 99, 100, 101, 102, 103, 104, 105, 106, 107, 108, 109, 110, 111, 112, 113, 114, 115, 116, 117, 118, 119, 120, 121, 122, 123, 124, 125, 126, 127, 128, 129] (by decide +kernel) (by decide +kernel)
set_option maxRecDepth 20000 in
theorem gX5_hours_X5_no : GoodIn wsX5_hours (wsV RX5 77 RX5 yX5_no wsX5_no) := goodIn_app (goodIn_of _ (by decide +kernel)) ggX5_hours_X5_no
set_option maxRecDepth 20000 in
theorem ggX5_hours_X5_keepsBack : GoodIn wsX5_hours wsX5_keepsBack := goodIn_r _ [20, 21, 22, 23, 24, 25, 4, 26, 27, 28, 29, 30, 31, 32, 33, 34, 35, 1, 36, 11, 10, 37, 38, 39, 40, 41, 42, 43, 44, 97, 98, 99, 100, 101, 102, 103, 104, 105, 106, 107, 108, 109, 110, 111, 112, 113, 114, 115, 116, 117, 118, 119, 120, 121, 122, 123, 124, 125, 126, 127, 128, 129] (by decide +kernel) (by decide +kernel)
set_option maxRecDepth 20000 in
theorem gX5_hours_X5_keepsBack : GoodIn wsX5_hours (wsV RX5 201 RX5 yX5_keepsBack wsX5_keepsBack) := goodIn_app (goodIn_of _ (by decide +kernel)) ggX5_hours_X5_keepsBack
set_option maxRecDepth 20000 in
theorem ggX5_hours_X5_goes : GoodIn wsX5_hours wsX5_goes := goodIn_r _ [48, 49, 50, 51, 4, 52, 11, 34, 32, 31, 10, 33, 53, 54, 55, 56, 57, 58, 59, 60, 35, 1, 61, 62, 63, 64, 65, 66, 67, 29, 30, 68, 69, 70, 71, 72, 73, 74, 75, 76, 77, 78, 79, 80, 81, 82, 83, 84, 85, 36, 86, 87, 88, 89, 90, 91, 92, 93, 94, 95, 96, 97, 98, 99, 100, 101, 102, 103, 104, 105, 106, 107, 108, 109, 110, 111, 112, 113, 114, 115, 116, 117, 118, 119, 120, 121, 122, 123, 124, 125, 126, 127, 128, 129] (by decide +kernel) (by decide +kernel)
set_option maxRecDepth 20000 in
theorem gX5_hours_X5_goes : GoodIn wsX5_hours (wsV RX5 116 RX5 yX5_goes wsX5_goes) := goodIn_app (goodIn_of _ (by decide +kernel)) ggX5_hours_X5_goes
theorem dX5_hours_0 : decode cX5_hours 0 = .ok (.iload_n 1, 1) := by decide +kernel
theorem dX5_hours_1 : decode cX5_hours 1 = .ok (.iconst 1, 1) := by decide +kernel
theorem dX5_hours_2 : decode cX5_hours 2 = .ok (.bipush 99, 2) := by decide +kernel
theorem dX5_hours_4 : decode cX5_hours 4 = .ok (.invokestatic 70, 3) := by decide +kernel
theorem dX5_hours_7 : decode cX5_hours 7 = .ok (.istore_n 2, 1) := by decide +kernel
theorem dX5_hours_8 : decode cX5_hours 8 = .ok (.iload_n 2, 1) := by decide +kernel
theorem dX5_hours_9 : decode cX5_hours 9 = .ok (.ifCond .ne 14, 3) := by decide +kernel
theorem dX5_hours_12 : decode cX5_hours 12 = .ok (.aload_n 0, 1) := by decide +kernel
theorem dX5_hours_13 : decode cX5_hours 13 = .ok (.iload_n 1, 1) := by decide +kernel
theorem dX5_hours_14 : decode cX5_hours 14 = .ok (.invokevirtual 113, 3) := by decide +kernel
theorem dX5_hours_17 : decode cX5_hours 17 = .ok (.ifCond .eq 6, 3) := by decide +kernel
theorem dX5_hours_20 : decode cX5_hours 20 = .ok (.bipush (-6), 2) := by decide +kernel
theorem dX5_hours_22 : decode cX5_hours 22 = .ok (.istore_n 2, 1) := by decide +kernel
theorem dX5_hours_23 : decode cX5_hours 23 = .ok (.iload_n 2, 1) := by decide +kernel
theorem dX5_hours_24 : decode cX5_hours 24 = .ok (.ifCond .eq 9, 3) := by decide +kernel
theorem dX5_hours_27 : decode cX5_hours 27 = .ok (.aload_n 0, 1) := by decide +kernel
theorem dX5_hours_28 : decode cX5_hours 28 = .ok (.iload_n 2, 1) := by decide +kernel
theorem dX5_hours_29 : decode cX5_hours 29 = .ok (.invokevirtual 77, 3) := by decide +kernel
theorem dX5_hours_32 : decode cX5_hours 32 = .ok (.ireturn, 1) := by decide +kernel
theorem dX5_hours_33 : decode cX5_hours 33 = .ok (.aload_n 0, 1) := by decide +kernel
theorem dX5_hours_34 : decode cX5_hours 34 = .ok (.invokevirtual 201, 3) := by decide +kernel
theorem dX5_hours_37 : decode cX5_hours 37 = .ok (.aload_n 0, 1) := by decide +kernel
theorem dX5_hours_38 : decode cX5_hours 38 = .ok (.iload_n 1, 1) := by decide +kernel
theorem dX5_hours_39 : decode cX5_hours 39 = .ok (.invokevirtual 116, 3) := by decide +kernel
theorem dX5_hours_42 : decode cX5_hours 42 = .ok (.aload_n 0, 1) := by decide +kernel
theorem dX5_hours_43 : decode cX5_hours 43 = .ok (.getfield 55, 3) := by decide +kernel
theorem dX5_hours_46 : decode cX5_hours 46 = .ok (.ireturn, 1) := by decide +kernel
set_option maxRecDepth 20000 in
theorem ggX5_noise_X5_isShore : GoodIn wsX5_noise wsX5_isShore := goodIn_r _ [5, 6, 36, 37, 38, 39, 40, 41, 42, 43, 44, 45, 46, 47, 48, 49, 50, 51, 52, 53, 54, 55, 56, 57, 58, 59, 60, 61, 62, 63, 64, 65, 66, 67, 68] (by decide +kernel) (by decide +kernel)
set_option maxRecDepth 20000 in
theorem gX5_noise_X5_isShore : GoodIn wsX5_noise (wsV RX5 123 RX5 yX5_isShore wsX5_isShore) := goodIn_app (goodIn_of _ (by decide +kernel)) ggX5_noise_X5_isShore
set_option maxRecDepth 20000 in
theorem ggX5_noise_X5_isIn : GoodIn wsX5_noise wsX5_isIn := goodIn_r _ [9] (by decide +kernel) (by decide +kernel)
set_option maxRecDepth 20000 in
theorem gX5_noise_X5_isIn : GoodIn wsX5_noise (va_wsS RX5 88 yX5_isIn wsX5_isIn) := goodIn_app (goodIn_of _ (by decide +kernel)) ggX5_noise_X5_isIn
set_option maxRecDepth 20000 in
theorem ggX5_noise_X5_noiseOf : GoodIn wsX5_noise wsX5_noiseOf := goodIn_r _ [13, 14, 15, 16, 17, 18, 19, 4, 20, 21, 22, 23, 24, 25, 26, 27, 28, 29, 30, 7, 8, 9, 36, 37, 38, 39, 40, 41, 42, 43, 44, 45, 46, 47, 48, 49, 50, 51, 52, 53, 54, 55, 56, 57, 58, 59, 60, 61, 62, 63, 64, 65, 66, 67, 68] (by decide +kernel) (by decide +kernel)
set_option maxRecDepth 20000 in
theorem gX5_noise_X5_noiseOf : GoodIn wsX5_noise (wsV RX5 176 RX5 yX5_noiseOf wsX5_noiseOf) := goodIn_app (goodIn_of _ (by decide +kernel)) ggX5_noise_X5_noiseOf
set_option maxRecDepth 20000 in
theorem ggX5_noise_X5_no : GoodIn wsX5_noise wsX5_no := goodIn_r _ [34, 35, 36, 37, 38, 39, 40, 41, 42, 43, 44, 45, 46, 47, 48, 49, 50, 51, 52, 53, 54, 55, 56, 57, 58, 59, 60, 61, 62, 63, 64, 65, 66, 67, 68] (by decide +kernel) (by decide +kernel)
set_option maxRecDepth 20000 in
theorem gX5_noise_X5_no : GoodIn wsX5_noise (wsV RX5 77 RX5 yX5_no wsX5_no) := goodIn_app (goodIn_of _ (by decide +kernel)) ggX5_noise_X5_no
theorem dX5_noise_0 : decode cX5_noise 0 = .ok (.aload_n 0, 1) := by decide +kernel
theorem dX5_noise_1 : decode cX5_noise 1 = .ok (.iload_n 1, 1) := by decide +kernel
theorem dX5_noise_2 : decode cX5_noise 2 = .ok (.invokevirtual 123, 3) := by decide +kernel
theorem dX5_noise_5 : decode cX5_noise 5 = .ok (.ifCond .eq 22, 3) := by decide +kernel
theorem dX5_noise_8 : decode cX5_noise 8 = .ok (.iload_n 2, 1) := by decide +kernel
theorem dX5_noise_9 : decode cX5_noise 9 = .ok (.iconst 0, 1) := by decide +kernel
theorem dX5_noise_10 : decode cX5_noise 10 = .ok (.bipush 23, 2) := by decide +kernel
theorem dX5_noise_12 : decode cX5_noise 12 = .ok (.invokestatic 88, 3) := by decide +kernel
theorem dX5_noise_15 : decode cX5_noise 15 = .ok (.ifCond .eq 12, 3) := by decide +kernel
theorem dX5_noise_18 : decode cX5_noise 18 = .ok (.aload_n 0, 1) := by decide +kernel
theorem dX5_noise_19 : decode cX5_noise 19 = .ok (.iload_n 1, 1) := by decide +kernel
theorem dX5_noise_20 : decode cX5_noise 20 = .ok (.iload_n 2, 1) := by decide +kernel
theorem dX5_noise_21 : decode cX5_noise 21 = .ok (.invokevirtual 176, 3) := by decide +kernel
theorem dX5_noise_24 : decode cX5_noise 24 = .ok (.goto 8, 3) := by decide +kernel
theorem dX5_noise_27 : decode cX5_noise 27 = .ok (.aload_n 0, 1) := by decide +kernel
theorem dX5_noise_28 : decode cX5_noise 28 = .ok (.iconst (-1), 1) := by decide +kernel
theorem dX5_noise_29 : decode cX5_noise 29 = .ok (.invokevirtual 77, 3) := by decide +kernel
theorem dX5_noise_32 : decode cX5_noise 32 = .ok (.ireturn, 1) := by decide +kernel
set_option maxRecDepth 20000 in
theorem ggX5_loudest_X5_isIn : GoodIn wsX5_loudest wsX5_isIn := goodIn_r _ [4] (by decide +kernel) (by decide +kernel)
set_option maxRecDepth 20000 in
theorem gX5_loudest_X5_isIn : GoodIn wsX5_loudest (va_wsS RX5 88 yX5_isIn wsX5_isIn) := goodIn_app (goodIn_of _ (by decide +kernel)) ggX5_loudest_X5_isIn
set_option maxRecDepth 20000 in
theorem ggX5_loudest_X5_no : GoodIn wsX5_loudest wsX5_no := goodIn_r _ [8, 9, 47, 48, 49, 50, 51, 52, 53, 54, 55, 56, 57, 58, 59, 60, 61, 62, 63, 64, 65, 66, 67, 68, 69, 70, 71, 72, 73, 74, 75, 76, 77, 78, 79] (by decide +kernel) (by decide +kernel)
set_option maxRecDepth 20000 in
theorem gX5_loudest_X5_no : GoodIn wsX5_loudest (wsV RX5 77 RX5 yX5_no wsX5_no) := goodIn_app (goodIn_of _ (by decide +kernel)) ggX5_loudest_X5_no
set_option maxRecDepth 20000 in
theorem ggX5_loudest_X5_loudestAt : GoodIn wsX5_loudest wsX5_loudestAt := goodIn_r _ [13, 14, 15, 16, 17, 3, 18, 19, 20, 21, 22, 23, 24, 25, 26, 27, 28, 29, 30, 31, 32, 33, 34, 35, 1, 2, 4, 36, 37, 38, 39, 40, 41, 42, 47, 48, 49, 50, 51, 52, 53, 54, 55, 56, 57, 58, 59, 60, 61, 62, 63, 64, 65, 66, 67, 68, 69, 70, 71, 72, 73, 74, 75, 76, 77, 78, 79] (by decide +kernel) (by decide +kernel)
set_option maxRecDepth 20000 in
theorem gX5_loudest_X5_loudestAt : GoodIn wsX5_loudest (wsV RX5 188 RX5 yX5_loudestAt wsX5_loudestAt) := goodIn_app (goodIn_of _ (by decide +kernel)) ggX5_loudest_X5_loudestAt
set_option maxRecDepth 20000 in
theorem ggX5_loudest_X5_allNoise : GoodIn wsX5_loudest wsX5_allNoise := goodIn_r _ [46, 14, 15, 16, 17, 3, 18, 19, 20, 21, 22, 23, 24, 25, 26, 27, 28, 29, 30, 31, 32, 33, 34, 35, 1, 2, 4, 47, 48, 49, 50, 51, 52, 53, 54, 55, 56, 57, 58, 59, 60, 61, 62, 63, 64, 65, 66, 67, 68, 69, 70, 71, 72, 73, 74, 75, 76, 77, 78, 79] (by decide +kernel) (by decide +kernel)
set_option maxRecDepth 20000 in
theorem gX5_loudest_X5_allNoise : GoodIn wsX5_loudest (wsV RX5 204 RX5 yX5_allNoise wsX5_allNoise) := goodIn_app (goodIn_of _ (by decide +kernel)) ggX5_loudest_X5_allNoise
theorem dX5_loudest_0 : decode cX5_loudest 0 = .ok (.iload_n 1, 1) := by decide +kernel
theorem dX5_loudest_1 : decode cX5_loudest 1 = .ok (.iconst 0, 1) := by decide +kernel
theorem dX5_loudest_2 : decode cX5_loudest 2 = .ok (.bipush 23, 2) := by decide +kernel
theorem dX5_loudest_4 : decode cX5_loudest 4 = .ok (.invokestatic 88, 3) := by decide +kernel
theorem dX5_loudest_7 : decode cX5_loudest 7 = .ok (.ifCond .ne 7, 3) := by decide +kernel
theorem dX5_loudest_10 : decode cX5_loudest 10 = .ok (.iconst (-1), 1) := by decide +kernel
theorem dX5_loudest_11 : decode cX5_loudest 11 = .ok (.goto 18, 3) := by decide +kernel
theorem dX5_loudest_14 : decode cX5_loudest 14 = .ok (.iload_n 2, 1) := by decide +kernel
theorem dX5_loudest_15 : decode cX5_loudest 15 = .ok (.iconst 0, 1) := by decide +kernel
theorem dX5_loudest_16 : decode cX5_loudest 16 = .ok (.iconst 1, 1) := by decide +kernel
theorem dX5_loudest_17 : decode cX5_loudest 17 = .ok (.invokestatic 88, 3) := by decide +kernel
theorem dX5_loudest_20 : decode cX5_loudest 20 = .ok (.ifCond .ne 8, 3) := by decide +kernel
theorem dX5_loudest_23 : decode cX5_loudest 23 = .ok (.bipush (-2), 2) := by decide +kernel
theorem dX5_loudest_25 : decode cX5_loudest 25 = .ok (.goto 4, 3) := by decide +kernel
theorem dX5_loudest_28 : decode cX5_loudest 28 = .ok (.iconst 0, 1) := by decide +kernel
theorem dX5_loudest_29 : decode cX5_loudest 29 = .ok (.istore_n 3, 1) := by decide +kernel
theorem dX5_loudest_30 : decode cX5_loudest 30 = .ok (.iload_n 3, 1) := by decide +kernel
theorem dX5_loudest_31 : decode cX5_loudest 31 = .ok (.ifCond .eq 9, 3) := by decide +kernel
theorem dX5_loudest_34 : decode cX5_loudest 34 = .ok (.aload_n 0, 1) := by decide +kernel
theorem dX5_loudest_35 : decode cX5_loudest 35 = .ok (.iload_n 3, 1) := by decide +kernel
theorem dX5_loudest_36 : decode cX5_loudest 36 = .ok (.invokevirtual 77, 3) := by decide +kernel
theorem dX5_loudest_39 : decode cX5_loudest 39 = .ok (.ireturn, 1) := by decide +kernel
theorem dX5_loudest_40 : decode cX5_loudest 40 = .ok (.iload_n 2, 1) := by decide +kernel
theorem dX5_loudest_41 : decode cX5_loudest 41 = .ok (.ifCond .ne 11, 3) := by decide +kernel
theorem dX5_loudest_44 : decode cX5_loudest 44 = .ok (.aload_n 0, 1) := by decide +kernel
theorem dX5_loudest_45 : decode cX5_loudest 45 = .ok (.iload_n 1, 1) := by decide +kernel
theorem dX5_loudest_46 : decode cX5_loudest 46 = .ok (.invokevirtual 188, 3) := by decide +kernel
theorem dX5_loudest_49 : decode cX5_loudest 49 = .ok (.goto 8, 3) := by decide +kernel
theorem dX5_loudest_52 : decode cX5_loudest 52 = .ok (.aload_n 0, 1) := by decide +kernel
theorem dX5_loudest_53 : decode cX5_loudest 53 = .ok (.iload_n 1, 1) := by decide +kernel
theorem dX5_loudest_54 : decode cX5_loudest 54 = .ok (.invokevirtual 204, 3) := by decide +kernel
theorem dX5_loudest_57 : decode cX5_loudest 57 = .ok (.ireturn, 1) := by decide +kernel
set_option maxRecDepth 20000 in
theorem ggX5_notHours_X5_bound : GoodIn wsX5_notHours wsX5_bound := goodIn_r _ [4] (by decide +kernel) (by decide +kernel)
set_option maxRecDepth 20000 in
theorem gX5_notHours_X5_bound : GoodIn wsX5_notHours (va_wsS RX5 70 yX5_bound wsX5_bound) := goodIn_app (goodIn_of _ (by decide +kernel)) ggX5_notHours_X5_bound
theorem dX5_notHours_0 : decode cX5_notHours 0 = .ok (.iload_n 0, 1) := by decide +kernel
theorem dX5_notHours_1 : decode cX5_notHours 1 = .ok (.iconst 0, 1) := by decide +kernel
theorem dX5_notHours_2 : decode cX5_notHours 2 = .ok (.bipush 99, 2) := by decide +kernel
theorem dX5_notHours_4 : decode cX5_notHours 4 = .ok (.invokestatic 70, 3) := by decide +kernel
theorem dX5_notHours_7 : decode cX5_notHours 7 = .ok (.ireturn, 1) := by decide +kernel
set_option maxRecDepth 20000 in
theorem ggX5_behind_X5_notHours : GoodIn wsX5_behind wsX5_notHours := goodIn_r _ [5, 6, 7, 4, 8] (by decide +kernel) (by decide +kernel)
set_option maxRecDepth 20000 in
theorem gX5_behind_X5_notHours : GoodIn wsX5_behind (va_wsS RX5 207 yX5_notHours wsX5_notHours) := goodIn_app (goodIn_of _ (by decide +kernel)) ggX5_behind_X5_notHours
set_option maxRecDepth 20000 in
theorem ggX5_behind_X5_isIn : GoodIn wsX5_behind wsX5_isIn := goodIn_r _ [11] (by decide +kernel) (by decide +kernel)
set_option maxRecDepth 20000 in
theorem gX5_behind_X5_isIn : GoodIn wsX5_behind (va_wsS RX5 88 yX5_isIn wsX5_isIn) := goodIn_app (goodIn_of _ (by decide +kernel)) ggX5_behind_X5_isIn
set_option maxRecDepth 20000 in
theorem ggX5_behind_X5_no : GoodIn wsX5_behind wsX5_no := goodIn_r _ [15, 16, 99, 100, 101, 102, 103, 104, 105, 106, 107, 108, 109, 110, 111, 112, 113, 114, 115, 116, 117, 118, 119, 120, 121, 122, 123, 124, 125, 126, 127, 128, 129, 130, 131] (by decide +kernel) (by decide +kernel)
set_option maxRecDepth 20000 in
theorem gX5_behind_X5_no : GoodIn wsX5_behind (wsV RX5 77 RX5 yX5_no wsX5_no) := goodIn_app (goodIn_of _ (by decide +kernel)) ggX5_behind_X5_no
set_option maxRecDepth 20000 in
theorem ggX5_behind_X5_thinks : GoodIn wsX5_behind wsX5_thinks := goodIn_r _ [20, 21, 22, 23, 4, 24, 25, 26, 27, 28, 29, 30, 31, 32, 33, 1, 34, 35, 36, 37, 38, 39, 40, 41, 42, 43, 44, 45, 99, 100, 101, 102, 103, 104, 105, 106, 107, 108, 109, 110, 111, 112, 113, 114, 115, 116, 117, 118, 119, 120, 121, 122, 123, 124, 125, 126, 127, 128, 129, 130, 131] (by decide +kernel) (by decide +kernel)
set_option maxRecDepth 20000 in
theorem gX5_behind_X5_thinks : GoodIn wsX5_behind (wsV RX5 210 RX5 yX5_thinks wsX5_thinks) := goodIn_app (goodIn_of _ (by decide +kernel)) ggX5_behind_X5_thinks
set_option maxRecDepth 20000 in
theorem ggX5_behind_X5_goes : GoodIn wsX5_behind wsX5_goes := goodIn_r _ [49, 50, 51, 52, 4, 53, 35, 32, 30, 29, 36, 31, 54, 55, 56, 57, 58, 59, 60, 61, 33, 1, 62, 63, 64, 65, 66, 67, 68, 27, 28, 69, 70, 71, 72, 9, 10, 11, 73, 74, 75, 76, 77, 78, 79, 80, 81, 82, 83, 34, 84, 85, 86, 87, 88, 89, 90, 91, 92, 93, 94, 99, 100, 101, 102, 103, 104, 105, 106, 107, 108, 109, 110, 111, 112, 113, 114, 115, 116, 117, 118, 119, 120, 121, 122, 123, 124, 125, 126, 127, 128, 129, 130, 131] (by decide +kernel) (by decide +kernel)
set_option maxRecDepth 20000 in
theorem gX5_behind_X5_goes : GoodIn wsX5_behind (wsV RX5 116 RX5 yX5_goes wsX5_goes) := goodIn_app (goodIn_of _ (by decide +kernel)) ggX5_behind_X5_goes
set_option maxRecDepth 20000 in
theorem ggX5_behind_X5_holder : GoodIn wsX5_behind wsX5_holder := goodIn_r _ [90, 1, 91, 92, 93, 4, 94, 32, 29, 99, 100, 101, 102, 103, 104, 105, 106, 107, 108, 109, 110, 111, 112, 113, 114, 115, 116, 117, 118, 119, 120, 121, 122, 123, 124, 125, 126, 127, 128, 129, 130, 131] (by decide +kernel) (by decide +kernel)
set_option maxRecDepth 20000 in
theorem gX5_behind_X5_holder : GoodIn wsX5_behind (wsV RX5 194 RX5 yX5_holder wsX5_holder) := goodIn_app (goodIn_of _ (by decide +kernel)) ggX5_behind_X5_holder
set_option maxRecDepth 20000 in
theorem ggX5_behind_X5_forgets : GoodIn wsX5_behind wsX5_forgets := goodIn_r _ [98, 21, 22, 23, 4, 24, 25, 26, 27, 28, 29, 30, 31, 32, 33, 1, 34, 35, 36, 37, 38, 39, 40, 41, 42, 43, 44, 45, 99, 100, 101, 102, 103, 104, 105, 106, 107, 108, 109, 110, 111, 112, 113, 114, 115, 116, 117, 118, 119, 120, 121, 122, 123, 124, 125, 126, 127, 128, 129, 130, 131] (by decide +kernel) (by decide +kernel)
set_option maxRecDepth 20000 in
theorem gX5_behind_X5_forgets : GoodIn wsX5_behind (wsV RX5 213 RX5 yX5_forgets wsX5_forgets) := goodIn_app (goodIn_of _ (by decide +kernel)) ggX5_behind_X5_forgets
theorem dX5_behind_0 : decode cX5_behind 0 = .ok (.iload_n 1, 1) := by decide +kernel
theorem dX5_behind_1 : decode cX5_behind 1 = .ok (.invokestatic 207, 3) := by decide +kernel
theorem dX5_behind_4 : decode cX5_behind 4 = .ok (.istore_n 3, 1) := by decide +kernel
theorem dX5_behind_5 : decode cX5_behind 5 = .ok (.iload_n 3, 1) := by decide +kernel
theorem dX5_behind_6 : decode cX5_behind 6 = .ok (.ifCond .ne 15, 3) := by decide +kernel
theorem dX5_behind_9 : decode cX5_behind 9 = .ok (.iload_n 2, 1) := by decide +kernel
theorem dX5_behind_10 : decode cX5_behind 10 = .ok (.iconst 0, 1) := by decide +kernel
theorem dX5_behind_11 : decode cX5_behind 11 = .ok (.iconst 1, 1) := by decide +kernel
theorem dX5_behind_12 : decode cX5_behind 12 = .ok (.invokestatic 88, 3) := by decide +kernel
theorem dX5_behind_15 : decode cX5_behind 15 = .ok (.ifCond .ne 6, 3) := by decide +kernel
theorem dX5_behind_18 : decode cX5_behind 18 = .ok (.bipush (-2), 2) := by decide +kernel
theorem dX5_behind_20 : decode cX5_behind 20 = .ok (.istore_n 3, 1) := by decide +kernel
theorem dX5_behind_21 : decode cX5_behind 21 = .ok (.iload_n 3, 1) := by decide +kernel
theorem dX5_behind_22 : decode cX5_behind 22 = .ok (.ifCond .eq 9, 3) := by decide +kernel
theorem dX5_behind_25 : decode cX5_behind 25 = .ok (.aload_n 0, 1) := by decide +kernel
theorem dX5_behind_26 : decode cX5_behind 26 = .ok (.iload_n 3, 1) := by decide +kernel
theorem dX5_behind_27 : decode cX5_behind 27 = .ok (.invokevirtual 77, 3) := by decide +kernel
theorem dX5_behind_30 : decode cX5_behind 30 = .ok (.ireturn, 1) := by decide +kernel
theorem dX5_behind_31 : decode cX5_behind 31 = .ok (.aload_n 0, 1) := by decide +kernel
theorem dX5_behind_32 : decode cX5_behind 32 = .ok (.invokevirtual 210, 3) := by decide +kernel
theorem dX5_behind_35 : decode cX5_behind 35 = .ok (.aload_n 0, 1) := by decide +kernel
theorem dX5_behind_36 : decode cX5_behind 36 = .ok (.iload_n 1, 1) := by decide +kernel
theorem dX5_behind_37 : decode cX5_behind 37 = .ok (.invokevirtual 116, 3) := by decide +kernel
theorem dX5_behind_40 : decode cX5_behind 40 = .ok (.iload_n 2, 1) := by decide +kernel
theorem dX5_behind_41 : decode cX5_behind 41 = .ok (.ifCond .ne 10, 3) := by decide +kernel
theorem dX5_behind_44 : decode cX5_behind 44 = .ok (.aload_n 0, 1) := by decide +kernel
theorem dX5_behind_45 : decode cX5_behind 45 = .ok (.getfield 55, 3) := by decide +kernel
theorem dX5_behind_48 : decode cX5_behind 48 = .ok (.goto 7, 3) := by decide +kernel
theorem dX5_behind_51 : decode cX5_behind 51 = .ok (.aload_n 0, 1) := by decide +kernel
theorem dX5_behind_52 : decode cX5_behind 52 = .ok (.invokevirtual 194, 3) := by decide +kernel
theorem dX5_behind_55 : decode cX5_behind 55 = .ok (.istore 4, 2) := by decide +kernel
theorem dX5_behind_57 : decode cX5_behind 57 = .ok (.aload_n 0, 1) := by decide +kernel
theorem dX5_behind_58 : decode cX5_behind 58 = .ok (.invokevirtual 213, 3) := by decide +kernel
theorem dX5_behind_61 : decode cX5_behind 61 = .ok (.iload 4, 2) := by decide +kernel
theorem dX5_behind_63 : decode cX5_behind 63 = .ok (.ireturn, 1) := by decide +kernel
set_option maxRecDepth 20000 in
theorem ggX5_shoreBehind_X5_isShore : GoodIn wsX5_shoreBehind wsX5_isShore := goodIn_r _ [7, 8, 103, 104, 105, 106, 107, 108, 109, 110, 111, 112, 113, 114, 115, 116, 117, 118, 119, 120, 121, 122, 123, 124, 125, 126, 127, 128, 129, 130, 131, 132, 133, 134, 135] (by decide +kernel) (by decide +kernel)
set_option maxRecDepth 20000 in
theorem gX5_shoreBehind_X5_isShore : GoodIn wsX5_shoreBehind (wsV RX5 123 RX5 yX5_isShore wsX5_isShore) := goodIn_app (goodIn_of _ (by decide +kernel)) ggX5_shoreBehind_X5_isShore
set_option maxRecDepth 20000 in
theorem ggX5_shoreBehind_X5_notHours : GoodIn wsX5_shoreBehind wsX5_notHours := goodIn_r _ [11, 12, 13, 6, 14] (by decide +kernel) (by decide +kernel)
set_option maxRecDepth 20000 in
theorem gX5_shoreBehind_X5_notHours : GoodIn wsX5_shoreBehind (va_wsS RX5 207 yX5_notHours wsX5_notHours) := goodIn_app (goodIn_of _ (by decide +kernel)) ggX5_shoreBehind_X5_notHours
set_option maxRecDepth 20000 in
theorem ggX5_shoreBehind_X5_isIn : GoodIn wsX5_shoreBehind wsX5_isIn := goodIn_r _ [17] (by decide +kernel) (by decide +kernel)
set_option maxRecDepth 20000 in
theorem gX5_shoreBehind_X5_isIn : GoodIn wsX5_shoreBehind (va_wsS RX5 88 yX5_isIn wsX5_isIn) := goodIn_app (goodIn_of _ (by decide +kernel)) ggX5_shoreBehind_X5_isIn
set_option maxRecDepth 20000 in
theorem ggX5_shoreBehind_X5_no : GoodIn wsX5_shoreBehind wsX5_no := goodIn_r _ [21, 22, 103, 104, 105, 106, 107, 108, 109, 110, 111, 112, 113, 114, 115, 116, 117, 118, 119, 120, 121, 122, 123, 124, 125, 126, 127, 128, 129, 130, 131, 132, 133, 134, 135] (by decide +kernel) (by decide +kernel)
set_option maxRecDepth 20000 in
theorem gX5_shoreBehind_X5_no : GoodIn wsX5_shoreBehind (wsV RX5 77 RX5 yX5_no wsX5_no) := goodIn_app (goodIn_of _ (by decide +kernel)) ggX5_shoreBehind_X5_no
set_option maxRecDepth 20000 in
theorem ggX5_shoreBehind_X5_thinks : GoodIn wsX5_shoreBehind wsX5_thinks := goodIn_r _ [26, 27, 28, 29, 6, 30, 31, 32, 33, 34, 35, 2, 1, 8, 36, 37, 38, 39, 40, 41, 42, 43, 44, 45, 46, 47, 48, 49, 103, 104, 105, 106, 107, 108, 109, 110, 111, 112, 113, 114, 115, 116, 117, 118, 119, 120, 121, 122, 123, 124, 125, 126, 127, 128, 129, 130, 131, 132, 133, 134, 135] (by decide +kernel) (by decide +kernel)
set_option maxRecDepth 20000 in
theorem gX5_shoreBehind_X5_thinks : GoodIn wsX5_shoreBehind (wsV RX5 210 RX5 yX5_thinks wsX5_thinks) := goodIn_app (goodIn_of _ (by decide +kernel)) ggX5_shoreBehind_X5_thinks
set_option maxRecDepth 20000 in
theorem ggX5_shoreBehind_X5_goes : GoodIn wsX5_shoreBehind wsX5_goes := goodIn_r _ [53, 54, 55, 56, 6, 57, 39, 8, 2, 35, 40, 1, 58, 59, 60, 61, 62, 63, 64, 65, 36, 37, 66, 67, 68, 69, 70, 71, 72, 33, 34, 73, 74, 75, 76, 15, 16, 17, 77, 78, 79, 80, 81, 82, 83, 84, 85, 86, 87, 38, 88, 89, 90, 91, 92, 93, 94, 95, 96, 97, 98, 103, 104, 105, 106, 107, 108, 109, 110, 111, 112, 113, 114, 115, 116, 117, 118, 119, 120, 121, 122, 123, 124, 125, 126, 127, 128, 129, 130, 131, 132, 133, 134, 135] (by decide +kernel) (by decide +kernel)
set_option maxRecDepth 20000 in
theorem gX5_shoreBehind_X5_goes : GoodIn wsX5_shoreBehind (wsV RX5 116 RX5 yX5_goes wsX5_goes) := goodIn_app (goodIn_of _ (by decide +kernel)) ggX5_shoreBehind_X5_goes
set_option maxRecDepth 20000 in
theorem ggX5_shoreBehind_X5_forgets : GoodIn wsX5_shoreBehind wsX5_forgets := goodIn_r _ [102, 27, 28, 29, 6, 30, 31, 32, 33, 34, 35, 2, 1, 8, 36, 37, 38, 39, 40, 41, 42, 43, 44, 45, 46, 47, 48, 49, 103, 104, 105, 106, 107, 108, 109, 110, 111, 112, 113, 114, 115, 116, 117, 118, 119, 120, 121, 122, 123, 124, 125, 126, 127, 128, 129, 130, 131, 132, 133, 134, 135] (by decide +kernel) (by decide +kernel)
set_option maxRecDepth 20000 in
theorem gX5_shoreBehind_X5_forgets : GoodIn wsX5_shoreBehind (wsV RX5 213 RX5 yX5_forgets wsX5_forgets) := goodIn_app (goodIn_of _ (by decide +kernel)) ggX5_shoreBehind_X5_forgets
theorem dX5_shoreBehind_0 : decode cX5_shoreBehind 0 = .ok (.aload_n 0, 1) := by decide +kernel
theorem dX5_shoreBehind_1 : decode cX5_shoreBehind 1 = .ok (.iload_n 1, 1) := by decide +kernel
theorem dX5_shoreBehind_2 : decode cX5_shoreBehind 2 = .ok (.invokevirtual 123, 3) := by decide +kernel
theorem dX5_shoreBehind_5 : decode cX5_shoreBehind 5 = .ok (.ifCond .ne 7, 3) := by decide +kernel
theorem dX5_shoreBehind_8 : decode cX5_shoreBehind 8 = .ok (.iconst (-1), 1) := by decide +kernel
theorem dX5_shoreBehind_9 : decode cX5_shoreBehind 9 = .ok (.goto 7, 3) := by decide +kernel
theorem dX5_shoreBehind_12 : decode cX5_shoreBehind 12 = .ok (.iload_n 2, 1) := by decide +kernel
theorem dX5_shoreBehind_13 : decode cX5_shoreBehind 13 = .ok (.invokestatic 207, 3) := by decide +kernel
theorem dX5_shoreBehind_16 : decode cX5_shoreBehind 16 = .ok (.istore 4, 2) := by decide +kernel
theorem dX5_shoreBehind_18 : decode cX5_shoreBehind 18 = .ok (.iload 4, 2) := by decide +kernel
theorem dX5_shoreBehind_20 : decode cX5_shoreBehind 20 = .ok (.ifCond .ne 16, 3) := by decide +kernel
theorem dX5_shoreBehind_23 : decode cX5_shoreBehind 23 = .ok (.iload_n 3, 1) := by decide +kernel
theorem dX5_shoreBehind_24 : decode cX5_shoreBehind 24 = .ok (.iconst 0, 1) := by decide +kernel
theorem dX5_shoreBehind_25 : decode cX5_shoreBehind 25 = .ok (.iconst 1, 1) := by decide +kernel
theorem dX5_shoreBehind_26 : decode cX5_shoreBehind 26 = .ok (.invokestatic 88, 3) := by decide +kernel
theorem dX5_shoreBehind_29 : decode cX5_shoreBehind 29 = .ok (.ifCond .ne 7, 3) := by decide +kernel
theorem dX5_shoreBehind_32 : decode cX5_shoreBehind 32 = .ok (.bipush (-2), 2) := by decide +kernel
theorem dX5_shoreBehind_34 : decode cX5_shoreBehind 34 = .ok (.istore 4, 2) := by decide +kernel
theorem dX5_shoreBehind_36 : decode cX5_shoreBehind 36 = .ok (.iload 4, 2) := by decide +kernel
theorem dX5_shoreBehind_38 : decode cX5_shoreBehind 38 = .ok (.ifCond .eq 10, 3) := by decide +kernel
theorem dX5_shoreBehind_41 : decode cX5_shoreBehind 41 = .ok (.aload_n 0, 1) := by decide +kernel
theorem dX5_shoreBehind_42 : decode cX5_shoreBehind 42 = .ok (.iload 4, 2) := by decide +kernel
theorem dX5_shoreBehind_44 : decode cX5_shoreBehind 44 = .ok (.invokevirtual 77, 3) := by decide +kernel
theorem dX5_shoreBehind_47 : decode cX5_shoreBehind 47 = .ok (.ireturn, 1) := by decide +kernel
theorem dX5_shoreBehind_48 : decode cX5_shoreBehind 48 = .ok (.aload_n 0, 1) := by decide +kernel
theorem dX5_shoreBehind_49 : decode cX5_shoreBehind 49 = .ok (.invokevirtual 210, 3) := by decide +kernel
theorem dX5_shoreBehind_52 : decode cX5_shoreBehind 52 = .ok (.aload_n 0, 1) := by decide +kernel
theorem dX5_shoreBehind_53 : decode cX5_shoreBehind 53 = .ok (.iload_n 2, 1) := by decide +kernel
theorem dX5_shoreBehind_54 : decode cX5_shoreBehind 54 = .ok (.invokevirtual 116, 3) := by decide +kernel
theorem dX5_shoreBehind_57 : decode cX5_shoreBehind 57 = .ok (.iload_n 3, 1) := by decide +kernel
theorem dX5_shoreBehind_58 : decode cX5_shoreBehind 58 = .ok (.ifCond .ne 12, 3) := by decide +kernel
theorem dX5_shoreBehind_61 : decode cX5_shoreBehind 61 = .ok (.aload_n 0, 1) := by decide +kernel
theorem dX5_shoreBehind_62 : decode cX5_shoreBehind 62 = .ok (.getfield 25, 3) := by decide +kernel
theorem dX5_shoreBehind_65 : decode cX5_shoreBehind 65 = .ok (.iload_n 1, 1) := by decide +kernel
theorem dX5_shoreBehind_66 : decode cX5_shoreBehind 66 = .ok (.iaload, 1) := by decide +kernel
theorem dX5_shoreBehind_67 : decode cX5_shoreBehind 67 = .ok (.goto 9, 3) := by decide +kernel
theorem dX5_shoreBehind_70 : decode cX5_shoreBehind 70 = .ok (.aload_n 0, 1) := by decide +kernel
theorem dX5_shoreBehind_71 : decode cX5_shoreBehind 71 = .ok (.getfield 22, 3) := by decide +kernel
theorem dX5_shoreBehind_74 : decode cX5_shoreBehind 74 = .ok (.iload_n 1, 1) := by decide +kernel
theorem dX5_shoreBehind_75 : decode cX5_shoreBehind 75 = .ok (.iaload, 1) := by decide +kernel
theorem dX5_shoreBehind_76 : decode cX5_shoreBehind 76 = .ok (.istore 5, 2) := by decide +kernel
theorem dX5_shoreBehind_78 : decode cX5_shoreBehind 78 = .ok (.aload_n 0, 1) := by decide +kernel
theorem dX5_shoreBehind_79 : decode cX5_shoreBehind 79 = .ok (.invokevirtual 213, 3) := by decide +kernel
theorem dX5_shoreBehind_82 : decode cX5_shoreBehind 82 = .ok (.iload 5, 2) := by decide +kernel
theorem dX5_shoreBehind_84 : decode cX5_shoreBehind 84 = .ok (.ireturn, 1) := by decide +kernel
set_option maxRecDepth 20000 in
theorem ggX5_findOften_X5_thinks : GoodIn wsX5_findOften wsX5_thinks := goodIn_r _ [11, 12, 13, 14, 10, 15, 16, 17, 18, 19, 20, 21, 22, 23, 24, 6, 25, 26, 27, 28, 29, 30, 31, 32, 33, 34, 35, 36, 89, 90, 91, 92, 93, 94, 95, 96, 97, 98, 99, 100, 101, 102, 103, 104, 105, 106, 107, 108, 109, 110, 111, 112, 113, 114, 115, 116, 117, 118, 119, 120, 121] (by decide +kernel) (by decide +kernel)
set_option maxRecDepth 20000 in
theorem gX5_findOften_X5_thinks : GoodIn wsX5_findOften (wsV RX5 210 RX5 yX5_thinks wsX5_thinks) := goodIn_app (goodIn_of _ (by decide +kernel)) ggX5_findOften_X5_thinks
set_option maxRecDepth 20000 in
theorem ggX5_findOften_X5_holder : GoodIn wsX5_findOften wsX5_holder := goodIn_r _ [40, 6, 41, 42, 43, 10, 44, 23, 20, 89, 90, 91, 92, 93, 94, 95, 96, 97, 98, 99, 100, 101, 102, 103, 104, 105, 106, 107, 108, 109, 110, 111, 112, 113, 114, 115, 116, 117, 118, 119, 120, 121] (by decide +kernel) (by decide +kernel)
set_option maxRecDepth 20000 in
theorem gX5_findOften_X5_holder : GoodIn wsX5_findOften (wsV RX5 194 RX5 yX5_holder wsX5_holder) := goodIn_app (goodIn_of _ (by decide +kernel)) ggX5_findOften_X5_holder
set_option maxRecDepth 20000 in
theorem ggX5_findOften_X5_goesHour : GoodIn wsX5_findOften wsX5_goesHour := goodIn_r _ [48, 26, 23, 21, 20, 27, 22, 49, 50, 51, 10, 52, 53, 54, 55, 56, 24, 6, 57, 58, 59, 60, 61, 62, 63, 18, 19, 64, 65, 66, 67, 68, 69, 70, 71, 72, 73, 74, 75, 76, 77, 78, 79, 80, 81, 25, 82, 83, 84, 37, 38, 39, 40, 41, 42, 43, 44, 89, 90, 91, 92, 93, 94, 95, 96, 97, 98, 99, 100, 101, 102, 103, 104, 105, 106, 107, 108, 109, 110, 111, 112, 113, 114, 115, 116, 117, 118, 119, 120, 121] (by decide +kernel) (by decide +kernel)
set_option maxRecDepth 20000 in
theorem gX5_findOften_X5_goesHour : GoodIn wsX5_findOften (wsV RX5 197 RX5 yX5_goesHour wsX5_goesHour) := goodIn_app (goodIn_of _ (by decide +kernel)) ggX5_findOften_X5_goesHour
set_option maxRecDepth 20000 in
theorem ggX5_findOften_X5_forgets : GoodIn wsX5_findOften wsX5_forgets := goodIn_r _ [88, 12, 13, 14, 10, 15, 16, 17, 18, 19, 20, 21, 22, 23, 24, 6, 25, 26, 27, 28, 29, 30, 31, 32, 33, 34, 35, 36, 89, 90, 91, 92, 93, 94, 95, 96, 97, 98, 99, 100, 101, 102, 103, 104, 105, 106, 107, 108, 109, 110, 111, 112, 113, 114, 115, 116, 117, 118, 119, 120, 121] (by decide +kernel) (by decide +kernel)
set_option maxRecDepth 20000 in
theorem gX5_findOften_X5_forgets : GoodIn wsX5_findOften (wsV RX5 213 RX5 yX5_forgets wsX5_forgets) := goodIn_app (goodIn_of _ (by decide +kernel)) ggX5_findOften_X5_forgets
theorem dX5_findOften_0 : decode cX5_findOften 0 = .ok (.iconst 0, 1) := by decide +kernel
theorem dX5_findOften_1 : decode cX5_findOften 1 = .ok (.istore_n 3, 1) := by decide +kernel
theorem dX5_findOften_2 : decode cX5_findOften 2 = .ok (.iload_n 3, 1) := by decide +kernel
theorem dX5_findOften_3 : decode cX5_findOften 3 = .ok (.bipush 7, 2) := by decide +kernel
theorem dX5_findOften_5 : decode cX5_findOften 5 = .ok (.if_icmp .ge 24, 3) := by decide +kernel
theorem dX5_findOften_8 : decode cX5_findOften 8 = .ok (.aload_n 0, 1) := by decide +kernel
theorem dX5_findOften_9 : decode cX5_findOften 9 = .ok (.getfield 43, 3) := by decide +kernel
theorem dX5_findOften_12 : decode cX5_findOften 12 = .ok (.iload_n 3, 1) := by decide +kernel
theorem dX5_findOften_13 : decode cX5_findOften 13 = .ok (.iconst 0, 1) := by decide +kernel
theorem dX5_findOften_14 : decode cX5_findOften 14 = .ok (.iastore, 1) := by decide +kernel
theorem dX5_findOften_15 : decode cX5_findOften 15 = .ok (.aload_n 0, 1) := by decide +kernel
theorem dX5_findOften_16 : decode cX5_findOften 16 = .ok (.getfield 46, 3) := by decide +kernel
theorem dX5_findOften_19 : decode cX5_findOften 19 = .ok (.iload_n 3, 1) := by decide +kernel
theorem dX5_findOften_20 : decode cX5_findOften 20 = .ok (.bipush (-9), 2) := by decide +kernel
theorem dX5_findOften_22 : decode cX5_findOften 22 = .ok (.iastore, 1) := by decide +kernel
theorem dX5_findOften_23 : decode cX5_findOften 23 = .ok (.iinc 3 1, 3) := by decide +kernel
theorem dX5_findOften_26 : decode cX5_findOften 26 = .ok (.goto (-24), 3) := by decide +kernel
theorem dX5_findOften_29 : decode cX5_findOften 29 = .ok (.aload_n 0, 1) := by decide +kernel
theorem dX5_findOften_30 : decode cX5_findOften 30 = .ok (.bipush 30, 2) := by decide +kernel
theorem dX5_findOften_32 : decode cX5_findOften 32 = .ok (.putfield 216, 3) := by decide +kernel
theorem dX5_findOften_35 : decode cX5_findOften 35 = .ok (.aload_n 0, 1) := by decide +kernel
theorem dX5_findOften_36 : decode cX5_findOften 36 = .ok (.iconst 0, 1) := by decide +kernel
theorem dX5_findOften_37 : decode cX5_findOften 37 = .ok (.putfield 219, 3) := by decide +kernel
theorem dX5_findOften_40 : decode cX5_findOften 40 = .ok (.aload_n 0, 1) := by decide +kernel
theorem dX5_findOften_41 : decode cX5_findOften 41 = .ok (.bipush (-9), 2) := by decide +kernel
theorem dX5_findOften_43 : decode cX5_findOften 43 = .ok (.putfield 222, 3) := by decide +kernel
theorem dX5_findOften_46 : decode cX5_findOften 46 = .ok (.aload_n 0, 1) := by decide +kernel
theorem dX5_findOften_47 : decode cX5_findOften 47 = .ok (.invokevirtual 210, 3) := by decide +kernel
theorem dX5_findOften_50 : decode cX5_findOften 50 = .ok (.iconst 0, 1) := by decide +kernel
theorem dX5_findOften_51 : decode cX5_findOften 51 = .ok (.istore_n 3, 1) := by decide +kernel
theorem dX5_findOften_52 : decode cX5_findOften 52 = .ok (.iload_n 3, 1) := by decide +kernel
theorem dX5_findOften_53 : decode cX5_findOften 53 = .ok (.iload_n 2, 1) := by decide +kernel
theorem dX5_findOften_54 : decode cX5_findOften 54 = .ok (.if_icmp .gt 150, 3) := by decide +kernel
theorem dX5_findOften_57 : decode cX5_findOften 57 = .ok (.aload_n 0, 1) := by decide +kernel
theorem dX5_findOften_58 : decode cX5_findOften 58 = .ok (.invokevirtual 194, 3) := by decide +kernel
theorem dX5_findOften_61 : decode cX5_findOften 61 = .ok (.istore 4, 2) := by decide +kernel
theorem dX5_findOften_63 : decode cX5_findOften 63 = .ok (.iload 4, 2) := by decide +kernel
theorem dX5_findOften_65 : decode cX5_findOften 65 = .ok (.ifCond .lt 19, 3) := by decide +kernel
theorem dX5_findOften_68 : decode cX5_findOften 68 = .ok (.iload_n 3, 1) := by decide +kernel
theorem dX5_findOften_69 : decode cX5_findOften 69 = .ok (.iload_n 1, 1) := by decide +kernel
theorem dX5_findOften_70 : decode cX5_findOften 70 = .ok (.if_icmp .lt 14, 3) := by decide +kernel
theorem dX5_findOften_73 : decode cX5_findOften 73 = .ok (.aload_n 0, 1) := by decide +kernel
theorem dX5_findOften_74 : decode cX5_findOften 74 = .ok (.getfield 43, 3) := by decide +kernel
theorem dX5_findOften_77 : decode cX5_findOften 77 = .ok (.iload 4, 2) := by decide +kernel
theorem dX5_findOften_79 : decode cX5_findOften 79 = .ok (.dup2, 1) := by decide +kernel
theorem dX5_findOften_80 : decode cX5_findOften 80 = .ok (.iaload, 1) := by decide +kernel
theorem dX5_findOften_81 : decode cX5_findOften 81 = .ok (.iconst 1, 1) := by decide +kernel
theorem dX5_findOften_82 : decode cX5_findOften 82 = .ok (.iadd, 1) := by decide +kernel
theorem dX5_findOften_83 : decode cX5_findOften 83 = .ok (.iastore, 1) := by decide +kernel
theorem dX5_findOften_84 : decode cX5_findOften 84 = .ok (.iload 4, 2) := by decide +kernel
theorem dX5_findOften_86 : decode cX5_findOften 86 = .ok (.ifCond .lt 21, 3) := by decide +kernel
theorem dX5_findOften_89 : decode cX5_findOften 89 = .ok (.aload_n 0, 1) := by decide +kernel
theorem dX5_findOften_90 : decode cX5_findOften 90 = .ok (.getfield 46, 3) := by decide +kernel
theorem dX5_findOften_93 : decode cX5_findOften 93 = .ok (.iload 4, 2) := by decide +kernel
theorem dX5_findOften_95 : decode cX5_findOften 95 = .ok (.iaload, 1) := by decide +kernel
theorem dX5_findOften_96 : decode cX5_findOften 96 = .ok (.ifCond .ge 11, 3) := by decide +kernel
theorem dX5_findOften_99 : decode cX5_findOften 99 = .ok (.aload_n 0, 1) := by decide +kernel
theorem dX5_findOften_100 : decode cX5_findOften 100 = .ok (.getfield 46, 3) := by decide +kernel
theorem dX5_findOften_103 : decode cX5_findOften 103 = .ok (.iload 4, 2) := by decide +kernel
theorem dX5_findOften_105 : decode cX5_findOften 105 = .ok (.iload_n 3, 1) := by decide +kernel
theorem dX5_findOften_106 : decode cX5_findOften 106 = .ok (.iastore, 1) := by decide +kernel
theorem dX5_findOften_107 : decode cX5_findOften 107 = .ok (.aload_n 0, 1) := by decide +kernel
theorem dX5_findOften_108 : decode cX5_findOften 108 = .ok (.aload_n 0, 1) := by decide +kernel
theorem dX5_findOften_109 : decode cX5_findOften 109 = .ok (.getfield 55, 3) := by decide +kernel
theorem dX5_findOften_112 : decode cX5_findOften 112 = .ok (.aload_n 0, 1) := by decide +kernel
theorem dX5_findOften_113 : decode cX5_findOften 113 = .ok (.getfield 216, 3) := by decide +kernel
theorem dX5_findOften_116 : decode cX5_findOften 116 = .ok (.if_icmp .ge 10, 3) := by decide +kernel
theorem dX5_findOften_119 : decode cX5_findOften 119 = .ok (.aload_n 0, 1) := by decide +kernel
theorem dX5_findOften_120 : decode cX5_findOften 120 = .ok (.getfield 55, 3) := by decide +kernel
theorem dX5_findOften_123 : decode cX5_findOften 123 = .ok (.goto 7, 3) := by decide +kernel
theorem dX5_findOften_126 : decode cX5_findOften 126 = .ok (.aload_n 0, 1) := by decide +kernel
theorem dX5_findOften_127 : decode cX5_findOften 127 = .ok (.getfield 216, 3) := by decide +kernel
theorem dX5_findOften_130 : decode cX5_findOften 130 = .ok (.putfield 216, 3) := by decide +kernel
theorem dX5_findOften_133 : decode cX5_findOften 133 = .ok (.aload_n 0, 1) := by decide +kernel
theorem dX5_findOften_134 : decode cX5_findOften 134 = .ok (.aload_n 0, 1) := by decide +kernel
theorem dX5_findOften_135 : decode cX5_findOften 135 = .ok (.getfield 55, 3) := by decide +kernel
theorem dX5_findOften_138 : decode cX5_findOften 138 = .ok (.aload_n 0, 1) := by decide +kernel
theorem dX5_findOften_139 : decode cX5_findOften 139 = .ok (.getfield 219, 3) := by decide +kernel
theorem dX5_findOften_142 : decode cX5_findOften 142 = .ok (.if_icmp .le 10, 3) := by decide +kernel
theorem dX5_findOften_145 : decode cX5_findOften 145 = .ok (.aload_n 0, 1) := by decide +kernel
theorem dX5_findOften_146 : decode cX5_findOften 146 = .ok (.getfield 55, 3) := by decide +kernel
theorem dX5_findOften_149 : decode cX5_findOften 149 = .ok (.goto 7, 3) := by decide +kernel
theorem dX5_findOften_152 : decode cX5_findOften 152 = .ok (.aload_n 0, 1) := by decide +kernel
theorem dX5_findOften_153 : decode cX5_findOften 153 = .ok (.getfield 219, 3) := by decide +kernel
theorem dX5_findOften_156 : decode cX5_findOften 156 = .ok (.putfield 219, 3) := by decide +kernel
theorem dX5_findOften_159 : decode cX5_findOften 159 = .ok (.aload_n 0, 1) := by decide +kernel
theorem dX5_findOften_160 : decode cX5_findOften 160 = .ok (.getfield 55, 3) := by decide +kernel
theorem dX5_findOften_163 : decode cX5_findOften 163 = .ok (.istore 5, 2) := by decide +kernel
theorem dX5_findOften_165 : decode cX5_findOften 165 = .ok (.aload_n 0, 1) := by decide +kernel
theorem dX5_findOften_166 : decode cX5_findOften 166 = .ok (.iconst 0, 1) := by decide +kernel
theorem dX5_findOften_167 : decode cX5_findOften 167 = .ok (.invokevirtual 197, 3) := by decide +kernel
theorem dX5_findOften_170 : decode cX5_findOften 170 = .ok (.aload_n 0, 1) := by decide +kernel
theorem dX5_findOften_171 : decode cX5_findOften 171 = .ok (.aload_n 0, 1) := by decide +kernel
theorem dX5_findOften_172 : decode cX5_findOften 172 = .ok (.getfield 222, 3) := by decide +kernel
theorem dX5_findOften_175 : decode cX5_findOften 175 = .ok (.ifCond .ge 16, 3) := by decide +kernel
theorem dX5_findOften_178 : decode cX5_findOften 178 = .ok (.aload_n 0, 1) := by decide +kernel
theorem dX5_findOften_179 : decode cX5_findOften 179 = .ok (.getfield 55, 3) := by decide +kernel
theorem dX5_findOften_182 : decode cX5_findOften 182 = .ok (.iload 5, 2) := by decide +kernel
theorem dX5_findOften_184 : decode cX5_findOften 184 = .ok (.if_icmp .ne 7, 3) := by decide +kernel
theorem dX5_findOften_187 : decode cX5_findOften 187 = .ok (.iload_n 3, 1) := by decide +kernel
theorem dX5_findOften_188 : decode cX5_findOften 188 = .ok (.goto 7, 3) := by decide +kernel
theorem dX5_findOften_191 : decode cX5_findOften 191 = .ok (.aload_n 0, 1) := by decide +kernel
theorem dX5_findOften_192 : decode cX5_findOften 192 = .ok (.getfield 222, 3) := by decide +kernel
theorem dX5_findOften_195 : decode cX5_findOften 195 = .ok (.putfield 222, 3) := by decide +kernel
theorem dX5_findOften_198 : decode cX5_findOften 198 = .ok (.iinc 3 1, 3) := by decide +kernel
theorem dX5_findOften_201 : decode cX5_findOften 201 = .ok (.goto (-149), 3) := by decide +kernel
theorem dX5_findOften_204 : decode cX5_findOften 204 = .ok (.aload_n 0, 1) := by decide +kernel
theorem dX5_findOften_205 : decode cX5_findOften 205 = .ok (.invokevirtual 213, 3) := by decide +kernel
theorem dX5_findOften_208 : decode cX5_findOften 208 = .ok (.return_, 1) := by decide +kernel
set_option maxRecDepth 20000 in
theorem ggX5_oftenOf_X5_findOften : GoodIn wsX5_oftenOf wsX5_findOften := goodIn_r _ [6, 1, 7, 8, 9, 10, 11, 12, 13, 14, 5, 15, 16, 17, 18, 19, 20, 21, 22, 23, 24, 25, 26, 27, 28, 29, 30, 31, 32, 33, 34, 35, 36, 37, 38, 39, 40, 41, 42, 43, 44, 45, 46, 47, 48, 49, 50, 51, 52, 53, 54, 55, 56, 57, 58, 59, 60, 61, 62, 63, 64, 65, 66, 67, 68, 69, 70, 71, 72, 73, 74, 75, 76, 77, 78, 79, 80, 81, 82, 83, 84, 85, 86, 87, 88, 89, 90, 91, 92, 93, 94, 95, 96, 97, 98, 99, 100, 101, 102, 103, 104, 105, 106, 107, 108, 109, 110, 111, 112, 113, 114, 115, 116, 117, 118, 119, 120, 121, 122, 123, 124, 125] (by decide +kernel) (by decide +kernel)
set_option maxRecDepth 20000 in
theorem gX5_oftenOf_X5_findOften : GoodIn wsX5_oftenOf (wsV RX5 225 RX5 yX5_findOften wsX5_findOften) := goodIn_app (goodIn_of _ (by decide +kernel)) ggX5_oftenOf_X5_findOften
theorem dX5_oftenOf_0 : decode cX5_oftenOf 0 = .ok (.aload_n 0, 1) := by decide +kernel
theorem dX5_oftenOf_1 : decode cX5_oftenOf 1 = .ok (.iconst 1, 1) := by decide +kernel
theorem dX5_oftenOf_2 : decode cX5_oftenOf 2 = .ok (.iload_n 2, 1) := by decide +kernel
theorem dX5_oftenOf_3 : decode cX5_oftenOf 3 = .ok (.invokevirtual 225, 3) := by decide +kernel
theorem dX5_oftenOf_6 : decode cX5_oftenOf 6 = .ok (.aload_n 0, 1) := by decide +kernel
theorem dX5_oftenOf_7 : decode cX5_oftenOf 7 = .ok (.getfield 43, 3) := by decide +kernel
theorem dX5_oftenOf_10 : decode cX5_oftenOf 10 = .ok (.iload_n 1, 1) := by decide +kernel
theorem dX5_oftenOf_11 : decode cX5_oftenOf 11 = .ok (.iaload, 1) := by decide +kernel
theorem dX5_oftenOf_12 : decode cX5_oftenOf 12 = .ok (.ireturn, 1) := by decide +kernel
set_option maxRecDepth 20000 in
theorem ggX5_first_X5_isShore : GoodIn wsX5_first wsX5_isShore := goodIn_r _ [6, 7, 102, 103, 104, 105, 106, 107, 108, 109, 110, 111, 112, 113, 114, 115, 116, 117, 118, 119, 120, 121, 122, 123, 124, 125, 126, 127, 128, 129, 130, 131, 132, 133, 134] (by decide +kernel) (by decide +kernel)
set_option maxRecDepth 20000 in
theorem gX5_first_X5_isShore : GoodIn wsX5_first (wsV RX5 123 RX5 yX5_isShore wsX5_isShore) := goodIn_app (goodIn_of _ (by decide +kernel)) ggX5_first_X5_isShore
set_option maxRecDepth 20000 in
theorem ggX5_first_X5_no : GoodIn wsX5_first wsX5_no := goodIn_r _ [11, 12, 102, 103, 104, 105, 106, 107, 108, 109, 110, 111, 112, 113, 114, 115, 116, 117, 118, 119, 120, 121, 122, 123, 124, 125, 126, 127, 128, 129, 130, 131, 132, 133, 134] (by decide +kernel) (by decide +kernel)
set_option maxRecDepth 20000 in
theorem gX5_first_X5_no : GoodIn wsX5_first (wsV RX5 77 RX5 yX5_no wsX5_no) := goodIn_app (goodIn_of _ (by decide +kernel)) ggX5_first_X5_no
set_option maxRecDepth 20000 in
theorem ggX5_first_X5_findOften : GoodIn wsX5_first wsX5_findOften := goodIn_r _ [16, 17, 1, 18, 19, 20, 21, 22, 23, 24, 5, 25, 26, 27, 28, 29, 30, 31, 32, 33, 34, 35, 36, 7, 37, 38, 39, 40, 41, 42, 43, 44, 45, 46, 47, 48, 49, 50, 51, 52, 53, 54, 55, 56, 57, 58, 59, 60, 61, 62, 63, 64, 65, 66, 67, 68, 69, 70, 71, 72, 73, 74, 75, 76, 77, 78, 79, 80, 81, 82, 83, 84, 85, 86, 87, 88, 89, 90, 91, 92, 93, 94, 95, 96, 97, 98, 99, 100, 101, 102, 103, 104, 105, 106, 107, 108, 109, 110, 111, 112, 113, 114, 115, 116, 117, 118, 119, 120, 121, 122, 123, 124, 125, 126, 127, 128, 129, 130, 131, 132, 133, 134] (by decide +kernel) (by decide +kernel)
set_option maxRecDepth 20000 in
theorem gX5_first_X5_findOften : GoodIn wsX5_first (wsV RX5 225 RX5 yX5_findOften wsX5_findOften) := goodIn_app (goodIn_of _ (by decide +kernel)) ggX5_first_X5_findOften
theorem dX5_first_0 : decode cX5_first 0 = .ok (.aload_n 0, 1) := by decide +kernel
theorem dX5_first_1 : decode cX5_first 1 = .ok (.iload_n 1, 1) := by decide +kernel
theorem dX5_first_2 : decode cX5_first 2 = .ok (.invokevirtual 123, 3) := by decide +kernel
theorem dX5_first_5 : decode cX5_first 5 = .ok (.ifCond .ne 9, 3) := by decide +kernel
theorem dX5_first_8 : decode cX5_first 8 = .ok (.aload_n 0, 1) := by decide +kernel
theorem dX5_first_9 : decode cX5_first 9 = .ok (.iconst (-1), 1) := by decide +kernel
theorem dX5_first_10 : decode cX5_first 10 = .ok (.invokevirtual 77, 3) := by decide +kernel
theorem dX5_first_13 : decode cX5_first 13 = .ok (.ireturn, 1) := by decide +kernel
theorem dX5_first_14 : decode cX5_first 14 = .ok (.aload_n 0, 1) := by decide +kernel
theorem dX5_first_15 : decode cX5_first 15 = .ok (.iconst 0, 1) := by decide +kernel
theorem dX5_first_16 : decode cX5_first 16 = .ok (.bipush 99, 2) := by decide +kernel
theorem dX5_first_18 : decode cX5_first 18 = .ok (.invokevirtual 225, 3) := by decide +kernel
theorem dX5_first_21 : decode cX5_first 21 = .ok (.aload_n 0, 1) := by decide +kernel
theorem dX5_first_22 : decode cX5_first 22 = .ok (.getfield 46, 3) := by decide +kernel
theorem dX5_first_25 : decode cX5_first 25 = .ok (.iload_n 1, 1) := by decide +kernel
theorem dX5_first_26 : decode cX5_first 26 = .ok (.iaload, 1) := by decide +kernel
theorem dX5_first_27 : decode cX5_first 27 = .ok (.ireturn, 1) := by decide +kernel
set_option maxRecDepth 20000 in
theorem ggX5_whoFirst_X5_isIn : GoodIn wsX5_whoFirst wsX5_isIn := goodIn_r _ [7] (by decide +kernel) (by decide +kernel)
set_option maxRecDepth 20000 in
theorem gX5_whoFirst_X5_isIn : GoodIn wsX5_whoFirst (va_wsS RX5 88 yX5_isIn wsX5_isIn) := goodIn_app (goodIn_of _ (by decide +kernel)) ggX5_whoFirst_X5_isIn
set_option maxRecDepth 20000 in
theorem ggX5_whoFirst_X5_no : GoodIn wsX5_whoFirst wsX5_no := goodIn_r _ [11, 12, 98, 99, 100, 101, 102, 103, 104, 105, 106, 107, 108, 109, 110, 111, 112, 113, 114, 115, 116, 117, 118, 119, 120, 121, 122, 123, 124, 125, 126, 127, 128, 129, 130] (by decide +kernel) (by decide +kernel)
set_option maxRecDepth 20000 in
theorem gX5_whoFirst_X5_no : GoodIn wsX5_whoFirst (wsV RX5 77 RX5 yX5_no wsX5_no) := goodIn_app (goodIn_of _ (by decide +kernel)) ggX5_whoFirst_X5_no
set_option maxRecDepth 20000 in
theorem ggX5_whoFirst_X5_findOften : GoodIn wsX5_whoFirst wsX5_findOften := goodIn_r _ [16, 17, 2, 18, 19, 3, 20, 21, 22, 23, 6, 24, 25, 26, 27, 28, 29, 30, 31, 32, 33, 34, 35, 1, 36, 37, 38, 39, 40, 41, 42, 43, 44, 45, 46, 47, 48, 49, 50, 51, 52, 53, 54, 55, 56, 57, 58, 59, 60, 61, 62, 63, 64, 65, 66, 67, 68, 69, 70, 71, 72, 73, 74, 75, 76, 77, 78, 79, 4, 5, 7, 80, 81, 82, 83, 84, 85, 86, 87, 88, 89, 90, 91, 92, 93, 94, 95, 96, 97, 98, 99, 100, 101, 102, 103, 104, 105, 106, 107, 108, 109, 110, 111, 112, 113, 114, 115, 116, 117, 118, 119, 120, 121, 122, 123, 124, 125, 126, 127, 128, 129, 130] (by decide +kernel) (by decide +kernel)
set_option maxRecDepth 20000 in
theorem gX5_whoFirst_X5_findOften : GoodIn wsX5_whoFirst (wsV RX5 225 RX5 yX5_findOften wsX5_findOften) := goodIn_app (goodIn_of _ (by decide +kernel)) ggX5_whoFirst_X5_findOften
theorem dX5_whoFirst_0 : decode cX5_whoFirst 0 = .ok (.iload_n 1, 1) := by decide +kernel
theorem dX5_whoFirst_1 : decode cX5_whoFirst 1 = .ok (.iconst 0, 1) := by decide +kernel
theorem dX5_whoFirst_2 : decode cX5_whoFirst 2 = .ok (.iconst 2, 1) := by decide +kernel
theorem dX5_whoFirst_3 : decode cX5_whoFirst 3 = .ok (.invokestatic 88, 3) := by decide +kernel
theorem dX5_whoFirst_6 : decode cX5_whoFirst 6 = .ok (.ifCond .ne 10, 3) := by decide +kernel
theorem dX5_whoFirst_9 : decode cX5_whoFirst 9 = .ok (.aload_n 0, 1) := by decide +kernel
theorem dX5_whoFirst_10 : decode cX5_whoFirst 10 = .ok (.bipush (-2), 2) := by decide +kernel
theorem dX5_whoFirst_12 : decode cX5_whoFirst 12 = .ok (.invokevirtual 77, 3) := by decide +kernel
theorem dX5_whoFirst_15 : decode cX5_whoFirst 15 = .ok (.ireturn, 1) := by decide +kernel
theorem dX5_whoFirst_16 : decode cX5_whoFirst 16 = .ok (.aload_n 0, 1) := by decide +kernel
theorem dX5_whoFirst_17 : decode cX5_whoFirst 17 = .ok (.iconst 0, 1) := by decide +kernel
theorem dX5_whoFirst_18 : decode cX5_whoFirst 18 = .ok (.bipush 99, 2) := by decide +kernel
theorem dX5_whoFirst_20 : decode cX5_whoFirst 20 = .ok (.invokevirtual 225, 3) := by decide +kernel
theorem dX5_whoFirst_23 : decode cX5_whoFirst 23 = .ok (.bipush (-9), 2) := by decide +kernel
theorem dX5_whoFirst_25 : decode cX5_whoFirst 25 = .ok (.istore_n 2, 1) := by decide +kernel
theorem dX5_whoFirst_26 : decode cX5_whoFirst 26 = .ok (.iconst 0, 1) := by decide +kernel
theorem dX5_whoFirst_27 : decode cX5_whoFirst 27 = .ok (.istore_n 3, 1) := by decide +kernel
theorem dX5_whoFirst_28 : decode cX5_whoFirst 28 = .ok (.iconst 0, 1) := by decide +kernel
theorem dX5_whoFirst_29 : decode cX5_whoFirst 29 = .ok (.istore 4, 2) := by decide +kernel
theorem dX5_whoFirst_31 : decode cX5_whoFirst 31 = .ok (.iload 4, 2) := by decide +kernel
theorem dX5_whoFirst_33 : decode cX5_whoFirst 33 = .ok (.aload_n 0, 1) := by decide +kernel
theorem dX5_whoFirst_34 : decode cX5_whoFirst 34 = .ok (.getfield 67, 3) := by decide +kernel
theorem dX5_whoFirst_37 : decode cX5_whoFirst 37 = .ok (.if_icmp .ge 63, 3) := by decide +kernel
theorem dX5_whoFirst_40 : decode cX5_whoFirst 40 = .ok (.iload_n 3, 1) := by decide +kernel
theorem dX5_whoFirst_41 : decode cX5_whoFirst 41 = .ok (.aload_n 0, 1) := by decide +kernel
theorem dX5_whoFirst_42 : decode cX5_whoFirst 42 = .ok (.getfield 46, 3) := by decide +kernel
theorem dX5_whoFirst_45 : decode cX5_whoFirst 45 = .ok (.iload 4, 2) := by decide +kernel
theorem dX5_whoFirst_47 : decode cX5_whoFirst 47 = .ok (.iaload, 1) := by decide +kernel
theorem dX5_whoFirst_48 : decode cX5_whoFirst 48 = .ok (.ifCond .ge 10, 3) := by decide +kernel
theorem dX5_whoFirst_51 : decode cX5_whoFirst 51 = .ok (.iconst 1, 1) := by decide +kernel
theorem dX5_whoFirst_52 : decode cX5_whoFirst 52 = .ok (.iload 4, 2) := by decide +kernel
theorem dX5_whoFirst_54 : decode cX5_whoFirst 54 = .ok (.ishl, 1) := by decide +kernel
theorem dX5_whoFirst_55 : decode cX5_whoFirst 55 = .ok (.goto 4, 3) := by decide +kernel
theorem dX5_whoFirst_58 : decode cX5_whoFirst 58 = .ok (.iconst 0, 1) := by decide +kernel
theorem dX5_whoFirst_59 : decode cX5_whoFirst 59 = .ok (.ior, 1) := by decide +kernel
theorem dX5_whoFirst_60 : decode cX5_whoFirst 60 = .ok (.istore_n 3, 1) := by decide +kernel
theorem dX5_whoFirst_61 : decode cX5_whoFirst 61 = .ok (.aload_n 0, 1) := by decide +kernel
theorem dX5_whoFirst_62 : decode cX5_whoFirst 62 = .ok (.getfield 46, 3) := by decide +kernel
theorem dX5_whoFirst_65 : decode cX5_whoFirst 65 = .ok (.iload 4, 2) := by decide +kernel
theorem dX5_whoFirst_67 : decode cX5_whoFirst 67 = .ok (.iaload, 1) := by decide +kernel
theorem dX5_whoFirst_68 : decode cX5_whoFirst 68 = .ok (.ifCond .lt 26, 3) := by decide +kernel
theorem dX5_whoFirst_71 : decode cX5_whoFirst 71 = .ok (.iload_n 2, 1) := by decide +kernel
theorem dX5_whoFirst_72 : decode cX5_whoFirst 72 = .ok (.ifCond .lt 19, 3) := by decide +kernel
theorem dX5_whoFirst_75 : decode cX5_whoFirst 75 = .ok (.aload_n 0, 1) := by decide +kernel
theorem dX5_whoFirst_76 : decode cX5_whoFirst 76 = .ok (.getfield 46, 3) := by decide +kernel
theorem dX5_whoFirst_79 : decode cX5_whoFirst 79 = .ok (.iload 4, 2) := by decide +kernel
theorem dX5_whoFirst_81 : decode cX5_whoFirst 81 = .ok (.iaload, 1) := by decide +kernel
theorem dX5_whoFirst_82 : decode cX5_whoFirst 82 = .ok (.aload_n 0, 1) := by decide +kernel
theorem dX5_whoFirst_83 : decode cX5_whoFirst 83 = .ok (.getfield 46, 3) := by decide +kernel
theorem dX5_whoFirst_86 : decode cX5_whoFirst 86 = .ok (.iload_n 2, 1) := by decide +kernel
theorem dX5_whoFirst_87 : decode cX5_whoFirst 87 = .ok (.iaload, 1) := by decide +kernel
theorem dX5_whoFirst_88 : decode cX5_whoFirst 88 = .ok (.if_icmp .ge 6, 3) := by decide +kernel
theorem dX5_whoFirst_91 : decode cX5_whoFirst 91 = .ok (.iload 4, 2) := by decide +kernel
theorem dX5_whoFirst_93 : decode cX5_whoFirst 93 = .ok (.istore_n 2, 1) := by decide +kernel
theorem dX5_whoFirst_94 : decode cX5_whoFirst 94 = .ok (.iinc 4 1, 3) := by decide +kernel
theorem dX5_whoFirst_97 : decode cX5_whoFirst 97 = .ok (.goto (-66), 3) := by decide +kernel
theorem dX5_whoFirst_100 : decode cX5_whoFirst 100 = .ok (.iload_n 1, 1) := by decide +kernel
theorem dX5_whoFirst_101 : decode cX5_whoFirst 101 = .ok (.ifCond .ne 7, 3) := by decide +kernel
theorem dX5_whoFirst_104 : decode cX5_whoFirst 104 = .ok (.iload_n 2, 1) := by decide +kernel
theorem dX5_whoFirst_105 : decode cX5_whoFirst 105 = .ok (.goto 16, 3) := by decide +kernel
theorem dX5_whoFirst_108 : decode cX5_whoFirst 108 = .ok (.iload_n 1, 1) := by decide +kernel
theorem dX5_whoFirst_109 : decode cX5_whoFirst 109 = .ok (.iconst 1, 1) := by decide +kernel
theorem dX5_whoFirst_110 : decode cX5_whoFirst 110 = .ok (.if_icmp .ne 7, 3) := by decide +kernel
theorem dX5_whoFirst_113 : decode cX5_whoFirst 113 = .ok (.iload_n 3, 1) := by decide +kernel
theorem dX5_whoFirst_114 : decode cX5_whoFirst 114 = .ok (.goto 7, 3) := by decide +kernel
theorem dX5_whoFirst_117 : decode cX5_whoFirst 117 = .ok (.aload_n 0, 1) := by decide +kernel
theorem dX5_whoFirst_118 : decode cX5_whoFirst 118 = .ok (.getfield 222, 3) := by decide +kernel
theorem dX5_whoFirst_121 : decode cX5_whoFirst 121 = .ok (.ireturn, 1) := by decide +kernel
set_option maxRecDepth 20000 in
theorem ggX5_most_X5_notHours : GoodIn wsX5_most wsX5_notHours := goodIn_r _ [6, 7, 8, 5, 9] (by decide +kernel) (by decide +kernel)
set_option maxRecDepth 20000 in
theorem gX5_most_X5_notHours : GoodIn wsX5_most (va_wsS RX5 207 yX5_notHours wsX5_notHours) := goodIn_app (goodIn_of _ (by decide +kernel)) ggX5_most_X5_notHours
set_option maxRecDepth 20000 in
theorem ggX5_most_X5_isIn : GoodIn wsX5_most wsX5_isIn := goodIn_r _ [12] (by decide +kernel) (by decide +kernel)
set_option maxRecDepth 20000 in
theorem gX5_most_X5_isIn : GoodIn wsX5_most (va_wsS RX5 88 yX5_isIn wsX5_isIn) := goodIn_app (goodIn_of _ (by decide +kernel)) ggX5_most_X5_isIn
set_option maxRecDepth 20000 in
theorem ggX5_most_X5_no : GoodIn wsX5_most wsX5_no := goodIn_r _ [16, 17, 104, 105, 106, 107, 108, 109, 110, 111, 112, 113, 114, 115, 116, 117, 118, 119, 120, 121, 122, 123, 124, 125, 126, 127, 128, 129, 130, 131, 132, 133, 134, 135, 136] (by decide +kernel) (by decide +kernel)
set_option maxRecDepth 20000 in
theorem gX5_most_X5_no : GoodIn wsX5_most (wsV RX5 77 RX5 yX5_no wsX5_no) := goodIn_app (goodIn_of _ (by decide +kernel)) ggX5_most_X5_no
set_option maxRecDepth 20000 in
theorem ggX5_most_X5_findOften : GoodIn wsX5_most wsX5_findOften := goodIn_r _ [21, 2, 22, 23, 24, 25, 26, 27, 28, 29, 5, 30, 31, 32, 33, 34, 35, 36, 37, 38, 39, 40, 41, 1, 42, 43, 44, 45, 46, 47, 48, 49, 50, 51, 52, 53, 54, 55, 56, 57, 58, 59, 60, 61, 62, 63, 64, 65, 66, 67, 68, 69, 70, 71, 72, 73, 74, 75, 76, 77, 78, 79, 80, 81, 82, 83, 84, 85, 10, 11, 12, 86, 87, 88, 89, 90, 91, 92, 93, 94, 95, 96, 97, 98, 99, 100, 101, 102, 103, 104, 105, 106, 107, 108, 109, 110, 111, 112, 113, 114, 115, 116, 117, 118, 119, 120, 121, 122, 123, 124, 125, 126, 127, 128, 129, 130, 131, 132, 133, 134, 135, 136] (by decide +kernel) (by decide +kernel)
set_option maxRecDepth 20000 in
theorem gX5_most_X5_findOften : GoodIn wsX5_most (wsV RX5 225 RX5 yX5_findOften wsX5_findOften) := goodIn_app (goodIn_of _ (by decide +kernel)) ggX5_most_X5_findOften
theorem dX5_most_0 : decode cX5_most 0 = .ok (.iload_n 1, 1) := by decide +kernel
theorem dX5_most_1 : decode cX5_most 1 = .ok (.invokestatic 207, 3) := by decide +kernel
theorem dX5_most_4 : decode cX5_most 4 = .ok (.istore_n 3, 1) := by decide +kernel
theorem dX5_most_5 : decode cX5_most 5 = .ok (.iload_n 3, 1) := by decide +kernel
theorem dX5_most_6 : decode cX5_most 6 = .ok (.ifCond .ne 15, 3) := by decide +kernel
theorem dX5_most_9 : decode cX5_most 9 = .ok (.iload_n 2, 1) := by decide +kernel
theorem dX5_most_10 : decode cX5_most 10 = .ok (.iconst 0, 1) := by decide +kernel
theorem dX5_most_11 : decode cX5_most 11 = .ok (.iconst 1, 1) := by decide +kernel
theorem dX5_most_12 : decode cX5_most 12 = .ok (.invokestatic 88, 3) := by decide +kernel
theorem dX5_most_15 : decode cX5_most 15 = .ok (.ifCond .ne 6, 3) := by decide +kernel
theorem dX5_most_18 : decode cX5_most 18 = .ok (.bipush (-2), 2) := by decide +kernel
theorem dX5_most_20 : decode cX5_most 20 = .ok (.istore_n 3, 1) := by decide +kernel
theorem dX5_most_21 : decode cX5_most 21 = .ok (.iload_n 3, 1) := by decide +kernel
theorem dX5_most_22 : decode cX5_most 22 = .ok (.ifCond .eq 9, 3) := by decide +kernel
theorem dX5_most_25 : decode cX5_most 25 = .ok (.aload_n 0, 1) := by decide +kernel
theorem dX5_most_26 : decode cX5_most 26 = .ok (.iload_n 3, 1) := by decide +kernel
theorem dX5_most_27 : decode cX5_most 27 = .ok (.invokevirtual 77, 3) := by decide +kernel
theorem dX5_most_30 : decode cX5_most 30 = .ok (.ireturn, 1) := by decide +kernel
theorem dX5_most_31 : decode cX5_most 31 = .ok (.aload_n 0, 1) := by decide +kernel
theorem dX5_most_32 : decode cX5_most 32 = .ok (.iconst 1, 1) := by decide +kernel
theorem dX5_most_33 : decode cX5_most 33 = .ok (.iload_n 1, 1) := by decide +kernel
theorem dX5_most_34 : decode cX5_most 34 = .ok (.invokevirtual 225, 3) := by decide +kernel
theorem dX5_most_37 : decode cX5_most 37 = .ok (.bipush (-9), 2) := by decide +kernel
theorem dX5_most_39 : decode cX5_most 39 = .ok (.istore 4, 2) := by decide +kernel
theorem dX5_most_41 : decode cX5_most 41 = .ok (.iconst 0, 1) := by decide +kernel
theorem dX5_most_42 : decode cX5_most 42 = .ok (.istore 5, 2) := by decide +kernel
theorem dX5_most_44 : decode cX5_most 44 = .ok (.iconst 0, 1) := by decide +kernel
theorem dX5_most_45 : decode cX5_most 45 = .ok (.istore 6, 2) := by decide +kernel
theorem dX5_most_47 : decode cX5_most 47 = .ok (.iload 6, 2) := by decide +kernel
theorem dX5_most_49 : decode cX5_most 49 = .ok (.aload_n 0, 1) := by decide +kernel
theorem dX5_most_50 : decode cX5_most 50 = .ok (.getfield 67, 3) := by decide +kernel
theorem dX5_most_53 : decode cX5_most 53 = .ok (.if_icmp .ge 37, 3) := by decide +kernel
theorem dX5_most_56 : decode cX5_most 56 = .ok (.aload_n 0, 1) := by decide +kernel
theorem dX5_most_57 : decode cX5_most 57 = .ok (.getfield 43, 3) := by decide +kernel
theorem dX5_most_60 : decode cX5_most 60 = .ok (.iload 6, 2) := by decide +kernel
theorem dX5_most_62 : decode cX5_most 62 = .ok (.iaload, 1) := by decide +kernel
theorem dX5_most_63 : decode cX5_most 63 = .ok (.iload 5, 2) := by decide +kernel
theorem dX5_most_65 : decode cX5_most 65 = .ok (.if_icmp .gt 6, 3) := by decide +kernel
theorem dX5_most_68 : decode cX5_most 68 = .ok (.goto 16, 3) := by decide +kernel
theorem dX5_most_71 : decode cX5_most 71 = .ok (.iload 6, 2) := by decide +kernel
theorem dX5_most_73 : decode cX5_most 73 = .ok (.istore 4, 2) := by decide +kernel
theorem dX5_most_75 : decode cX5_most 75 = .ok (.aload_n 0, 1) := by decide +kernel
theorem dX5_most_76 : decode cX5_most 76 = .ok (.getfield 43, 3) := by decide +kernel
theorem dX5_most_79 : decode cX5_most 79 = .ok (.iload 6, 2) := by decide +kernel
theorem dX5_most_81 : decode cX5_most 81 = .ok (.iaload, 1) := by decide +kernel
theorem dX5_most_82 : decode cX5_most 82 = .ok (.istore 5, 2) := by decide +kernel
theorem dX5_most_84 : decode cX5_most 84 = .ok (.iinc 6 1, 3) := by decide +kernel
theorem dX5_most_87 : decode cX5_most 87 = .ok (.goto (-40), 3) := by decide +kernel
theorem dX5_most_90 : decode cX5_most 90 = .ok (.iload_n 2, 1) := by decide +kernel
theorem dX5_most_91 : decode cX5_most 91 = .ok (.ifCond .ne 8, 3) := by decide +kernel
theorem dX5_most_94 : decode cX5_most 94 = .ok (.iload 4, 2) := by decide +kernel
theorem dX5_most_96 : decode cX5_most 96 = .ok (.goto 5, 3) := by decide +kernel
theorem dX5_most_99 : decode cX5_most 99 = .ok (.iload 5, 2) := by decide +kernel
theorem dX5_most_101 : decode cX5_most 101 = .ok (.ireturn, 1) := by decide +kernel
set_option maxRecDepth 20000 in
theorem ggX5_farthest_X5_notHours : GoodIn wsX5_farthest wsX5_notHours := goodIn_r _ [6, 7, 8, 5, 9] (by decide +kernel) (by decide +kernel)
set_option maxRecDepth 20000 in
theorem gX5_farthest_X5_notHours : GoodIn wsX5_farthest (va_wsS RX5 207 yX5_notHours wsX5_notHours) := goodIn_app (goodIn_of _ (by decide +kernel)) ggX5_farthest_X5_notHours
set_option maxRecDepth 20000 in
theorem ggX5_farthest_X5_isIn : GoodIn wsX5_farthest wsX5_isIn := goodIn_r _ [12] (by decide +kernel) (by decide +kernel)
set_option maxRecDepth 20000 in
theorem gX5_farthest_X5_isIn : GoodIn wsX5_farthest (va_wsS RX5 88 yX5_isIn wsX5_isIn) := goodIn_app (goodIn_of _ (by decide +kernel)) ggX5_farthest_X5_isIn
set_option maxRecDepth 20000 in
theorem ggX5_farthest_X5_no : GoodIn wsX5_farthest wsX5_no := goodIn_r _ [16, 17, 104, 105, 106, 107, 108, 109, 110, 111, 112, 113, 114, 115, 116, 117, 118, 119, 120, 121, 122, 123, 124, 125, 126, 127, 128, 129, 130, 131, 132, 133, 134, 135, 136] (by decide +kernel) (by decide +kernel)
set_option maxRecDepth 20000 in
theorem gX5_farthest_X5_no : GoodIn wsX5_farthest (wsV RX5 77 RX5 yX5_no wsX5_no) := goodIn_app (goodIn_of _ (by decide +kernel)) ggX5_farthest_X5_no
set_option maxRecDepth 20000 in
theorem ggX5_farthest_X5_findOften : GoodIn wsX5_farthest wsX5_findOften := goodIn_r _ [21, 22, 23, 1, 2, 24, 25, 26, 27, 28, 5, 29, 30, 31, 32, 33, 34, 35, 36, 37, 38, 39, 40, 41, 42, 43, 44, 45, 46, 47, 48, 49, 50, 51, 52, 53, 54, 55, 56, 57, 58, 59, 60, 61, 62, 63, 64, 65, 66, 67, 68, 69, 70, 71, 72, 73, 74, 75, 76, 77, 78, 79, 80, 81, 82, 83, 84, 85, 10, 11, 12, 86, 87, 88, 89, 90, 91, 92, 93, 94, 95, 96, 97, 98, 99, 100, 101, 102, 103, 104, 105, 106, 107, 108, 109, 110, 111, 112, 113, 114, 115, 116, 117, 118, 119, 120, 121, 122, 123, 124, 125, 126, 127, 128, 129, 130, 131, 132, 133, 134, 135, 136] (by decide +kernel) (by decide +kernel)
set_option maxRecDepth 20000 in
theorem gX5_farthest_X5_findOften : GoodIn wsX5_farthest (wsV RX5 225 RX5 yX5_findOften wsX5_findOften) := goodIn_app (goodIn_of _ (by decide +kernel)) ggX5_farthest_X5_findOften
theorem dX5_farthest_0 : decode cX5_farthest 0 = .ok (.iload_n 1, 1) := by decide +kernel
theorem dX5_farthest_1 : decode cX5_farthest 1 = .ok (.invokestatic 207, 3) := by decide +kernel
theorem dX5_farthest_4 : decode cX5_farthest 4 = .ok (.istore_n 3, 1) := by decide +kernel
theorem dX5_farthest_5 : decode cX5_farthest 5 = .ok (.iload_n 3, 1) := by decide +kernel
theorem dX5_farthest_6 : decode cX5_farthest 6 = .ok (.ifCond .ne 15, 3) := by decide +kernel
theorem dX5_farthest_9 : decode cX5_farthest 9 = .ok (.iload_n 2, 1) := by decide +kernel
theorem dX5_farthest_10 : decode cX5_farthest 10 = .ok (.iconst 0, 1) := by decide +kernel
theorem dX5_farthest_11 : decode cX5_farthest 11 = .ok (.iconst 1, 1) := by decide +kernel
theorem dX5_farthest_12 : decode cX5_farthest 12 = .ok (.invokestatic 88, 3) := by decide +kernel
theorem dX5_farthest_15 : decode cX5_farthest 15 = .ok (.ifCond .ne 6, 3) := by decide +kernel
theorem dX5_farthest_18 : decode cX5_farthest 18 = .ok (.bipush (-2), 2) := by decide +kernel
theorem dX5_farthest_20 : decode cX5_farthest 20 = .ok (.istore_n 3, 1) := by decide +kernel
theorem dX5_farthest_21 : decode cX5_farthest 21 = .ok (.iload_n 3, 1) := by decide +kernel
theorem dX5_farthest_22 : decode cX5_farthest 22 = .ok (.ifCond .eq 9, 3) := by decide +kernel
theorem dX5_farthest_25 : decode cX5_farthest 25 = .ok (.aload_n 0, 1) := by decide +kernel
theorem dX5_farthest_26 : decode cX5_farthest 26 = .ok (.iload_n 3, 1) := by decide +kernel
theorem dX5_farthest_27 : decode cX5_farthest 27 = .ok (.invokevirtual 77, 3) := by decide +kernel
theorem dX5_farthest_30 : decode cX5_farthest 30 = .ok (.ireturn, 1) := by decide +kernel
theorem dX5_farthest_31 : decode cX5_farthest 31 = .ok (.aload_n 0, 1) := by decide +kernel
theorem dX5_farthest_32 : decode cX5_farthest 32 = .ok (.iconst 0, 1) := by decide +kernel
theorem dX5_farthest_33 : decode cX5_farthest 33 = .ok (.iload_n 1, 1) := by decide +kernel
theorem dX5_farthest_34 : decode cX5_farthest 34 = .ok (.invokevirtual 225, 3) := by decide +kernel
theorem dX5_farthest_37 : decode cX5_farthest 37 = .ok (.iload_n 2, 1) := by decide +kernel
theorem dX5_farthest_38 : decode cX5_farthest 38 = .ok (.ifCond .ne 10, 3) := by decide +kernel
theorem dX5_farthest_41 : decode cX5_farthest 41 = .ok (.aload_n 0, 1) := by decide +kernel
theorem dX5_farthest_42 : decode cX5_farthest 42 = .ok (.getfield 216, 3) := by decide +kernel
theorem dX5_farthest_45 : decode cX5_farthest 45 = .ok (.goto 7, 3) := by decide +kernel
theorem dX5_farthest_48 : decode cX5_farthest 48 = .ok (.aload_n 0, 1) := by decide +kernel
theorem dX5_farthest_49 : decode cX5_farthest 49 = .ok (.getfield 219, 3) := by decide +kernel
theorem dX5_farthest_52 : decode cX5_farthest 52 = .ok (.ireturn, 1) := by decide +kernel
set_option maxRecDepth 20000 in
theorem ggX5_oftenHushed_X5_oftenOf : GoodIn wsX5_oftenHushed wsX5_oftenOf := goodIn_r _ [6, 7, 8, 9, 10, 5, 11, 12, 13, 14, 15, 16, 17, 18, 19, 20, 21, 22, 23, 24, 25, 26, 27, 28, 29, 30, 31, 32, 1, 33, 34, 35, 36, 37, 38, 39, 40, 41, 42, 43, 44, 45, 46, 47, 48, 49, 50, 51, 52, 53, 54, 55, 56, 57, 58, 59, 60, 61, 62, 63, 64, 65, 66, 67, 68, 69, 70, 71, 72, 73, 74, 75, 76, 77, 78, 79, 80, 81, 82, 83, 84, 85, 86, 87, 88, 89, 90, 91, 92, 93, 94, 95, 96, 97, 98, 99, 100, 101, 102, 103, 104, 105, 106, 107, 108, 109, 110, 111, 112, 113, 114, 115, 116, 117, 118, 119, 120, 121, 122, 123, 124, 125, 126, 127, 128, 129] (by decide +kernel) (by decide +kernel)
set_option maxRecDepth 20000 in
theorem gX5_oftenHushed_X5_oftenOf : GoodIn wsX5_oftenHushed (wsV RX5 229 RX5 yX5_oftenOf wsX5_oftenOf) := goodIn_app (goodIn_of _ (by decide +kernel)) ggX5_oftenHushed_X5_oftenOf
theorem dX5_oftenHushed_0 : decode cX5_oftenHushed 0 = .ok (.aload_n 0, 1) := by decide +kernel
theorem dX5_oftenHushed_1 : decode cX5_oftenHushed 1 = .ok (.getfield 126, 3) := by decide +kernel
theorem dX5_oftenHushed_4 : decode cX5_oftenHushed 4 = .ok (.istore 4, 2) := by decide +kernel
theorem dX5_oftenHushed_6 : decode cX5_oftenHushed 6 = .ok (.aload_n 0, 1) := by decide +kernel
theorem dX5_oftenHushed_7 : decode cX5_oftenHushed 7 = .ok (.dup, 1) := by decide +kernel
theorem dX5_oftenHushed_8 : decode cX5_oftenHushed 8 = .ok (.getfield 126, 3) := by decide +kernel
theorem dX5_oftenHushed_11 : decode cX5_oftenHushed 11 = .ok (.iload_n 3, 1) := by decide +kernel
theorem dX5_oftenHushed_12 : decode cX5_oftenHushed 12 = .ok (.ior, 1) := by decide +kernel
theorem dX5_oftenHushed_13 : decode cX5_oftenHushed 13 = .ok (.putfield 126, 3) := by decide +kernel
theorem dX5_oftenHushed_16 : decode cX5_oftenHushed 16 = .ok (.aload_n 0, 1) := by decide +kernel
theorem dX5_oftenHushed_17 : decode cX5_oftenHushed 17 = .ok (.iload_n 1, 1) := by decide +kernel
theorem dX5_oftenHushed_18 : decode cX5_oftenHushed 18 = .ok (.iload_n 2, 1) := by decide +kernel
theorem dX5_oftenHushed_19 : decode cX5_oftenHushed 19 = .ok (.invokevirtual 229, 3) := by decide +kernel
theorem dX5_oftenHushed_22 : decode cX5_oftenHushed 22 = .ok (.istore 5, 2) := by decide +kernel
theorem dX5_oftenHushed_24 : decode cX5_oftenHushed 24 = .ok (.aload_n 0, 1) := by decide +kernel
theorem dX5_oftenHushed_25 : decode cX5_oftenHushed 25 = .ok (.iload 4, 2) := by decide +kernel
theorem dX5_oftenHushed_27 : decode cX5_oftenHushed 27 = .ok (.putfield 126, 3) := by decide +kernel
theorem dX5_oftenHushed_30 : decode cX5_oftenHushed 30 = .ok (.iload 5, 2) := by decide +kernel
theorem dX5_oftenHushed_32 : decode cX5_oftenHushed 32 = .ok (.ireturn, 1) := by decide +kernel
set_option maxRecDepth 20000 in
theorem ggX5_hush_X5_isShore : GoodIn wsX5_hush wsX5_isShore := goodIn_r _ [6, 1, 116, 117, 118, 119, 120, 121, 122, 123, 124, 125, 126, 127, 128, 129, 130, 131, 132, 133, 134, 135, 136, 137, 138, 139, 140, 141, 142, 143, 144, 145, 146, 147, 148] (by decide +kernel) (by decide +kernel)
set_option maxRecDepth 20000 in
theorem gX5_hush_X5_isShore : GoodIn wsX5_hush (wsV RX5 123 RX5 yX5_isShore wsX5_isShore) := goodIn_app (goodIn_of _ (by decide +kernel)) ggX5_hush_X5_isShore
set_option maxRecDepth 20000 in
theorem ggX5_hush_X5_notHours : GoodIn wsX5_hush wsX5_notHours := goodIn_r _ [9, 10, 11, 5, 12] (by decide +kernel) (by decide +kernel)
set_option maxRecDepth 20000 in
theorem gX5_hush_X5_notHours : GoodIn wsX5_hush (va_wsS RX5 207 yX5_notHours wsX5_notHours) := goodIn_app (goodIn_of _ (by decide +kernel)) ggX5_hush_X5_notHours
set_option maxRecDepth 20000 in
theorem ggX5_hush_X5_no : GoodIn wsX5_hush wsX5_no := goodIn_r _ [16, 17, 116, 117, 118, 119, 120, 121, 122, 123, 124, 125, 126, 127, 128, 129, 130, 131, 132, 133, 134, 135, 136, 137, 138, 139, 140, 141, 142, 143, 144, 145, 146, 147, 148] (by decide +kernel) (by decide +kernel)
set_option maxRecDepth 20000 in
theorem gX5_hush_X5_no : GoodIn wsX5_hush (wsV RX5 77 RX5 yX5_no wsX5_no) := goodIn_app (goodIn_of _ (by decide +kernel)) ggX5_hush_X5_no
set_option maxRecDepth 20000 in
theorem ggX5_hush_X5_oftenOf : GoodIn wsX5_hush wsX5_oftenOf := goodIn_r _ [21, 22, 23, 24, 25, 5, 26, 27, 28, 29, 30, 31, 32, 33, 34, 35, 36, 37, 38, 39, 40, 41, 42, 43, 44, 45, 46, 1, 47, 48, 49, 50, 51, 52, 53, 54, 55, 56, 57, 58, 59, 60, 61, 62, 63, 64, 65, 66, 67, 68, 69, 70, 71, 72, 73, 74, 75, 76, 77, 78, 79, 80, 81, 82, 83, 84, 85, 86, 87, 88, 89, 90, 91, 92, 93, 94, 95, 96, 97, 98, 99, 100, 101, 102, 103, 104, 105, 106, 107, 108, 109, 110, 111, 116, 117, 118, 119, 120, 121, 122, 123, 124, 125, 126, 127, 128, 129, 130, 131, 132, 133, 134, 135, 136, 137, 138, 139, 140, 141, 142, 143, 144, 145, 146, 147, 148] (by decide +kernel) (by decide +kernel)
set_option maxRecDepth 20000 in
theorem gX5_hush_X5_oftenOf : GoodIn wsX5_hush (wsV RX5 229 RX5 yX5_oftenOf wsX5_oftenOf) := goodIn_app (goodIn_of _ (by decide +kernel)) ggX5_hush_X5_oftenOf
set_option maxRecDepth 20000 in
theorem ggX5_hush_X5_oftenHushed : GoodIn wsX5_hush wsX5_oftenHushed := goodIn_r _ [115, 47, 18, 19, 20, 5, 21, 22, 23, 24, 25, 26, 27, 28, 29, 30, 31, 32, 33, 34, 35, 36, 37, 38, 39, 40, 41, 42, 43, 44, 45, 46, 1, 48, 49, 50, 51, 52, 53, 54, 55, 56, 57, 58, 59, 60, 61, 62, 63, 64, 65, 66, 67, 68, 69, 70, 71, 72, 73, 74, 75, 76, 77, 78, 79, 80, 81, 82, 83, 84, 85, 86, 87, 88, 89, 90, 91, 92, 93, 94, 95, 96, 97, 98, 99, 100, 101, 102, 103, 104, 105, 106, 107, 108, 109, 110, 111, 116, 117, 118, 119, 120, 121, 122, 123, 124, 125, 126, 127, 128, 129, 130, 131, 132, 133, 134, 135, 136, 137, 138, 139, 140, 141, 142, 143, 144, 145, 146, 147, 148] (by decide +kernel) (by decide +kernel)
set_option maxRecDepth 20000 in
theorem gX5_hush_X5_oftenHushed : GoodIn wsX5_hush (wsV RX5 232 RX5 yX5_oftenHushed wsX5_oftenHushed) := goodIn_app (goodIn_of _ (by decide +kernel)) ggX5_hush_X5_oftenHushed
theorem dX5_hush_0 : decode cX5_hush 0 = .ok (.aload_n 0, 1) := by decide +kernel
theorem dX5_hush_1 : decode cX5_hush 1 = .ok (.iload_n 1, 1) := by decide +kernel
theorem dX5_hush_2 : decode cX5_hush 2 = .ok (.invokevirtual 123, 3) := by decide +kernel
theorem dX5_hush_5 : decode cX5_hush 5 = .ok (.ifCond .ne 7, 3) := by decide +kernel
theorem dX5_hush_8 : decode cX5_hush 8 = .ok (.iconst (-1), 1) := by decide +kernel
theorem dX5_hush_9 : decode cX5_hush 9 = .ok (.goto 7, 3) := by decide +kernel
theorem dX5_hush_12 : decode cX5_hush 12 = .ok (.iload_n 2, 1) := by decide +kernel
theorem dX5_hush_13 : decode cX5_hush 13 = .ok (.invokestatic 207, 3) := by decide +kernel
theorem dX5_hush_16 : decode cX5_hush 16 = .ok (.istore_n 3, 1) := by decide +kernel
theorem dX5_hush_17 : decode cX5_hush 17 = .ok (.iload_n 3, 1) := by decide +kernel
theorem dX5_hush_18 : decode cX5_hush 18 = .ok (.ifCond .eq 9, 3) := by decide +kernel
theorem dX5_hush_21 : decode cX5_hush 21 = .ok (.aload_n 0, 1) := by decide +kernel
theorem dX5_hush_22 : decode cX5_hush 22 = .ok (.iload_n 3, 1) := by decide +kernel
theorem dX5_hush_23 : decode cX5_hush 23 = .ok (.invokevirtual 77, 3) := by decide +kernel
theorem dX5_hush_26 : decode cX5_hush 26 = .ok (.ireturn, 1) := by decide +kernel
theorem dX5_hush_27 : decode cX5_hush 27 = .ok (.bipush (-9), 2) := by decide +kernel
theorem dX5_hush_29 : decode cX5_hush 29 = .ok (.istore 4, 2) := by decide +kernel
theorem dX5_hush_31 : decode cX5_hush 31 = .ok (.aload_n 0, 1) := by decide +kernel
theorem dX5_hush_32 : decode cX5_hush 32 = .ok (.iload_n 1, 1) := by decide +kernel
theorem dX5_hush_33 : decode cX5_hush 33 = .ok (.iload_n 2, 1) := by decide +kernel
theorem dX5_hush_34 : decode cX5_hush 34 = .ok (.invokevirtual 229, 3) := by decide +kernel
theorem dX5_hush_37 : decode cX5_hush 37 = .ok (.istore 5, 2) := by decide +kernel
theorem dX5_hush_39 : decode cX5_hush 39 = .ok (.iconst 0, 1) := by decide +kernel
theorem dX5_hush_40 : decode cX5_hush 40 = .ok (.istore 6, 2) := by decide +kernel
theorem dX5_hush_42 : decode cX5_hush 42 = .ok (.iload 6, 2) := by decide +kernel
theorem dX5_hush_44 : decode cX5_hush 44 = .ok (.aload_n 0, 1) := by decide +kernel
theorem dX5_hush_45 : decode cX5_hush 45 = .ok (.getfield 67, 3) := by decide +kernel
theorem dX5_hush_48 : decode cX5_hush 48 = .ok (.if_icmp .ge 50, 3) := by decide +kernel
theorem dX5_hush_51 : decode cX5_hush 51 = .ok (.iload 6, 2) := by decide +kernel
theorem dX5_hush_53 : decode cX5_hush 53 = .ok (.iload_n 1, 1) := by decide +kernel
theorem dX5_hush_54 : decode cX5_hush 54 = .ok (.if_icmp .ne 8, 3) := by decide +kernel
theorem dX5_hush_57 : decode cX5_hush 57 = .ok (.bipush (-9), 2) := by decide +kernel
theorem dX5_hush_59 : decode cX5_hush 59 = .ok (.goto 13, 3) := by decide +kernel
theorem dX5_hush_62 : decode cX5_hush 62 = .ok (.aload_n 0, 1) := by decide +kernel
theorem dX5_hush_63 : decode cX5_hush 63 = .ok (.iload_n 1, 1) := by decide +kernel
theorem dX5_hush_64 : decode cX5_hush 64 = .ok (.iload_n 2, 1) := by decide +kernel
theorem dX5_hush_65 : decode cX5_hush 65 = .ok (.iconst 1, 1) := by decide +kernel
theorem dX5_hush_66 : decode cX5_hush 66 = .ok (.iload 6, 2) := by decide +kernel
theorem dX5_hush_68 : decode cX5_hush 68 = .ok (.ishl, 1) := by decide +kernel
theorem dX5_hush_69 : decode cX5_hush 69 = .ok (.invokevirtual 232, 3) := by decide +kernel
theorem dX5_hush_72 : decode cX5_hush 72 = .ok (.istore 7, 2) := by decide +kernel
theorem dX5_hush_74 : decode cX5_hush 74 = .ok (.iload 7, 2) := by decide +kernel
theorem dX5_hush_76 : decode cX5_hush 76 = .ok (.iload 5, 2) := by decide +kernel
theorem dX5_hush_78 : decode cX5_hush 78 = .ok (.if_icmp .gt 6, 3) := by decide +kernel
theorem dX5_hush_81 : decode cX5_hush 81 = .ok (.goto 11, 3) := by decide +kernel
theorem dX5_hush_84 : decode cX5_hush 84 = .ok (.iload 6, 2) := by decide +kernel
theorem dX5_hush_86 : decode cX5_hush 86 = .ok (.istore 4, 2) := by decide +kernel
theorem dX5_hush_88 : decode cX5_hush 88 = .ok (.iload 7, 2) := by decide +kernel
theorem dX5_hush_90 : decode cX5_hush 90 = .ok (.istore 5, 2) := by decide +kernel
theorem dX5_hush_92 : decode cX5_hush 92 = .ok (.iinc 6 1, 3) := by decide +kernel
theorem dX5_hush_95 : decode cX5_hush 95 = .ok (.goto (-53), 3) := by decide +kernel
theorem dX5_hush_98 : decode cX5_hush 98 = .ok (.iload 4, 2) := by decide +kernel
theorem dX5_hush_100 : decode cX5_hush 100 = .ok (.ireturn, 1) := by decide +kernel
set_option maxRecDepth 20000 in
theorem ggX5_fewest_X5_isShore : GoodIn wsX5_fewest wsX5_isShore := goodIn_r _ [6, 1, 119, 120, 121, 122, 123, 124, 125, 126, 127, 128, 129, 130, 131, 132, 133, 134, 135, 136, 137, 138, 139, 140, 141, 142, 143, 144, 145, 146, 147, 148, 149, 150, 151] (by decide +kernel) (by decide +kernel)
set_option maxRecDepth 20000 in
theorem gX5_fewest_X5_isShore : GoodIn wsX5_fewest (wsV RX5 123 RX5 yX5_isShore wsX5_isShore) := goodIn_app (goodIn_of _ (by decide +kernel)) ggX5_fewest_X5_isShore
set_option maxRecDepth 20000 in
theorem ggX5_fewest_X5_notHours : GoodIn wsX5_fewest wsX5_notHours := goodIn_r _ [9, 10, 11, 5, 12] (by decide +kernel) (by decide +kernel)
set_option maxRecDepth 20000 in
theorem gX5_fewest_X5_notHours : GoodIn wsX5_fewest (va_wsS RX5 207 yX5_notHours wsX5_notHours) := goodIn_app (goodIn_of _ (by decide +kernel)) ggX5_fewest_X5_notHours
set_option maxRecDepth 20000 in
theorem ggX5_fewest_X5_no : GoodIn wsX5_fewest wsX5_no := goodIn_r _ [16, 17, 119, 120, 121, 122, 123, 124, 125, 126, 127, 128, 129, 130, 131, 132, 133, 134, 135, 136, 137, 138, 139, 140, 141, 142, 143, 144, 145, 146, 147, 148, 149, 150, 151] (by decide +kernel) (by decide +kernel)
set_option maxRecDepth 20000 in
theorem gX5_fewest_X5_no : GoodIn wsX5_fewest (wsV RX5 77 RX5 yX5_no wsX5_no) := goodIn_app (goodIn_of _ (by decide +kernel)) ggX5_fewest_X5_no
set_option maxRecDepth 20000 in
theorem ggX5_fewest_X5_has : GoodIn wsX5_fewest wsX5_has := goodIn_r _ [20] (by decide +kernel) (by decide +kernel)
set_option maxRecDepth 20000 in
theorem gX5_fewest_X5_has : GoodIn wsX5_fewest (va_wsS RX5 166 yX5_has wsX5_has) := goodIn_app (goodIn_of _ (by decide +kernel)) ggX5_fewest_X5_has
set_option maxRecDepth 20000 in
theorem ggX5_fewest_X5_bits : GoodIn wsX5_fewest wsX5_bits := goodIn_r _ [23] (by decide +kernel) (by decide +kernel)
set_option maxRecDepth 20000 in
theorem gX5_fewest_X5_bits : GoodIn wsX5_fewest (va_wsS RX5 235 yX5_bits wsX5_bits) := goodIn_app (goodIn_of _ (by decide +kernel)) ggX5_fewest_X5_bits
set_option maxRecDepth 20000 in
theorem ggX5_fewest_X5_oftenHushed : GoodIn wsX5_fewest wsX5_oftenHushed := goodIn_r _ [27, 28, 29, 30, 31, 5, 32, 33, 34, 35, 36, 37, 38, 39, 40, 41, 42, 43, 44, 45, 46, 47, 48, 49, 50, 51, 52, 53, 54, 55, 56, 57, 1, 58, 59, 60, 61, 62, 63, 64, 65, 66, 67, 68, 69, 70, 71, 72, 73, 74, 75, 76, 77, 78, 79, 80, 81, 82, 83, 84, 85, 86, 87, 88, 89, 18, 19, 20, 90, 91, 92, 93, 94, 95, 96, 97, 98, 99, 100, 101, 102, 103, 104, 105, 106, 107, 108, 109, 110, 111, 112, 113, 114, 115, 116, 117, 118, 119, 120, 121, 122, 123, 124, 125, 126, 127, 128, 129, 130, 131, 132, 133, 134, 135, 136, 137, 138, 139, 140, 141, 142, 143, 144, 145, 146, 147, 148, 149, 150, 151] (by decide +kernel) (by decide +kernel)
set_option maxRecDepth 20000 in
theorem gX5_fewest_X5_oftenHushed : GoodIn wsX5_fewest (wsV RX5 232 RX5 yX5_oftenHushed wsX5_oftenHushed) := goodIn_app (goodIn_of _ (by decide +kernel)) ggX5_fewest_X5_oftenHushed
theorem dX5_fewest_0 : decode cX5_fewest 0 = .ok (.aload_n 0, 1) := by decide +kernel
theorem dX5_fewest_1 : decode cX5_fewest 1 = .ok (.iload_n 1, 1) := by decide +kernel
theorem dX5_fewest_2 : decode cX5_fewest 2 = .ok (.invokevirtual 123, 3) := by decide +kernel
theorem dX5_fewest_5 : decode cX5_fewest 5 = .ok (.ifCond .ne 7, 3) := by decide +kernel
theorem dX5_fewest_8 : decode cX5_fewest 8 = .ok (.iconst (-1), 1) := by decide +kernel
theorem dX5_fewest_9 : decode cX5_fewest 9 = .ok (.goto 7, 3) := by decide +kernel
theorem dX5_fewest_12 : decode cX5_fewest 12 = .ok (.iload_n 2, 1) := by decide +kernel
theorem dX5_fewest_13 : decode cX5_fewest 13 = .ok (.invokestatic 207, 3) := by decide +kernel
theorem dX5_fewest_16 : decode cX5_fewest 16 = .ok (.istore_n 3, 1) := by decide +kernel
theorem dX5_fewest_17 : decode cX5_fewest 17 = .ok (.iload_n 3, 1) := by decide +kernel
theorem dX5_fewest_18 : decode cX5_fewest 18 = .ok (.ifCond .eq 9, 3) := by decide +kernel
theorem dX5_fewest_21 : decode cX5_fewest 21 = .ok (.aload_n 0, 1) := by decide +kernel
theorem dX5_fewest_22 : decode cX5_fewest 22 = .ok (.iload_n 3, 1) := by decide +kernel
theorem dX5_fewest_23 : decode cX5_fewest 23 = .ok (.invokevirtual 77, 3) := by decide +kernel
theorem dX5_fewest_26 : decode cX5_fewest 26 = .ok (.ireturn, 1) := by decide +kernel
theorem dX5_fewest_27 : decode cX5_fewest 27 = .ok (.bipush (-9), 2) := by decide +kernel
theorem dX5_fewest_29 : decode cX5_fewest 29 = .ok (.istore 4, 2) := by decide +kernel
theorem dX5_fewest_31 : decode cX5_fewest 31 = .ok (.iconst 0, 1) := by decide +kernel
theorem dX5_fewest_32 : decode cX5_fewest 32 = .ok (.istore 5, 2) := by decide +kernel
theorem dX5_fewest_34 : decode cX5_fewest 34 = .ok (.iload 5, 2) := by decide +kernel
theorem dX5_fewest_36 : decode cX5_fewest 36 = .ok (.iconst 1, 1) := by decide +kernel
theorem dX5_fewest_37 : decode cX5_fewest 37 = .ok (.aload_n 0, 1) := by decide +kernel
theorem dX5_fewest_38 : decode cX5_fewest 38 = .ok (.getfield 67, 3) := by decide +kernel
theorem dX5_fewest_41 : decode cX5_fewest 41 = .ok (.ishl, 1) := by decide +kernel
theorem dX5_fewest_42 : decode cX5_fewest 42 = .ok (.if_icmp .ge 54, 3) := by decide +kernel
theorem dX5_fewest_45 : decode cX5_fewest 45 = .ok (.iload 5, 2) := by decide +kernel
theorem dX5_fewest_47 : decode cX5_fewest 47 = .ok (.iload_n 1, 1) := by decide +kernel
theorem dX5_fewest_48 : decode cX5_fewest 48 = .ok (.invokestatic 166, 3) := by decide +kernel
theorem dX5_fewest_51 : decode cX5_fewest 51 = .ok (.ifCond .ne 39, 3) := by decide +kernel
theorem dX5_fewest_54 : decode cX5_fewest 54 = .ok (.iload 4, 2) := by decide +kernel
theorem dX5_fewest_56 : decode cX5_fewest 56 = .ok (.ifCond .lt 19, 3) := by decide +kernel
theorem dX5_fewest_59 : decode cX5_fewest 59 = .ok (.iload 5, 2) := by decide +kernel
theorem dX5_fewest_61 : decode cX5_fewest 61 = .ok (.invokestatic 235, 3) := by decide +kernel
theorem dX5_fewest_64 : decode cX5_fewest 64 = .ok (.iload 4, 2) := by decide +kernel
theorem dX5_fewest_66 : decode cX5_fewest 66 = .ok (.invokestatic 235, 3) := by decide +kernel
theorem dX5_fewest_69 : decode cX5_fewest 69 = .ok (.if_icmp .lt 6, 3) := by decide +kernel
theorem dX5_fewest_72 : decode cX5_fewest 72 = .ok (.goto 18, 3) := by decide +kernel
theorem dX5_fewest_75 : decode cX5_fewest 75 = .ok (.aload_n 0, 1) := by decide +kernel
theorem dX5_fewest_76 : decode cX5_fewest 76 = .ok (.iload_n 1, 1) := by decide +kernel
theorem dX5_fewest_77 : decode cX5_fewest 77 = .ok (.iload_n 2, 1) := by decide +kernel
theorem dX5_fewest_78 : decode cX5_fewest 78 = .ok (.iload 5, 2) := by decide +kernel
theorem dX5_fewest_80 : decode cX5_fewest 80 = .ok (.invokevirtual 232, 3) := by decide +kernel
theorem dX5_fewest_83 : decode cX5_fewest 83 = .ok (.ifCond .le 7, 3) := by decide +kernel
theorem dX5_fewest_86 : decode cX5_fewest 86 = .ok (.iload 5, 2) := by decide +kernel
theorem dX5_fewest_88 : decode cX5_fewest 88 = .ok (.istore 4, 2) := by decide +kernel
theorem dX5_fewest_90 : decode cX5_fewest 90 = .ok (.iinc 5 1, 3) := by decide +kernel
theorem dX5_fewest_93 : decode cX5_fewest 93 = .ok (.goto (-59), 3) := by decide +kernel
theorem dX5_fewest_96 : decode cX5_fewest 96 = .ok (.iload 4, 2) := by decide +kernel
theorem dX5_fewest_98 : decode cX5_fewest 98 = .ok (.ireturn, 1) := by decide +kernel
set_option maxRecDepth 20000 in
theorem ggX5_isThereFrom_X5_changes : GoodIn wsX5_isThereFrom wsX5_changes := goodIn_r _ [6, 7, 8, 9, 5, 10, 11, 12, 13, 14, 15, 16, 17, 18, 19, 1, 20, 21, 22, 23, 24, 25, 26, 27, 28, 29, 30, 31, 88, 89, 90, 91, 92, 93, 94, 95, 96, 97, 98, 99, 100, 101, 102, 103, 104, 105, 106, 107, 108, 109, 110, 111, 112, 113, 114, 115, 116, 117, 118, 119, 120] (by decide +kernel) (by decide +kernel)
set_option maxRecDepth 20000 in
theorem gX5_isThereFrom_X5_changes : GoodIn wsX5_isThereFrom (wsV RX5 238 RX5 yX5_changes wsX5_changes) := goodIn_app (goodIn_of _ (by decide +kernel)) ggX5_isThereFrom_X5_changes
set_option maxRecDepth 20000 in
theorem ggX5_isThereFrom_X5_goes : GoodIn wsX5_isThereFrom wsX5_goes := goodIn_r _ [35, 36, 37, 38, 5, 39, 21, 18, 16, 15, 22, 17, 40, 41, 42, 43, 44, 45, 46, 47, 19, 1, 48, 49, 50, 51, 52, 53, 54, 13, 14, 55, 56, 57, 58, 59, 60, 61, 62, 63, 64, 65, 66, 67, 68, 69, 70, 71, 72, 20, 73, 74, 75, 76, 77, 78, 79, 80, 81, 82, 83, 88, 89, 90, 91, 92, 93, 94, 95, 96, 97, 98, 99, 100, 101, 102, 103, 104, 105, 106, 107, 108, 109, 110, 111, 112, 113, 114, 115, 116, 117, 118, 119, 120] (by decide +kernel) (by decide +kernel)
set_option maxRecDepth 20000 in
theorem gX5_isThereFrom_X5_goes : GoodIn wsX5_isThereFrom (wsV RX5 116 RX5 yX5_goes wsX5_goes) := goodIn_app (goodIn_of _ (by decide +kernel)) ggX5_isThereFrom_X5_goes
set_option maxRecDepth 20000 in
theorem ggX5_isThereFrom_X5_holder : GoodIn wsX5_isThereFrom wsX5_holder := goodIn_r _ [79, 1, 80, 81, 82, 5, 83, 18, 15, 88, 89, 90, 91, 92, 93, 94, 95, 96, 97, 98, 99, 100, 101, 102, 103, 104, 105, 106, 107, 108, 109, 110, 111, 112, 113, 114, 115, 116, 117, 118, 119, 120] (by decide +kernel) (by decide +kernel)
set_option maxRecDepth 20000 in
theorem gX5_isThereFrom_X5_holder : GoodIn wsX5_isThereFrom (wsV RX5 194 RX5 yX5_holder wsX5_holder) := goodIn_app (goodIn_of _ (by decide +kernel)) ggX5_isThereFrom_X5_holder
set_option maxRecDepth 20000 in
theorem ggX5_isThereFrom_X5_changesBack : GoodIn wsX5_isThereFrom wsX5_changesBack := goodIn_r _ [87, 7, 8, 9, 5, 10, 11, 12, 13, 14, 15, 16, 17, 18, 19, 1, 20, 21, 22, 23, 24, 25, 26, 27, 28, 29, 30, 31, 88, 89, 90, 91, 92, 93, 94, 95, 96, 97, 98, 99, 100, 101, 102, 103, 104, 105, 106, 107, 108, 109, 110, 111, 112, 113, 114, 115, 116, 117, 118, 119, 120] (by decide +kernel) (by decide +kernel)
set_option maxRecDepth 20000 in
theorem gX5_isThereFrom_X5_changesBack : GoodIn wsX5_isThereFrom (wsV RX5 241 RX5 yX5_changesBack wsX5_changesBack) := goodIn_app (goodIn_of _ (by decide +kernel)) ggX5_isThereFrom_X5_changesBack
theorem dX5_isThereFrom_0 : decode cX5_isThereFrom 0 = .ok (.aload_n 0, 1) := by decide +kernel
theorem dX5_isThereFrom_1 : decode cX5_isThereFrom 1 = .ok (.invokevirtual 238, 3) := by decide +kernel
theorem dX5_isThereFrom_4 : decode cX5_isThereFrom 4 = .ok (.aload_n 0, 1) := by decide +kernel
theorem dX5_isThereFrom_5 : decode cX5_isThereFrom 5 = .ok (.iload_n 1, 1) := by decide +kernel
theorem dX5_isThereFrom_6 : decode cX5_isThereFrom 6 = .ok (.putfield 55, 3) := by decide +kernel
theorem dX5_isThereFrom_9 : decode cX5_isThereFrom 9 = .ok (.aload_n 0, 1) := by decide +kernel
theorem dX5_isThereFrom_10 : decode cX5_isThereFrom 10 = .ok (.iload_n 3, 1) := by decide +kernel
theorem dX5_isThereFrom_11 : decode cX5_isThereFrom 11 = .ok (.invokevirtual 116, 3) := by decide +kernel
theorem dX5_isThereFrom_14 : decode cX5_isThereFrom 14 = .ok (.aload_n 0, 1) := by decide +kernel
theorem dX5_isThereFrom_15 : decode cX5_isThereFrom 15 = .ok (.invokevirtual 194, 3) := by decide +kernel
theorem dX5_isThereFrom_18 : decode cX5_isThereFrom 18 = .ok (.iload_n 2, 1) := by decide +kernel
theorem dX5_isThereFrom_19 : decode cX5_isThereFrom 19 = .ok (.if_icmp .ne 7, 3) := by decide +kernel
theorem dX5_isThereFrom_22 : decode cX5_isThereFrom 22 = .ok (.iconst 1, 1) := by decide +kernel
theorem dX5_isThereFrom_23 : decode cX5_isThereFrom 23 = .ok (.goto 4, 3) := by decide +kernel
theorem dX5_isThereFrom_26 : decode cX5_isThereFrom 26 = .ok (.iconst 0, 1) := by decide +kernel
theorem dX5_isThereFrom_27 : decode cX5_isThereFrom 27 = .ok (.istore 4, 2) := by decide +kernel
theorem dX5_isThereFrom_29 : decode cX5_isThereFrom 29 = .ok (.aload_n 0, 1) := by decide +kernel
theorem dX5_isThereFrom_30 : decode cX5_isThereFrom 30 = .ok (.invokevirtual 241, 3) := by decide +kernel
theorem dX5_isThereFrom_33 : decode cX5_isThereFrom 33 = .ok (.iload 4, 2) := by decide +kernel
theorem dX5_isThereFrom_35 : decode cX5_isThereFrom 35 = .ok (.ireturn, 1) := by decide +kernel
set_option maxRecDepth 20000 in
theorem ggX5_fromWhere_X5_isShore : GoodIn wsX5_fromWhere wsX5_isShore := goodIn_r _ [5, 6, 107, 108, 109, 110, 111, 112, 113, 114, 115, 116, 117, 118, 119, 120, 121, 122, 123, 124, 125, 126, 127, 128, 129, 130, 131, 132, 133, 134, 135, 136, 137, 138, 139] (by decide +kernel) (by decide +kernel)
set_option maxRecDepth 20000 in
theorem gX5_fromWhere_X5_isShore : GoodIn wsX5_fromWhere (wsV RX5 123 RX5 yX5_isShore wsX5_isShore) := goodIn_app (goodIn_of _ (by decide +kernel)) ggX5_fromWhere_X5_isShore
set_option maxRecDepth 20000 in
theorem ggX5_fromWhere_X5_notHours : GoodIn wsX5_fromWhere wsX5_notHours := goodIn_r _ [9, 10, 11, 4, 12] (by decide +kernel) (by decide +kernel)
set_option maxRecDepth 20000 in
theorem gX5_fromWhere_X5_notHours : GoodIn wsX5_fromWhere (va_wsS RX5 207 yX5_notHours wsX5_notHours) := goodIn_app (goodIn_of _ (by decide +kernel)) ggX5_fromWhere_X5_notHours
set_option maxRecDepth 20000 in
theorem ggX5_fromWhere_X5_isIn : GoodIn wsX5_fromWhere wsX5_isIn := goodIn_r _ [15] (by decide +kernel) (by decide +kernel)
set_option maxRecDepth 20000 in
theorem gX5_fromWhere_X5_isIn : GoodIn wsX5_fromWhere (va_wsS RX5 88 yX5_isIn wsX5_isIn) := goodIn_app (goodIn_of _ (by decide +kernel)) ggX5_fromWhere_X5_isIn
set_option maxRecDepth 20000 in
theorem ggX5_fromWhere_X5_no : GoodIn wsX5_fromWhere wsX5_no := goodIn_r _ [19, 20, 107, 108, 109, 110, 111, 112, 113, 114, 115, 116, 117, 118, 119, 120, 121, 122, 123, 124, 125, 126, 127, 128, 129, 130, 131, 132, 133, 134, 135, 136, 137, 138, 139] (by decide +kernel) (by decide +kernel)
set_option maxRecDepth 20000 in
theorem gX5_fromWhere_X5_no : GoodIn wsX5_fromWhere (wsV RX5 77 RX5 yX5_no wsX5_no) := goodIn_app (goodIn_of _ (by decide +kernel)) ggX5_fromWhere_X5_no
set_option maxRecDepth 20000 in
theorem ggX5_fromWhere_X5_isThereFrom : GoodIn wsX5_fromWhere wsX5_isThereFrom := goodIn_r _ [24, 25, 26, 27, 28, 4, 29, 30, 31, 32, 33, 34, 35, 36, 37, 38, 39, 40, 6, 41, 42, 43, 44, 45, 46, 47, 48, 49, 50, 51, 52, 53, 54, 55, 56, 57, 58, 59, 60, 61, 62, 63, 64, 65, 66, 67, 68, 69, 70, 71, 72, 73, 74, 75, 76, 77, 78, 79, 80, 13, 14, 15, 81, 82, 83, 84, 85, 86, 87, 88, 89, 90, 91, 92, 93, 94, 95, 96, 97, 98, 99, 100, 101, 102, 103, 104, 105, 106, 107, 108, 109, 110, 111, 112, 113, 114, 115, 116, 117, 118, 119, 120, 121, 122, 123, 124, 125, 126, 127, 128, 129, 130, 131, 132, 133, 134, 135, 136, 137, 138, 139] (by decide +kernel) (by decide +kernel)
set_option maxRecDepth 20000 in
theorem gX5_fromWhere_X5_isThereFrom : GoodIn wsX5_fromWhere (wsV RX5 244 RX5 yX5_isThereFrom wsX5_isThereFrom) := goodIn_app (goodIn_of _ (by decide +kernel)) ggX5_fromWhere_X5_isThereFrom
theorem dX5_fromWhere_0 : decode cX5_fromWhere 0 = .ok (.aload_n 0, 1) := by decide +kernel
theorem dX5_fromWhere_1 : decode cX5_fromWhere 1 = .ok (.iload_n 1, 1) := by decide +kernel
theorem dX5_fromWhere_2 : decode cX5_fromWhere 2 = .ok (.invokevirtual 123, 3) := by decide +kernel
theorem dX5_fromWhere_5 : decode cX5_fromWhere 5 = .ok (.ifCond .ne 7, 3) := by decide +kernel
theorem dX5_fromWhere_8 : decode cX5_fromWhere 8 = .ok (.iconst (-1), 1) := by decide +kernel
theorem dX5_fromWhere_9 : decode cX5_fromWhere 9 = .ok (.goto 7, 3) := by decide +kernel
theorem dX5_fromWhere_12 : decode cX5_fromWhere 12 = .ok (.iload_n 2, 1) := by decide +kernel
theorem dX5_fromWhere_13 : decode cX5_fromWhere 13 = .ok (.invokestatic 207, 3) := by decide +kernel
theorem dX5_fromWhere_16 : decode cX5_fromWhere 16 = .ok (.istore 4, 2) := by decide +kernel
theorem dX5_fromWhere_18 : decode cX5_fromWhere 18 = .ok (.iload 4, 2) := by decide +kernel
theorem dX5_fromWhere_20 : decode cX5_fromWhere 20 = .ok (.ifCond .ne 16, 3) := by decide +kernel
theorem dX5_fromWhere_23 : decode cX5_fromWhere 23 = .ok (.iload_n 3, 1) := by decide +kernel
theorem dX5_fromWhere_24 : decode cX5_fromWhere 24 = .ok (.iconst 0, 1) := by decide +kernel
theorem dX5_fromWhere_25 : decode cX5_fromWhere 25 = .ok (.iconst 1, 1) := by decide +kernel
theorem dX5_fromWhere_26 : decode cX5_fromWhere 26 = .ok (.invokestatic 88, 3) := by decide +kernel
theorem dX5_fromWhere_29 : decode cX5_fromWhere 29 = .ok (.ifCond .ne 7, 3) := by decide +kernel
theorem dX5_fromWhere_32 : decode cX5_fromWhere 32 = .ok (.bipush (-2), 2) := by decide +kernel
theorem dX5_fromWhere_34 : decode cX5_fromWhere 34 = .ok (.istore 4, 2) := by decide +kernel
theorem dX5_fromWhere_36 : decode cX5_fromWhere 36 = .ok (.iload 4, 2) := by decide +kernel
theorem dX5_fromWhere_38 : decode cX5_fromWhere 38 = .ok (.ifCond .eq 10, 3) := by decide +kernel
theorem dX5_fromWhere_41 : decode cX5_fromWhere 41 = .ok (.aload_n 0, 1) := by decide +kernel
theorem dX5_fromWhere_42 : decode cX5_fromWhere 42 = .ok (.iload 4, 2) := by decide +kernel
theorem dX5_fromWhere_44 : decode cX5_fromWhere 44 = .ok (.invokevirtual 77, 3) := by decide +kernel
theorem dX5_fromWhere_47 : decode cX5_fromWhere 47 = .ok (.ireturn, 1) := by decide +kernel
theorem dX5_fromWhere_48 : decode cX5_fromWhere 48 = .ok (.iconst 0, 1) := by decide +kernel
theorem dX5_fromWhere_49 : decode cX5_fromWhere 49 = .ok (.istore 5, 2) := by decide +kernel
theorem dX5_fromWhere_51 : decode cX5_fromWhere 51 = .ok (.bipush (-9), 2) := by decide +kernel
theorem dX5_fromWhere_53 : decode cX5_fromWhere 53 = .ok (.istore 6, 2) := by decide +kernel
theorem dX5_fromWhere_55 : decode cX5_fromWhere 55 = .ok (.bipush 30, 2) := by decide +kernel
theorem dX5_fromWhere_57 : decode cX5_fromWhere 57 = .ok (.istore 7, 2) := by decide +kernel
theorem dX5_fromWhere_59 : decode cX5_fromWhere 59 = .ok (.iload 7, 2) := by decide +kernel
theorem dX5_fromWhere_61 : decode cX5_fromWhere 61 = .ok (.ifCond .lt 30, 3) := by decide +kernel
theorem dX5_fromWhere_64 : decode cX5_fromWhere 64 = .ok (.aload_n 0, 1) := by decide +kernel
theorem dX5_fromWhere_65 : decode cX5_fromWhere 65 = .ok (.iload 7, 2) := by decide +kernel
theorem dX5_fromWhere_67 : decode cX5_fromWhere 67 = .ok (.iload_n 1, 1) := by decide +kernel
theorem dX5_fromWhere_68 : decode cX5_fromWhere 68 = .ok (.iload_n 2, 1) := by decide +kernel
theorem dX5_fromWhere_69 : decode cX5_fromWhere 69 = .ok (.invokevirtual 244, 3) := by decide +kernel
theorem dX5_fromWhere_72 : decode cX5_fromWhere 72 = .ok (.ifCond .ne 6, 3) := by decide +kernel
theorem dX5_fromWhere_75 : decode cX5_fromWhere 75 = .ok (.goto 10, 3) := by decide +kernel
theorem dX5_fromWhere_78 : decode cX5_fromWhere 78 = .ok (.iinc 5 1, 3) := by decide +kernel
theorem dX5_fromWhere_81 : decode cX5_fromWhere 81 = .ok (.iload 7, 2) := by decide +kernel
theorem dX5_fromWhere_83 : decode cX5_fromWhere 83 = .ok (.istore 6, 2) := by decide +kernel
theorem dX5_fromWhere_85 : decode cX5_fromWhere 85 = .ok (.iinc 7 (-1), 3) := by decide +kernel
theorem dX5_fromWhere_88 : decode cX5_fromWhere 88 = .ok (.goto (-29), 3) := by decide +kernel
theorem dX5_fromWhere_91 : decode cX5_fromWhere 91 = .ok (.iload_n 3, 1) := by decide +kernel
theorem dX5_fromWhere_92 : decode cX5_fromWhere 92 = .ok (.ifCond .ne 8, 3) := by decide +kernel
theorem dX5_fromWhere_95 : decode cX5_fromWhere 95 = .ok (.iload 5, 2) := by decide +kernel
theorem dX5_fromWhere_97 : decode cX5_fromWhere 97 = .ok (.goto 5, 3) := by decide +kernel
theorem dX5_fromWhere_100 : decode cX5_fromWhere 100 = .ok (.iload 6, 2) := by decide +kernel
theorem dX5_fromWhere_102 : decode cX5_fromWhere 102 = .ok (.ireturn, 1) := by decide +kernel
set_option maxRecDepth 20000 in
theorem ggX5_powderWanted_X5_isShore : GoodIn wsX5_powderWanted wsX5_isShore := goodIn_r _ [6, 7, 112, 113, 114, 115, 116, 117, 118, 119, 120, 121, 122, 123, 124, 125, 126, 127, 128, 129, 130, 131, 132, 133, 134, 135, 136, 137, 138, 139, 140, 141, 142, 143, 144] (by decide +kernel) (by decide +kernel)
set_option maxRecDepth 20000 in
theorem gX5_powderWanted_X5_isShore : GoodIn wsX5_powderWanted (wsV RX5 123 RX5 yX5_isShore wsX5_isShore) := goodIn_app (goodIn_of _ (by decide +kernel)) ggX5_powderWanted_X5_isShore
set_option maxRecDepth 20000 in
theorem ggX5_powderWanted_X5_notHours : GoodIn wsX5_powderWanted wsX5_notHours := goodIn_r _ [10, 11, 12, 5, 13] (by decide +kernel) (by decide +kernel)
set_option maxRecDepth 20000 in
theorem gX5_powderWanted_X5_notHours : GoodIn wsX5_powderWanted (va_wsS RX5 207 yX5_notHours wsX5_notHours) := goodIn_app (goodIn_of _ (by decide +kernel)) ggX5_powderWanted_X5_notHours
set_option maxRecDepth 20000 in
theorem ggX5_powderWanted_X5_isIn : GoodIn wsX5_powderWanted wsX5_isIn := goodIn_r _ [16] (by decide +kernel) (by decide +kernel)
set_option maxRecDepth 20000 in
theorem gX5_powderWanted_X5_isIn : GoodIn wsX5_powderWanted (va_wsS RX5 88 yX5_isIn wsX5_isIn) := goodIn_app (goodIn_of _ (by decide +kernel)) ggX5_powderWanted_X5_isIn
set_option maxRecDepth 20000 in
theorem ggX5_powderWanted_X5_no : GoodIn wsX5_powderWanted wsX5_no := goodIn_r _ [20, 21, 112, 113, 114, 115, 116, 117, 118, 119, 120, 121, 122, 123, 124, 125, 126, 127, 128, 129, 130, 131, 132, 133, 134, 135, 136, 137, 138, 139, 140, 141, 142, 143, 144] (by decide +kernel) (by decide +kernel)
set_option maxRecDepth 20000 in
theorem gX5_powderWanted_X5_no : GoodIn wsX5_powderWanted (wsV RX5 77 RX5 yX5_no wsX5_no) := goodIn_app (goodIn_of _ (by decide +kernel)) ggX5_powderWanted_X5_no
set_option maxRecDepth 20000 in
theorem ggX5_powderWanted_X5_oftenOf : GoodIn wsX5_powderWanted wsX5_oftenOf := goodIn_r _ [25, 26, 27, 28, 29, 5, 30, 31, 32, 33, 34, 35, 36, 37, 38, 39, 40, 41, 42, 43, 44, 45, 46, 47, 48, 1, 49, 7, 50, 51, 52, 53, 54, 55, 56, 57, 58, 59, 60, 61, 62, 63, 64, 65, 66, 67, 68, 69, 70, 71, 72, 73, 74, 75, 76, 77, 78, 79, 80, 81, 82, 83, 84, 85, 86, 87, 88, 89, 90, 91, 92, 93, 14, 15, 16, 94, 95, 96, 97, 98, 99, 100, 101, 102, 103, 104, 105, 106, 107, 108, 109, 110, 111, 112, 113, 114, 115, 116, 117, 118, 119, 120, 121, 122, 123, 124, 125, 126, 127, 128, 129, 130, 131, 132, 133, 134, 135, 136, 137, 138, 139, 140, 141, 142, 143, 144] (by decide +kernel) (by decide +kernel)
set_option maxRecDepth 20000 in
theorem gX5_powderWanted_X5_oftenOf : GoodIn wsX5_powderWanted (wsV RX5 229 RX5 yX5_oftenOf wsX5_oftenOf) := goodIn_app (goodIn_of _ (by decide +kernel)) ggX5_powderWanted_X5_oftenOf
theorem dX5_powderWanted_0 : decode cX5_powderWanted 0 = .ok (.aload_n 0, 1) := by decide +kernel
theorem dX5_powderWanted_1 : decode cX5_powderWanted 1 = .ok (.iload_n 1, 1) := by decide +kernel
theorem dX5_powderWanted_2 : decode cX5_powderWanted 2 = .ok (.invokevirtual 123, 3) := by decide +kernel
theorem dX5_powderWanted_5 : decode cX5_powderWanted 5 = .ok (.ifCond .ne 7, 3) := by decide +kernel
theorem dX5_powderWanted_8 : decode cX5_powderWanted 8 = .ok (.iconst (-1), 1) := by decide +kernel
theorem dX5_powderWanted_9 : decode cX5_powderWanted 9 = .ok (.goto 7, 3) := by decide +kernel
theorem dX5_powderWanted_12 : decode cX5_powderWanted 12 = .ok (.iload_n 2, 1) := by decide +kernel
theorem dX5_powderWanted_13 : decode cX5_powderWanted 13 = .ok (.invokestatic 207, 3) := by decide +kernel
theorem dX5_powderWanted_16 : decode cX5_powderWanted 16 = .ok (.istore 4, 2) := by decide +kernel
theorem dX5_powderWanted_18 : decode cX5_powderWanted 18 = .ok (.iload 4, 2) := by decide +kernel
theorem dX5_powderWanted_20 : decode cX5_powderWanted 20 = .ok (.ifCond .ne 16, 3) := by decide +kernel
theorem dX5_powderWanted_23 : decode cX5_powderWanted 23 = .ok (.iload_n 3, 1) := by decide +kernel
theorem dX5_powderWanted_24 : decode cX5_powderWanted 24 = .ok (.iconst 0, 1) := by decide +kernel
theorem dX5_powderWanted_25 : decode cX5_powderWanted 25 = .ok (.iconst 1, 1) := by decide +kernel
theorem dX5_powderWanted_26 : decode cX5_powderWanted 26 = .ok (.invokestatic 88, 3) := by decide +kernel
theorem dX5_powderWanted_29 : decode cX5_powderWanted 29 = .ok (.ifCond .ne 7, 3) := by decide +kernel
theorem dX5_powderWanted_32 : decode cX5_powderWanted 32 = .ok (.bipush (-2), 2) := by decide +kernel
theorem dX5_powderWanted_34 : decode cX5_powderWanted 34 = .ok (.istore 4, 2) := by decide +kernel
theorem dX5_powderWanted_36 : decode cX5_powderWanted 36 = .ok (.iload 4, 2) := by decide +kernel
theorem dX5_powderWanted_38 : decode cX5_powderWanted 38 = .ok (.ifCond .eq 10, 3) := by decide +kernel
theorem dX5_powderWanted_41 : decode cX5_powderWanted 41 = .ok (.aload_n 0, 1) := by decide +kernel
theorem dX5_powderWanted_42 : decode cX5_powderWanted 42 = .ok (.iload 4, 2) := by decide +kernel
theorem dX5_powderWanted_44 : decode cX5_powderWanted 44 = .ok (.invokevirtual 77, 3) := by decide +kernel
theorem dX5_powderWanted_47 : decode cX5_powderWanted 47 = .ok (.ireturn, 1) := by decide +kernel
theorem dX5_powderWanted_48 : decode cX5_powderWanted 48 = .ok (.aload_n 0, 1) := by decide +kernel
theorem dX5_powderWanted_49 : decode cX5_powderWanted 49 = .ok (.getfield 22, 3) := by decide +kernel
theorem dX5_powderWanted_52 : decode cX5_powderWanted 52 = .ok (.iload_n 1, 1) := by decide +kernel
theorem dX5_powderWanted_53 : decode cX5_powderWanted 53 = .ok (.iaload, 1) := by decide +kernel
theorem dX5_powderWanted_54 : decode cX5_powderWanted 54 = .ok (.istore 5, 2) := by decide +kernel
theorem dX5_powderWanted_56 : decode cX5_powderWanted 56 = .ok (.iconst 0, 1) := by decide +kernel
theorem dX5_powderWanted_57 : decode cX5_powderWanted 57 = .ok (.istore 6, 2) := by decide +kernel
theorem dX5_powderWanted_59 : decode cX5_powderWanted 59 = .ok (.bipush (-9), 2) := by decide +kernel
theorem dX5_powderWanted_61 : decode cX5_powderWanted 61 = .ok (.istore 7, 2) := by decide +kernel
theorem dX5_powderWanted_63 : decode cX5_powderWanted 63 = .ok (.iconst 0, 1) := by decide +kernel
theorem dX5_powderWanted_64 : decode cX5_powderWanted 64 = .ok (.istore 8, 2) := by decide +kernel
theorem dX5_powderWanted_66 : decode cX5_powderWanted 66 = .ok (.iload 8, 2) := by decide +kernel
theorem dX5_powderWanted_68 : decode cX5_powderWanted 68 = .ok (.bipush 99, 2) := by decide +kernel
theorem dX5_powderWanted_70 : decode cX5_powderWanted 70 = .ok (.if_icmp .gt 43, 3) := by decide +kernel
theorem dX5_powderWanted_73 : decode cX5_powderWanted 73 = .ok (.aload_n 0, 1) := by decide +kernel
theorem dX5_powderWanted_74 : decode cX5_powderWanted 74 = .ok (.getfield 22, 3) := by decide +kernel
theorem dX5_powderWanted_77 : decode cX5_powderWanted 77 = .ok (.iload_n 1, 1) := by decide +kernel
theorem dX5_powderWanted_78 : decode cX5_powderWanted 78 = .ok (.iload 8, 2) := by decide +kernel
theorem dX5_powderWanted_80 : decode cX5_powderWanted 80 = .ok (.iastore, 1) := by decide +kernel
theorem dX5_powderWanted_81 : decode cX5_powderWanted 81 = .ok (.aload_n 0, 1) := by decide +kernel
theorem dX5_powderWanted_82 : decode cX5_powderWanted 82 = .ok (.iload_n 1, 1) := by decide +kernel
theorem dX5_powderWanted_83 : decode cX5_powderWanted 83 = .ok (.iload_n 2, 1) := by decide +kernel
theorem dX5_powderWanted_84 : decode cX5_powderWanted 84 = .ok (.invokevirtual 229, 3) := by decide +kernel
theorem dX5_powderWanted_87 : decode cX5_powderWanted 87 = .ok (.istore 9, 2) := by decide +kernel
theorem dX5_powderWanted_89 : decode cX5_powderWanted 89 = .ok (.iload 9, 2) := by decide +kernel
theorem dX5_powderWanted_91 : decode cX5_powderWanted 91 = .ok (.iload 7, 2) := by decide +kernel
theorem dX5_powderWanted_93 : decode cX5_powderWanted 93 = .ok (.if_icmp .gt 6, 3) := by decide +kernel
theorem dX5_powderWanted_96 : decode cX5_powderWanted 96 = .ok (.goto 11, 3) := by decide +kernel
theorem dX5_powderWanted_99 : decode cX5_powderWanted 99 = .ok (.iload 8, 2) := by decide +kernel
theorem dX5_powderWanted_101 : decode cX5_powderWanted 101 = .ok (.istore 6, 2) := by decide +kernel
theorem dX5_powderWanted_103 : decode cX5_powderWanted 103 = .ok (.iload 9, 2) := by decide +kernel
theorem dX5_powderWanted_105 : decode cX5_powderWanted 105 = .ok (.istore 7, 2) := by decide +kernel
theorem dX5_powderWanted_107 : decode cX5_powderWanted 107 = .ok (.iinc 8 1, 3) := by decide +kernel
theorem dX5_powderWanted_110 : decode cX5_powderWanted 110 = .ok (.goto (-44), 3) := by decide +kernel
theorem dX5_powderWanted_113 : decode cX5_powderWanted 113 = .ok (.aload_n 0, 1) := by decide +kernel
theorem dX5_powderWanted_114 : decode cX5_powderWanted 114 = .ok (.getfield 22, 3) := by decide +kernel
theorem dX5_powderWanted_117 : decode cX5_powderWanted 117 = .ok (.iload_n 1, 1) := by decide +kernel
theorem dX5_powderWanted_118 : decode cX5_powderWanted 118 = .ok (.iload 5, 2) := by decide +kernel
theorem dX5_powderWanted_120 : decode cX5_powderWanted 120 = .ok (.iastore, 1) := by decide +kernel
theorem dX5_powderWanted_121 : decode cX5_powderWanted 121 = .ok (.iload_n 3, 1) := by decide +kernel
theorem dX5_powderWanted_122 : decode cX5_powderWanted 122 = .ok (.ifCond .ne 8, 3) := by decide +kernel
theorem dX5_powderWanted_125 : decode cX5_powderWanted 125 = .ok (.iload 6, 2) := by decide +kernel
theorem dX5_powderWanted_127 : decode cX5_powderWanted 127 = .ok (.goto 5, 3) := by decide +kernel
theorem dX5_powderWanted_130 : decode cX5_powderWanted 130 = .ok (.iload 7, 2) := by decide +kernel
theorem dX5_powderWanted_132 : decode cX5_powderWanted 132 = .ok (.ireturn, 1) := by decide +kernel
set_option maxRecDepth 20000 in
theorem ggX5_oftenAt_X5_changes : GoodIn wsX5_oftenAt wsX5_changes := goodIn_r _ [6, 7, 8, 9, 5, 10, 11, 12, 13, 14, 15, 16, 17, 1, 18, 19, 20, 21, 22, 23, 24, 25, 26, 27, 28, 29, 30, 31, 109, 110, 111, 112, 113, 114, 115, 116, 117, 118, 119, 120, 121, 122, 123, 124, 125, 126, 127, 128, 129, 130, 131, 132, 133, 134, 135, 136, 137, 138, 139, 140, 141] (by decide +kernel) (by decide +kernel)
set_option maxRecDepth 20000 in
theorem gX5_oftenAt_X5_changes : GoodIn wsX5_oftenAt (wsV RX5 238 RX5 yX5_changes wsX5_changes) := goodIn_app (goodIn_of _ (by decide +kernel)) ggX5_oftenAt_X5_changes
set_option maxRecDepth 20000 in
theorem ggX5_oftenAt_X5_adds : GoodIn wsX5_oftenAt wsX5_adds := goodIn_r _ [35, 13, 1, 14, 15, 16, 17, 18, 109, 110, 111, 112, 113, 114, 115, 116, 117, 118, 119, 120, 121, 122, 123, 124, 125, 126, 127, 128, 129, 130, 131, 132, 133, 134, 135, 136, 137, 138, 139, 140, 141] (by decide +kernel) (by decide +kernel)
set_option maxRecDepth 20000 in
theorem gX5_oftenAt_X5_adds : GoodIn wsX5_oftenAt (wsV RX5 109 RX5 yX5_adds wsX5_adds) := goodIn_app (goodIn_of _ (by decide +kernel)) ggX5_oftenAt_X5_adds
set_option maxRecDepth 20000 in
theorem ggX5_oftenAt_X5_oftenOf : GoodIn wsX5_oftenAt wsX5_oftenOf := goodIn_r _ [39, 40, 41, 42, 43, 5, 44, 45, 46, 47, 48, 19, 49, 50, 51, 52, 7, 8, 9, 10, 11, 12, 13, 14, 15, 16, 17, 1, 18, 20, 21, 22, 23, 24, 25, 26, 27, 28, 29, 30, 31, 53, 54, 55, 56, 57, 58, 59, 60, 61, 62, 63, 64, 65, 66, 67, 68, 69, 70, 71, 72, 73, 74, 75, 76, 77, 78, 79, 80, 81, 82, 83, 84, 85, 86, 87, 88, 89, 90, 91, 92, 93, 94, 95, 96, 97, 98, 99, 100, 101, 102, 103, 104, 109, 110, 111, 112, 113, 114, 115, 116, 117, 118, 119, 120, 121, 122, 123, 124, 125, 126, 127, 128, 129, 130, 131, 132, 133, 134, 135, 136, 137, 138, 139, 140, 141] (by decide +kernel) (by decide +kernel)
set_option maxRecDepth 20000 in
theorem gX5_oftenAt_X5_oftenOf : GoodIn wsX5_oftenAt (wsV RX5 229 RX5 yX5_oftenOf wsX5_oftenOf) := goodIn_app (goodIn_of _ (by decide +kernel)) ggX5_oftenAt_X5_oftenOf
set_option maxRecDepth 20000 in
theorem ggX5_oftenAt_X5_changesBack : GoodIn wsX5_oftenAt wsX5_changesBack := goodIn_r _ [108, 7, 8, 9, 5, 10, 11, 12, 13, 14, 15, 16, 17, 1, 18, 19, 20, 21, 22, 23, 24, 25, 26, 27, 28, 29, 30, 31, 109, 110, 111, 112, 113, 114, 115, 116, 117, 118, 119, 120, 121, 122, 123, 124, 125, 126, 127, 128, 129, 130, 131, 132, 133, 134, 135, 136, 137, 138, 139, 140, 141] (by decide +kernel) (by decide +kernel)
set_option maxRecDepth 20000 in
theorem gX5_oftenAt_X5_changesBack : GoodIn wsX5_oftenAt (wsV RX5 241 RX5 yX5_changesBack wsX5_changesBack) := goodIn_app (goodIn_of _ (by decide +kernel)) ggX5_oftenAt_X5_changesBack
theorem dX5_oftenAt_0 : decode cX5_oftenAt 0 = .ok (.aload_n 0, 1) := by decide +kernel
theorem dX5_oftenAt_1 : decode cX5_oftenAt 1 = .ok (.invokevirtual 238, 3) := by decide +kernel
theorem dX5_oftenAt_4 : decode cX5_oftenAt 4 = .ok (.aload_n 0, 1) := by decide +kernel
theorem dX5_oftenAt_5 : decode cX5_oftenAt 5 = .ok (.iload_n 1, 1) := by decide +kernel
theorem dX5_oftenAt_6 : decode cX5_oftenAt 6 = .ok (.iconst 5, 1) := by decide +kernel
theorem dX5_oftenAt_7 : decode cX5_oftenAt 7 = .ok (.iload_n 2, 1) := by decide +kernel
theorem dX5_oftenAt_8 : decode cX5_oftenAt 8 = .ok (.invokevirtual 109, 3) := by decide +kernel
theorem dX5_oftenAt_11 : decode cX5_oftenAt 11 = .ok (.aload_n 0, 1) := by decide +kernel
theorem dX5_oftenAt_12 : decode cX5_oftenAt 12 = .ok (.aload_n 0, 1) := by decide +kernel
theorem dX5_oftenAt_13 : decode cX5_oftenAt 13 = .ok (.getfield 67, 3) := by decide +kernel
theorem dX5_oftenAt_16 : decode cX5_oftenAt 16 = .ok (.iconst 1, 1) := by decide +kernel
theorem dX5_oftenAt_17 : decode cX5_oftenAt 17 = .ok (.isub, 1) := by decide +kernel
theorem dX5_oftenAt_18 : decode cX5_oftenAt 18 = .ok (.iload_n 3, 1) := by decide +kernel
theorem dX5_oftenAt_19 : decode cX5_oftenAt 19 = .ok (.invokevirtual 229, 3) := by decide +kernel
theorem dX5_oftenAt_22 : decode cX5_oftenAt 22 = .ok (.istore 4, 2) := by decide +kernel
theorem dX5_oftenAt_24 : decode cX5_oftenAt 24 = .ok (.aload_n 0, 1) := by decide +kernel
theorem dX5_oftenAt_25 : decode cX5_oftenAt 25 = .ok (.invokevirtual 241, 3) := by decide +kernel
theorem dX5_oftenAt_28 : decode cX5_oftenAt 28 = .ok (.iload 4, 2) := by decide +kernel
theorem dX5_oftenAt_30 : decode cX5_oftenAt 30 = .ok (.ireturn, 1) := by decide +kernel
set_option maxRecDepth 20000 in
theorem ggX5_newShore_X5_isIn : GoodIn wsX5_newShore wsX5_isIn := goodIn_r _ [5] (by decide +kernel) (by decide +kernel)
set_option maxRecDepth 20000 in
theorem gX5_newShore_X5_isIn : GoodIn wsX5_newShore (va_wsS RX5 88 yX5_isIn wsX5_isIn) := goodIn_app (goodIn_of _ (by decide +kernel)) ggX5_newShore_X5_isIn
set_option maxRecDepth 20000 in
theorem ggX5_newShore_X5_notHours : GoodIn wsX5_newShore wsX5_notHours := goodIn_r _ [8, 9, 10, 4, 11] (by decide +kernel) (by decide +kernel)
set_option maxRecDepth 20000 in
theorem gX5_newShore_X5_notHours : GoodIn wsX5_newShore (va_wsS RX5 207 yX5_notHours wsX5_notHours) := goodIn_app (goodIn_of _ (by decide +kernel)) ggX5_newShore_X5_notHours
set_option maxRecDepth 20000 in
theorem ggX5_newShore_X5_no : GoodIn wsX5_newShore wsX5_no := goodIn_r _ [15, 16, 124, 125, 126, 127, 128, 129, 130, 131, 132, 133, 134, 135, 136, 137, 138, 139, 140, 141, 142, 143, 144, 145, 146, 147, 148, 149, 150, 151, 152, 153, 154, 155, 156] (by decide +kernel) (by decide +kernel)
set_option maxRecDepth 20000 in
theorem gX5_newShore_X5_no : GoodIn wsX5_newShore (wsV RX5 77 RX5 yX5_no wsX5_no) := goodIn_app (goodIn_of _ (by decide +kernel)) ggX5_newShore_X5_no
set_option maxRecDepth 20000 in
theorem ggX5_newShore_X5_shoreAt : GoodIn wsX5_newShore wsX5_shoreAt := goodIn_r _ [20, 1, 21, 124, 125, 126, 127, 128, 129, 130, 131, 132, 133, 134, 135, 136, 137, 138, 139, 140, 141, 142, 143, 144, 145, 146, 147, 148, 149, 150, 151, 152, 153, 154, 155, 156] (by decide +kernel) (by decide +kernel)
set_option maxRecDepth 20000 in
theorem gX5_newShore_X5_shoreAt : GoodIn wsX5_newShore (wsV RX5 106 RX5 yX5_shoreAt wsX5_shoreAt) := goodIn_app (goodIn_of _ (by decide +kernel)) ggX5_newShore_X5_shoreAt
set_option maxRecDepth 20000 in
theorem ggX5_newShore_X5_oftenAt : GoodIn wsX5_newShore wsX5_oftenAt := goodIn_r _ [25, 1, 26, 27, 28, 4, 29, 30, 31, 32, 33, 34, 35, 36, 37, 21, 38, 39, 40, 41, 42, 43, 44, 45, 46, 47, 48, 49, 50, 51, 52, 53, 54, 55, 56, 57, 58, 59, 60, 61, 62, 63, 64, 65, 66, 67, 68, 69, 70, 71, 72, 73, 74, 75, 76, 77, 78, 17, 18, 19, 20, 79, 80, 81, 82, 83, 84, 85, 86, 87, 88, 89, 90, 91, 92, 93, 94, 95, 96, 97, 98, 99, 100, 101, 2, 3, 5, 102, 103, 104, 105, 106, 107, 108, 109, 110, 111, 112, 113, 114, 115, 116, 117, 118, 119, 120, 121, 122, 123, 124, 125, 126, 127, 128, 129, 130, 131, 132, 133, 134, 135, 136, 137, 138, 139, 140, 141, 142, 143, 144, 145, 146, 147, 148, 149, 150, 151, 152, 153, 154, 155, 156] (by decide +kernel) (by decide +kernel)
set_option maxRecDepth 20000 in
theorem gX5_newShore_X5_oftenAt : GoodIn wsX5_newShore (wsV RX5 247 RX5 yX5_oftenAt wsX5_oftenAt) := goodIn_app (goodIn_of _ (by decide +kernel)) ggX5_newShore_X5_oftenAt
theorem dX5_newShore_0 : decode cX5_newShore 0 = .ok (.iload_n 1, 1) := by decide +kernel
theorem dX5_newShore_1 : decode cX5_newShore 1 = .ok (.iconst 0, 1) := by decide +kernel
theorem dX5_newShore_2 : decode cX5_newShore 2 = .ok (.iconst 5, 1) := by decide +kernel
theorem dX5_newShore_3 : decode cX5_newShore 3 = .ok (.invokestatic 88, 3) := by decide +kernel
theorem dX5_newShore_6 : decode cX5_newShore 6 = .ok (.ifCond .eq 12, 3) := by decide +kernel
theorem dX5_newShore_9 : decode cX5_newShore 9 = .ok (.iload_n 3, 1) := by decide +kernel
theorem dX5_newShore_10 : decode cX5_newShore 10 = .ok (.iconst 0, 1) := by decide +kernel
theorem dX5_newShore_11 : decode cX5_newShore 11 = .ok (.iconst 1, 1) := by decide +kernel
theorem dX5_newShore_12 : decode cX5_newShore 12 = .ok (.invokestatic 88, 3) := by decide +kernel
theorem dX5_newShore_15 : decode cX5_newShore 15 = .ok (.ifCond .ne 8, 3) := by decide +kernel
theorem dX5_newShore_18 : decode cX5_newShore 18 = .ok (.bipush (-2), 2) := by decide +kernel
theorem dX5_newShore_20 : decode cX5_newShore 20 = .ok (.goto 7, 3) := by decide +kernel
theorem dX5_newShore_23 : decode cX5_newShore 23 = .ok (.iload_n 2, 1) := by decide +kernel
theorem dX5_newShore_24 : decode cX5_newShore 24 = .ok (.invokestatic 207, 3) := by decide +kernel
theorem dX5_newShore_27 : decode cX5_newShore 27 = .ok (.istore 4, 2) := by decide +kernel
theorem dX5_newShore_29 : decode cX5_newShore 29 = .ok (.iload 4, 2) := by decide +kernel
theorem dX5_newShore_31 : decode cX5_newShore 31 = .ok (.ifCond .eq 10, 3) := by decide +kernel
theorem dX5_newShore_34 : decode cX5_newShore 34 = .ok (.aload_n 0, 1) := by decide +kernel
theorem dX5_newShore_35 : decode cX5_newShore 35 = .ok (.iload 4, 2) := by decide +kernel
theorem dX5_newShore_37 : decode cX5_newShore 37 = .ok (.invokevirtual 77, 3) := by decide +kernel
theorem dX5_newShore_40 : decode cX5_newShore 40 = .ok (.ireturn, 1) := by decide +kernel
