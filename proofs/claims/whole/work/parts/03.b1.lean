theorem dX3_days_36 : decode cX3_days 36 = .ok (.dup, 1) := by decide +kernel
theorem dX3_days_37 : decode cX3_days 37 = .ok (.getfield 48, 3) := by decide +kernel
theorem dX3_days_40 : decode cX3_days 40 = .ok (.iconst 1, 1) := by decide +kernel
theorem dX3_days_41 : decode cX3_days 41 = .ok (.iadd, 1) := by decide +kernel
theorem dX3_days_42 : decode cX3_days 42 = .ok (.putfield 48, 3) := by decide +kernel
theorem dX3_days_45 : decode cX3_days 45 = .ok (.aload_n 0, 1) := by decide +kernel
theorem dX3_days_46 : decode cX3_days 46 = .ok (.invokevirtual 122, 3) := by decide +kernel
theorem dX3_days_49 : decode cX3_days 49 = .ok (.aload_n 0, 1) := by decide +kernel
theorem dX3_days_50 : decode cX3_days 50 = .ok (.invokevirtual 125, 3) := by decide +kernel
theorem dX3_days_53 : decode cX3_days 53 = .ok (.iinc 2 1, 3) := by decide +kernel
theorem dX3_days_56 : decode cX3_days 56 = .ok (.goto (-26), 3) := by decide +kernel
theorem dX3_days_59 : decode cX3_days 59 = .ok (.aload_n 0, 1) := by decide +kernel
theorem dX3_days_60 : decode cX3_days 60 = .ok (.getfield 48, 3) := by decide +kernel
theorem dX3_days_63 : decode cX3_days 63 = .ok (.ireturn, 1) := by decide +kernel
set_option maxRecDepth 20000 in
theorem ggX3_choose_X3_wantOf : GoodIn wsX3_choose wsX3_wantOf := goodIn_r _ [11, 12, 13, 14, 15, 16, 17, 18, 19, 10, 20, 1, 21, 22, 23, 24, 25, 26, 2, 27, 28, 29, 133, 134, 135, 136, 137, 138, 139, 140, 141, 142, 143, 144, 145] (by decide +kernel) (by decide +kernel)
set_option maxRecDepth 20000 in
theorem gX3_choose_X3_wantOf : GoodIn wsX3_choose (wsV RX3 128 RX3 yX3_wantOf wsX3_wantOf) := goodIn_app (goodIn_of _ (by decide +kernel)) ggX3_choose_X3_wantOf
set_option maxRecDepth 20000 in
theorem ggX3_choose_X3_isNoPlace : GoodIn wsX3_choose wsX3_isNoPlace := goodIn_r _ [33, 1, 3, 34, 35, 36, 37, 38, 39, 40, 41, 42, 43, 44, 45, 133, 134, 135, 136, 137, 138, 139, 140, 141, 142, 143, 144, 145, 146, 147, 148, 149, 150, 151, 152, 153, 154] (by decide +kernel) (by decide +kernel)
set_option maxRecDepth 20000 in
theorem gX3_choose_X3_isNoPlace : GoodIn wsX3_choose (wsV RX3 83 RX3 yX3_isNoPlace wsX3_isNoPlace) := goodIn_app (goodIn_of _ (by decide +kernel)) ggX3_choose_X3_isNoPlace
set_option maxRecDepth 20000 in
theorem ggX3_choose_X3_lands : GoodIn wsX3_choose wsX3_lands := goodIn_r _ [49, 50, 12, 3, 51, 52, 53, 54, 55, 56, 57, 58, 59, 60, 61, 62, 63, 64, 65, 66, 67, 68, 69, 70, 71, 72, 73, 74, 75, 76, 77, 10, 78, 79, 80, 1, 22, 81, 82, 83, 84, 85, 86, 87, 88, 89, 90, 91, 92, 93, 94, 95, 96, 97, 15, 98, 99, 100, 101, 102, 103, 104, 105, 106, 107, 108, 37, 109, 110, 111, 112, 113, 114, 115, 21, 116, 117, 118, 119, 120, 121, 122, 123, 124, 125, 126, 127, 128, 29, 129, 130, 131, 132, 133, 134, 135, 136, 137, 138, 139, 140, 141, 146, 147, 148, 149, 150, 151, 152, 153, 154, 155, 156, 142, 143, 144, 145] (by decide +kernel) (by decide +kernel)
set_option maxRecDepth 20000 in
theorem gX3_choose_X3_lands : GoodIn wsX3_choose (wsV RX3 94 RX3 yX3_lands wsX3_lands) := goodIn_app (goodIn_of _ (by decide +kernel)) ggX3_choose_X3_lands
theorem dX3_choose_0 : decode cX3_choose 0 = .ok (.iconst (-1), 1) := by decide +kernel
theorem dX3_choose_1 : decode cX3_choose 1 = .ok (.istore_n 1, 1) := by decide +kernel
theorem dX3_choose_2 : decode cX3_choose 2 = .ok (.iconst (-1), 1) := by decide +kernel
theorem dX3_choose_3 : decode cX3_choose 3 = .ok (.istore_n 2, 1) := by decide +kernel
theorem dX3_choose_4 : decode cX3_choose 4 = .ok (.lconst 0, 1) := by decide +kernel
theorem dX3_choose_5 : decode cX3_choose 5 = .ok (.lstore_n 3, 1) := by decide +kernel
theorem dX3_choose_6 : decode cX3_choose 6 = .ok (.lconst 1, 1) := by decide +kernel
theorem dX3_choose_7 : decode cX3_choose 7 = .ok (.lstore 5, 2) := by decide +kernel
theorem dX3_choose_9 : decode cX3_choose 9 = .ok (.iconst 0, 1) := by decide +kernel
theorem dX3_choose_10 : decode cX3_choose 10 = .ok (.istore 7, 2) := by decide +kernel
theorem dX3_choose_12 : decode cX3_choose 12 = .ok (.iload 7, 2) := by decide +kernel
theorem dX3_choose_14 : decode cX3_choose 14 = .ok (.aload_n 0, 1) := by decide +kernel
theorem dX3_choose_15 : decode cX3_choose 15 = .ok (.getfield 19, 3) := by decide +kernel
theorem dX3_choose_18 : decode cX3_choose 18 = .ok (.getfield 76, 3) := by decide +kernel
theorem dX3_choose_21 : decode cX3_choose 21 = .ok (.if_icmp .ge 80, 3) := by decide +kernel
theorem dX3_choose_24 : decode cX3_choose 24 = .ok (.iconst 0, 1) := by decide +kernel
theorem dX3_choose_25 : decode cX3_choose 25 = .ok (.istore 8, 2) := by decide +kernel
theorem dX3_choose_27 : decode cX3_choose 27 = .ok (.iload 8, 2) := by decide +kernel
theorem dX3_choose_29 : decode cX3_choose 29 = .ok (.aload_n 0, 1) := by decide +kernel
theorem dX3_choose_30 : decode cX3_choose 30 = .ok (.getfield 10, 3) := by decide +kernel
theorem dX3_choose_33 : decode cX3_choose 33 = .ok (.getfield 60, 3) := by decide +kernel
theorem dX3_choose_36 : decode cX3_choose 36 = .ok (.if_icmp .ge 59, 3) := by decide +kernel
theorem dX3_choose_39 : decode cX3_choose 39 = .ok (.aload_n 0, 1) := by decide +kernel
theorem dX3_choose_40 : decode cX3_choose 40 = .ok (.iload 7, 2) := by decide +kernel
theorem dX3_choose_42 : decode cX3_choose 42 = .ok (.iload 8, 2) := by decide +kernel
theorem dX3_choose_44 : decode cX3_choose 44 = .ok (.invokevirtual 128, 3) := by decide +kernel
theorem dX3_choose_47 : decode cX3_choose 47 = .ok (.i2l, 1) := by decide +kernel
theorem dX3_choose_48 : decode cX3_choose 48 = .ok (.lstore 9, 2) := by decide +kernel
theorem dX3_choose_50 : decode cX3_choose 50 = .ok (.aload_n 0, 1) := by decide +kernel
theorem dX3_choose_51 : decode cX3_choose 51 = .ok (.getfield 10, 3) := by decide +kernel
theorem dX3_choose_54 : decode cX3_choose 54 = .ok (.getfield 63, 3) := by decide +kernel
theorem dX3_choose_57 : decode cX3_choose 57 = .ok (.iload 8, 2) := by decide +kernel
theorem dX3_choose_59 : decode cX3_choose 59 = .ok (.iaload, 1) := by decide +kernel
theorem dX3_choose_60 : decode cX3_choose 60 = .ok (.i2l, 1) := by decide +kernel
theorem dX3_choose_61 : decode cX3_choose 61 = .ok (.lstore 11, 2) := by decide +kernel
theorem dX3_choose_63 : decode cX3_choose 63 = .ok (.lload 9, 2) := by decide +kernel
theorem dX3_choose_65 : decode cX3_choose 65 = .ok (.lload 5, 2) := by decide +kernel
theorem dX3_choose_67 : decode cX3_choose 67 = .ok (.lmul, 1) := by decide +kernel
theorem dX3_choose_68 : decode cX3_choose 68 = .ok (.lload_n 3, 1) := by decide +kernel
theorem dX3_choose_69 : decode cX3_choose 69 = .ok (.lload 11, 2) := by decide +kernel
theorem dX3_choose_71 : decode cX3_choose 71 = .ok (.lmul, 1) := by decide +kernel
theorem dX3_choose_72 : decode cX3_choose 72 = .ok (.lcmp, 1) := by decide +kernel
theorem dX3_choose_73 : decode cX3_choose 73 = .ok (.ifCond .le 16, 3) := by decide +kernel
theorem dX3_choose_76 : decode cX3_choose 76 = .ok (.iload 7, 2) := by decide +kernel
theorem dX3_choose_78 : decode cX3_choose 78 = .ok (.istore_n 1, 1) := by decide +kernel
theorem dX3_choose_79 : decode cX3_choose 79 = .ok (.iload 8, 2) := by decide +kernel
theorem dX3_choose_81 : decode cX3_choose 81 = .ok (.istore_n 2, 1) := by decide +kernel
theorem dX3_choose_82 : decode cX3_choose 82 = .ok (.lload 9, 2) := by decide +kernel
theorem dX3_choose_84 : decode cX3_choose 84 = .ok (.lstore_n 3, 1) := by decide +kernel
theorem dX3_choose_85 : decode cX3_choose 85 = .ok (.lload 11, 2) := by decide +kernel
theorem dX3_choose_87 : decode cX3_choose 87 = .ok (.lstore 5, 2) := by decide +kernel
theorem dX3_choose_89 : decode cX3_choose 89 = .ok (.iinc 8 1, 3) := by decide +kernel
theorem dX3_choose_92 : decode cX3_choose 92 = .ok (.goto (-65), 3) := by decide +kernel
theorem dX3_choose_95 : decode cX3_choose 95 = .ok (.iinc 7 1, 3) := by decide +kernel
theorem dX3_choose_98 : decode cX3_choose 98 = .ok (.goto (-86), 3) := by decide +kernel
theorem dX3_choose_101 : decode cX3_choose 101 = .ok (.aload_n 0, 1) := by decide +kernel
theorem dX3_choose_102 : decode cX3_choose 102 = .ok (.iload_n 1, 1) := by decide +kernel
theorem dX3_choose_103 : decode cX3_choose 103 = .ok (.iload_n 2, 1) := by decide +kernel
theorem dX3_choose_104 : decode cX3_choose 104 = .ok (.invokevirtual 83, 3) := by decide +kernel
theorem dX3_choose_107 : decode cX3_choose 107 = .ok (.ifCond .eq 5, 3) := by decide +kernel
theorem dX3_choose_110 : decode cX3_choose 110 = .ok (.iconst (-1), 1) := by decide +kernel
theorem dX3_choose_111 : decode cX3_choose 111 = .ok (.ireturn, 1) := by decide +kernel
theorem dX3_choose_112 : decode cX3_choose 112 = .ok (.aload_n 0, 1) := by decide +kernel
theorem dX3_choose_113 : decode cX3_choose 113 = .ok (.getfield 10, 3) := by decide +kernel
theorem dX3_choose_116 : decode cX3_choose 116 = .ok (.getfield 91, 3) := by decide +kernel
theorem dX3_choose_119 : decode cX3_choose 119 = .ok (.iload_n 2, 1) := by decide +kernel
theorem dX3_choose_120 : decode cX3_choose 120 = .ok (.iaload, 1) := by decide +kernel
theorem dX3_choose_121 : decode cX3_choose 121 = .ok (.sipush 200, 3) := by decide +kernel
theorem dX3_choose_124 : decode cX3_choose 124 = .ok (.if_icmp .lt 6, 3) := by decide +kernel
theorem dX3_choose_127 : decode cX3_choose 127 = .ok (.bipush (-4), 2) := by decide +kernel
theorem dX3_choose_129 : decode cX3_choose 129 = .ok (.ireturn, 1) := by decide +kernel
theorem dX3_choose_130 : decode cX3_choose 130 = .ok (.aload_n 0, 1) := by decide +kernel
theorem dX3_choose_131 : decode cX3_choose 131 = .ok (.getfield 10, 3) := by decide +kernel
theorem dX3_choose_134 : decode cX3_choose 134 = .ok (.getfield 91, 3) := by decide +kernel
theorem dX3_choose_137 : decode cX3_choose 137 = .ok (.iload_n 2, 1) := by decide +kernel
theorem dX3_choose_138 : decode cX3_choose 138 = .ok (.dup2, 1) := by decide +kernel
theorem dX3_choose_139 : decode cX3_choose 139 = .ok (.iaload, 1) := by decide +kernel
theorem dX3_choose_140 : decode cX3_choose 140 = .ok (.iconst 1, 1) := by decide +kernel
theorem dX3_choose_141 : decode cX3_choose 141 = .ok (.iadd, 1) := by decide +kernel
theorem dX3_choose_142 : decode cX3_choose 142 = .ok (.iastore, 1) := by decide +kernel
theorem dX3_choose_143 : decode cX3_choose 143 = .ok (.aload_n 0, 1) := by decide +kernel
theorem dX3_choose_144 : decode cX3_choose 144 = .ok (.iload_n 1, 1) := by decide +kernel
theorem dX3_choose_145 : decode cX3_choose 145 = .ok (.iload_n 2, 1) := by decide +kernel
theorem dX3_choose_146 : decode cX3_choose 146 = .ok (.invokevirtual 94, 3) := by decide +kernel
theorem dX3_choose_149 : decode cX3_choose 149 = .ok (.bipush 8, 2) := by decide +kernel
theorem dX3_choose_151 : decode cX3_choose 151 = .ok (.iload_n 1, 1) := by decide +kernel
theorem dX3_choose_152 : decode cX3_choose 152 = .ok (.imul, 1) := by decide +kernel
theorem dX3_choose_153 : decode cX3_choose 153 = .ok (.iload_n 2, 1) := by decide +kernel
theorem dX3_choose_154 : decode cX3_choose 154 = .ok (.iadd, 1) := by decide +kernel
theorem dX3_choose_155 : decode cX3_choose 155 = .ok (.ireturn, 1) := by decide +kernel
set_option maxRecDepth 20000 in
theorem ggX3_about_X3_isNoPlace : GoodIn wsX3_about wsX3_isNoPlace := goodIn_r _ [8, 9, 10, 11, 12, 13, 14, 15, 16, 17, 18, 19, 20, 21, 22, 38, 39, 40, 41, 42, 43, 44, 45, 46, 47, 48, 49, 50, 51, 52, 53, 54, 55, 56, 57, 58, 59] (by decide +kernel) (by decide +kernel)
set_option maxRecDepth 20000 in
theorem gX3_about_X3_isNoPlace : GoodIn wsX3_about (wsV RX3 83 RX3 yX3_isNoPlace wsX3_isNoPlace) := goodIn_app (goodIn_of _ (by decide +kernel)) ggX3_about_X3_isNoPlace
set_option maxRecDepth 20000 in
theorem ggX3_about_X1_tally : GoodIn wsX3_about wsX1_tally := goodIn_r _ [27, 28, 29, 30, 31, 26, 32, 33, 60, 61] (by decide +kernel) (by decide +kernel)
set_option maxRecDepth 20000 in
theorem gX3_about_X1_tally : GoodIn wsX3_about (wsV RX3 131 RX1 yX1_tally wsX1_tally) := goodIn_app (goodIn_of _ (by decide +kernel)) ggX3_about_X1_tally
set_option maxRecDepth 20000 in
theorem ggX3_about_X3_mendsThatWait : GoodIn wsX3_about wsX3_mendsThatWait := goodIn_r _ [37, 2, 23, 24, 25, 26, 27, 28, 29, 30, 31, 32, 33, 38, 39, 40, 41, 42, 43, 44, 45, 46, 60, 61] (by decide +kernel) (by decide +kernel)
set_option maxRecDepth 20000 in
theorem gX3_about_X3_mendsThatWait : GoodIn wsX3_about (wsV RX3 87 RX3 yX3_mendsThatWait wsX3_mendsThatWait) := goodIn_app (goodIn_of _ (by decide +kernel)) ggX3_about_X3_mendsThatWait
theorem dX3_about_0 : decode cX3_about 0 = .ok (.aload_n 0, 1) := by decide +kernel
theorem dX3_about_1 : decode cX3_about 1 = .ok (.iload_n 1, 1) := by decide +kernel
theorem dX3_about_2 : decode cX3_about 2 = .ok (.iload_n 2, 1) := by decide +kernel
theorem dX3_about_3 : decode cX3_about 3 = .ok (.invokevirtual 83, 3) := by decide +kernel
theorem dX3_about_6 : decode cX3_about 6 = .ok (.ifCond .eq 5, 3) := by decide +kernel
theorem dX3_about_9 : decode cX3_about 9 = .ok (.iconst (-1), 1) := by decide +kernel
theorem dX3_about_10 : decode cX3_about 10 = .ok (.ireturn, 1) := by decide +kernel
theorem dX3_about_11 : decode cX3_about 11 = .ok (.iload_n 3, 1) := by decide +kernel
theorem dX3_about_12 : decode cX3_about 12 = .ok (.tableswitch 136 0 7 #[48, 57, 69, 81, 93, 100, 112, 124], 48) := by decide +kernel
theorem dX3_about_60 : decode cX3_about 60 = .ok (.aload_n 0, 1) := by decide +kernel
theorem dX3_about_61 : decode cX3_about 61 = .ok (.getfield 25, 3) := by decide +kernel
theorem dX3_about_64 : decode cX3_about 64 = .ok (.iload_n 1, 1) := by decide +kernel
theorem dX3_about_65 : decode cX3_about 65 = .ok (.aaload, 1) := by decide +kernel
theorem dX3_about_66 : decode cX3_about 66 = .ok (.iload_n 2, 1) := by decide +kernel
theorem dX3_about_67 : decode cX3_about 67 = .ok (.iaload, 1) := by decide +kernel
theorem dX3_about_68 : decode cX3_about 68 = .ok (.ireturn, 1) := by decide +kernel
theorem dX3_about_69 : decode cX3_about 69 = .ok (.aload_n 0, 1) := by decide +kernel
theorem dX3_about_70 : decode cX3_about 70 = .ok (.getfield 41, 3) := by decide +kernel
theorem dX3_about_73 : decode cX3_about 73 = .ok (.iload_n 1, 1) := by decide +kernel
theorem dX3_about_74 : decode cX3_about 74 = .ok (.iload_n 2, 1) := by decide +kernel
theorem dX3_about_75 : decode cX3_about 75 = .ok (.iconst (-1), 1) := by decide +kernel
theorem dX3_about_76 : decode cX3_about 76 = .ok (.iconst (-1), 1) := by decide +kernel
theorem dX3_about_77 : decode cX3_about 77 = .ok (.invokevirtual 131, 3) := by decide +kernel
theorem dX3_about_80 : decode cX3_about 80 = .ok (.ireturn, 1) := by decide +kernel
theorem dX3_about_81 : decode cX3_about 81 = .ok (.aload_n 0, 1) := by decide +kernel
theorem dX3_about_82 : decode cX3_about 82 = .ok (.getfield 41, 3) := by decide +kernel
theorem dX3_about_85 : decode cX3_about 85 = .ok (.iload_n 1, 1) := by decide +kernel
theorem dX3_about_86 : decode cX3_about 86 = .ok (.iload_n 2, 1) := by decide +kernel
theorem dX3_about_87 : decode cX3_about 87 = .ok (.iconst 0, 1) := by decide +kernel
theorem dX3_about_88 : decode cX3_about 88 = .ok (.iconst (-1), 1) := by decide +kernel
theorem dX3_about_89 : decode cX3_about 89 = .ok (.invokevirtual 131, 3) := by decide +kernel
theorem dX3_about_92 : decode cX3_about 92 = .ok (.ireturn, 1) := by decide +kernel
theorem dX3_about_93 : decode cX3_about 93 = .ok (.aload_n 0, 1) := by decide +kernel
theorem dX3_about_94 : decode cX3_about 94 = .ok (.getfield 45, 3) := by decide +kernel
theorem dX3_about_97 : decode cX3_about 97 = .ok (.iload_n 1, 1) := by decide +kernel
theorem dX3_about_98 : decode cX3_about 98 = .ok (.iload_n 2, 1) := by decide +kernel
theorem dX3_about_99 : decode cX3_about 99 = .ok (.iconst 2, 1) := by decide +kernel
theorem dX3_about_100 : decode cX3_about 100 = .ok (.iconst (-1), 1) := by decide +kernel
theorem dX3_about_101 : decode cX3_about 101 = .ok (.invokevirtual 131, 3) := by decide +kernel
theorem dX3_about_104 : decode cX3_about 104 = .ok (.ireturn, 1) := by decide +kernel
theorem dX3_about_105 : decode cX3_about 105 = .ok (.aload_n 0, 1) := by decide +kernel
theorem dX3_about_106 : decode cX3_about 106 = .ok (.iload_n 1, 1) := by decide +kernel
theorem dX3_about_107 : decode cX3_about 107 = .ok (.iload_n 2, 1) := by decide +kernel
theorem dX3_about_108 : decode cX3_about 108 = .ok (.invokevirtual 87, 3) := by decide +kernel
theorem dX3_about_111 : decode cX3_about 111 = .ok (.ireturn, 1) := by decide +kernel
theorem dX3_about_112 : decode cX3_about 112 = .ok (.aload_n 0, 1) := by decide +kernel
theorem dX3_about_113 : decode cX3_about 113 = .ok (.getfield 45, 3) := by decide +kernel
theorem dX3_about_116 : decode cX3_about 116 = .ok (.iload_n 1, 1) := by decide +kernel
theorem dX3_about_117 : decode cX3_about 117 = .ok (.iload_n 2, 1) := by decide +kernel
theorem dX3_about_118 : decode cX3_about 118 = .ok (.iconst 0, 1) := by decide +kernel
theorem dX3_about_119 : decode cX3_about 119 = .ok (.iconst (-1), 1) := by decide +kernel
theorem dX3_about_120 : decode cX3_about 120 = .ok (.invokevirtual 131, 3) := by decide +kernel
theorem dX3_about_123 : decode cX3_about 123 = .ok (.ireturn, 1) := by decide +kernel
theorem dX3_about_124 : decode cX3_about 124 = .ok (.aload_n 0, 1) := by decide +kernel
theorem dX3_about_125 : decode cX3_about 125 = .ok (.getfield 45, 3) := by decide +kernel
theorem dX3_about_128 : decode cX3_about 128 = .ok (.iload_n 1, 1) := by decide +kernel
theorem dX3_about_129 : decode cX3_about 129 = .ok (.iload_n 2, 1) := by decide +kernel
theorem dX3_about_130 : decode cX3_about 130 = .ok (.iconst 1, 1) := by decide +kernel
theorem dX3_about_131 : decode cX3_about 131 = .ok (.iconst (-1), 1) := by decide +kernel
theorem dX3_about_132 : decode cX3_about 132 = .ok (.invokevirtual 131, 3) := by decide +kernel
theorem dX3_about_135 : decode cX3_about 135 = .ok (.ireturn, 1) := by decide +kernel
theorem dX3_about_136 : decode cX3_about 136 = .ok (.aload_n 0, 1) := by decide +kernel
theorem dX3_about_137 : decode cX3_about 137 = .ok (.getfield 45, 3) := by decide +kernel
theorem dX3_about_140 : decode cX3_about 140 = .ok (.iload_n 1, 1) := by decide +kernel
theorem dX3_about_141 : decode cX3_about 141 = .ok (.iload_n 2, 1) := by decide +kernel
theorem dX3_about_142 : decode cX3_about 142 = .ok (.iconst 3, 1) := by decide +kernel
theorem dX3_about_143 : decode cX3_about 143 = .ok (.iconst (-1), 1) := by decide +kernel
theorem dX3_about_144 : decode cX3_about 144 = .ok (.invokevirtual 131, 3) := by decide +kernel
theorem dX3_about_147 : decode cX3_about 147 = .ok (.ireturn, 1) := by decide +kernel
theorem dX3_about_148 : decode cX3_about 148 = .ok (.iconst (-1), 1) := by decide +kernel
theorem dX3_about_149 : decode cX3_about 149 = .ok (.ireturn, 1) := by decide +kernel
set_option maxRecDepth 20000 in
theorem ggX3_ask_X3_isNoPlace : GoodIn wsX3_ask wsX3_isNoPlace := goodIn_r _ [6, 7, 8, 9, 10, 11, 12, 13, 14, 15, 16, 17, 18, 19, 20, 36, 37, 38, 39, 40, 41, 42, 43, 44, 45, 46, 47, 48, 49, 50, 51, 52, 53, 54, 55, 56, 57] (by decide +kernel) (by decide +kernel)
set_option maxRecDepth 20000 in
theorem gX3_ask_X3_isNoPlace : GoodIn wsX3_ask (wsV RX3 83 RX3 yX3_isNoPlace wsX3_isNoPlace) := goodIn_app (goodIn_of _ (by decide +kernel)) ggX3_ask_X3_isNoPlace
set_option maxRecDepth 20000 in
theorem ggX3_ask_X1_find : GoodIn wsX3_ask wsX1_find := goodIn_r _ [25, 26, 27, 28, 29, 24, 30, 31, 58, 59] (by decide +kernel) (by decide +kernel)
set_option maxRecDepth 20000 in
theorem gX3_ask_X1_find : GoodIn wsX3_ask (wsV RX3 135 RX1 yX1_find wsX1_find) := goodIn_app (goodIn_of _ (by decide +kernel)) ggX3_ask_X1_find
set_option maxRecDepth 20000 in
theorem ggX3_ask_X1_read : GoodIn wsX3_ask wsX1_read := goodIn_r _ [35, 26, 31, 58, 59] (by decide +kernel) (by decide +kernel)
set_option maxRecDepth 20000 in
theorem gX3_ask_X1_read : GoodIn wsX3_ask (wsV RX3 138 RX1 yX1_read wsX1_read) := goodIn_app (goodIn_of _ (by decide +kernel)) ggX3_ask_X1_read
theorem dX3_ask_0 : decode cX3_ask 0 = .ok (.aload_n 0, 1) := by decide +kernel
theorem dX3_ask_1 : decode cX3_ask 1 = .ok (.iload_n 1, 1) := by decide +kernel
theorem dX3_ask_2 : decode cX3_ask 2 = .ok (.iload_n 2, 1) := by decide +kernel
theorem dX3_ask_3 : decode cX3_ask 3 = .ok (.invokevirtual 83, 3) := by decide +kernel
theorem dX3_ask_6 : decode cX3_ask 6 = .ok (.ifCond .eq 5, 3) := by decide +kernel
theorem dX3_ask_9 : decode cX3_ask 9 = .ok (.iconst (-1), 1) := by decide +kernel
theorem dX3_ask_10 : decode cX3_ask 10 = .ok (.ireturn, 1) := by decide +kernel
theorem dX3_ask_11 : decode cX3_ask 11 = .ok (.aload_n 0, 1) := by decide +kernel
theorem dX3_ask_12 : decode cX3_ask 12 = .ok (.getfield 41, 3) := by decide +kernel
theorem dX3_ask_15 : decode cX3_ask 15 = .ok (.iload_n 1, 1) := by decide +kernel
theorem dX3_ask_16 : decode cX3_ask 16 = .ok (.iload_n 2, 1) := by decide +kernel
theorem dX3_ask_17 : decode cX3_ask 17 = .ok (.iconst (-1), 1) := by decide +kernel
theorem dX3_ask_18 : decode cX3_ask 18 = .ok (.iload_n 3, 1) := by decide +kernel
theorem dX3_ask_19 : decode cX3_ask 19 = .ok (.invokevirtual 135, 3) := by decide +kernel
theorem dX3_ask_22 : decode cX3_ask 22 = .ok (.istore 5, 2) := by decide +kernel
theorem dX3_ask_24 : decode cX3_ask 24 = .ok (.iload 4, 2) := by decide +kernel
theorem dX3_ask_26 : decode cX3_ask 26 = .ok (.tableswitch 59 0 2 #[26, 37, 48], 26) := by decide +kernel
theorem dX3_ask_52 : decode cX3_ask 52 = .ok (.aload_n 0, 1) := by decide +kernel
theorem dX3_ask_53 : decode cX3_ask 53 = .ok (.getfield 41, 3) := by decide +kernel
theorem dX3_ask_56 : decode cX3_ask 56 = .ok (.iload 5, 2) := by decide +kernel
theorem dX3_ask_58 : decode cX3_ask 58 = .ok (.iconst 2, 1) := by decide +kernel
theorem dX3_ask_59 : decode cX3_ask 59 = .ok (.invokevirtual 138, 3) := by decide +kernel
theorem dX3_ask_62 : decode cX3_ask 62 = .ok (.ireturn, 1) := by decide +kernel
theorem dX3_ask_63 : decode cX3_ask 63 = .ok (.aload_n 0, 1) := by decide +kernel
theorem dX3_ask_64 : decode cX3_ask 64 = .ok (.getfield 41, 3) := by decide +kernel
theorem dX3_ask_67 : decode cX3_ask 67 = .ok (.iload 5, 2) := by decide +kernel
theorem dX3_ask_69 : decode cX3_ask 69 = .ok (.iconst 3, 1) := by decide +kernel
theorem dX3_ask_70 : decode cX3_ask 70 = .ok (.invokevirtual 138, 3) := by decide +kernel
theorem dX3_ask_73 : decode cX3_ask 73 = .ok (.ireturn, 1) := by decide +kernel
theorem dX3_ask_74 : decode cX3_ask 74 = .ok (.aload_n 0, 1) := by decide +kernel
theorem dX3_ask_75 : decode cX3_ask 75 = .ok (.getfield 41, 3) := by decide +kernel
theorem dX3_ask_78 : decode cX3_ask 78 = .ok (.iload 5, 2) := by decide +kernel
theorem dX3_ask_80 : decode cX3_ask 80 = .ok (.iconst 4, 1) := by decide +kernel
theorem dX3_ask_81 : decode cX3_ask 81 = .ok (.invokevirtual 138, 3) := by decide +kernel
theorem dX3_ask_84 : decode cX3_ask 84 = .ok (.ireturn, 1) := by decide +kernel
theorem dX3_ask_85 : decode cX3_ask 85 = .ok (.iconst (-1), 1) := by decide +kernel
theorem dX3_ask_86 : decode cX3_ask 86 = .ok (.ireturn, 1) := by decide +kernel
set_option maxRecDepth 20000 in
theorem ggX3_all_X0_has : GoodIn wsX3_all wsX0_has := goodIn_r _ [12, 13, 47, 48, 49, 50, 51, 52, 53, 54, 55] (by decide +kernel) (by decide +kernel)
set_option maxRecDepth 20000 in
theorem gX3_all_X0_has : GoodIn wsX3_all (wsV RX3 56 RX0 yX0_has wsX0_has) := goodIn_app (goodIn_of _ (by decide +kernel)) ggX3_all_X0_has
set_option maxRecDepth 20000 in
theorem ggX3_all_X3_goodOnShelves : GoodIn wsX3_all wsX3_goodOnShelves := goodIn_r _ [18, 19, 20, 21, 38, 39, 40, 41, 42, 43, 44, 45, 46, 56, 57, 58, 59] (by decide +kernel) (by decide +kernel)
set_option maxRecDepth 20000 in
theorem gX3_all_X3_goodOnShelves : GoodIn wsX3_all (wsV RX3 141 RX3 yX3_goodOnShelves wsX3_goodOnShelves) := goodIn_app (goodIn_of _ (by decide +kernel)) ggX3_all_X3_goodOnShelves
set_option maxRecDepth 20000 in
theorem ggX3_all_X1_tally : GoodIn wsX3_all wsX1_tally := goodIn_r _ [26, 27, 28, 29, 30, 25, 31, 32, 60, 61] (by decide +kernel) (by decide +kernel)
set_option maxRecDepth 20000 in
theorem gX3_all_X1_tally : GoodIn wsX3_all (wsV RX3 131 RX1 yX1_tally wsX1_tally) := goodIn_app (goodIn_of _ (by decide +kernel)) ggX3_all_X1_tally
set_option maxRecDepth 20000 in
theorem ggX3_all_X3_mendsThatWait : GoodIn wsX3_all wsX3_mendsThatWait := goodIn_r _ [36, 37, 22, 23, 24, 25, 26, 27, 28, 29, 30, 31, 32, 38, 39, 40, 41, 42, 43, 44, 45, 46, 60, 61] (by decide +kernel) (by decide +kernel)
set_option maxRecDepth 20000 in
theorem gX3_all_X3_mendsThatWait : GoodIn wsX3_all (wsV RX3 87 RX3 yX3_mendsThatWait wsX3_mendsThatWait) := goodIn_app (goodIn_of _ (by decide +kernel)) ggX3_all_X3_mendsThatWait
theorem dX3_all_0 : decode cX3_all 0 = .ok (.aload_n 0, 1) := by decide +kernel
theorem dX3_all_1 : decode cX3_all 1 = .ok (.getfield 10, 3) := by decide +kernel
theorem dX3_all_4 : decode cX3_all 4 = .ok (.iload_n 1, 1) := by decide +kernel
theorem dX3_all_5 : decode cX3_all 5 = .ok (.invokevirtual 56, 3) := by decide +kernel
theorem dX3_all_8 : decode cX3_all 8 = .ok (.ifCond .ne 5, 3) := by decide +kernel
theorem dX3_all_11 : decode cX3_all 11 = .ok (.iconst (-1), 1) := by decide +kernel
theorem dX3_all_12 : decode cX3_all 12 = .ok (.ireturn, 1) := by decide +kernel
theorem dX3_all_13 : decode cX3_all 13 = .ok (.iload_n 2, 1) := by decide +kernel
theorem dX3_all_14 : decode cX3_all 14 = .ok (.tableswitch 161 0 8 #[50, 60, 70, 76, 100, 119, 131, 141, 151], 50) := by decide +kernel
theorem dX3_all_64 : decode cX3_all 64 = .ok (.aload_n 0, 1) := by decide +kernel
theorem dX3_all_65 : decode cX3_all 65 = .ok (.getfield 10, 3) := by decide +kernel
theorem dX3_all_68 : decode cX3_all 68 = .ok (.getfield 91, 3) := by decide +kernel
theorem dX3_all_71 : decode cX3_all 71 = .ok (.iload_n 1, 1) := by decide +kernel
theorem dX3_all_72 : decode cX3_all 72 = .ok (.iaload, 1) := by decide +kernel
theorem dX3_all_73 : decode cX3_all 73 = .ok (.ireturn, 1) := by decide +kernel
theorem dX3_all_74 : decode cX3_all 74 = .ok (.aload_n 0, 1) := by decide +kernel
theorem dX3_all_75 : decode cX3_all 75 = .ok (.getfield 10, 3) := by decide +kernel
theorem dX3_all_78 : decode cX3_all 78 = .ok (.getfield 105, 3) := by decide +kernel
theorem dX3_all_81 : decode cX3_all 81 = .ok (.iload_n 1, 1) := by decide +kernel
theorem dX3_all_82 : decode cX3_all 82 = .ok (.iaload, 1) := by decide +kernel
theorem dX3_all_83 : decode cX3_all 83 = .ok (.ireturn, 1) := by decide +kernel
theorem dX3_all_84 : decode cX3_all 84 = .ok (.aload_n 0, 1) := by decide +kernel
theorem dX3_all_85 : decode cX3_all 85 = .ok (.iload_n 1, 1) := by decide +kernel
theorem dX3_all_86 : decode cX3_all 86 = .ok (.invokevirtual 141, 3) := by decide +kernel
theorem dX3_all_89 : decode cX3_all 89 = .ok (.ireturn, 1) := by decide +kernel
theorem dX3_all_90 : decode cX3_all 90 = .ok (.aload_n 0, 1) := by decide +kernel
theorem dX3_all_91 : decode cX3_all 91 = .ok (.getfield 45, 3) := by decide +kernel
theorem dX3_all_94 : decode cX3_all 94 = .ok (.iconst (-1), 1) := by decide +kernel
theorem dX3_all_95 : decode cX3_all 95 = .ok (.iload_n 1, 1) := by decide +kernel
theorem dX3_all_96 : decode cX3_all 96 = .ok (.iconst 0, 1) := by decide +kernel
theorem dX3_all_97 : decode cX3_all 97 = .ok (.iconst (-1), 1) := by decide +kernel
theorem dX3_all_98 : decode cX3_all 98 = .ok (.invokevirtual 131, 3) := by decide +kernel
theorem dX3_all_101 : decode cX3_all 101 = .ok (.aload_n 0, 1) := by decide +kernel
theorem dX3_all_102 : decode cX3_all 102 = .ok (.getfield 45, 3) := by decide +kernel
theorem dX3_all_105 : decode cX3_all 105 = .ok (.iconst (-1), 1) := by decide +kernel
theorem dX3_all_106 : decode cX3_all 106 = .ok (.iload_n 1, 1) := by decide +kernel
theorem dX3_all_107 : decode cX3_all 107 = .ok (.iconst 1, 1) := by decide +kernel
theorem dX3_all_108 : decode cX3_all 108 = .ok (.iconst (-1), 1) := by decide +kernel
theorem dX3_all_109 : decode cX3_all 109 = .ok (.invokevirtual 131, 3) := by decide +kernel
theorem dX3_all_112 : decode cX3_all 112 = .ok (.iadd, 1) := by decide +kernel
theorem dX3_all_113 : decode cX3_all 113 = .ok (.ireturn, 1) := by decide +kernel
theorem dX3_all_114 : decode cX3_all 114 = .ok (.aload_n 0, 1) := by decide +kernel
theorem dX3_all_115 : decode cX3_all 115 = .ok (.getfield 45, 3) := by decide +kernel
theorem dX3_all_118 : decode cX3_all 118 = .ok (.iconst (-1), 1) := by decide +kernel
theorem dX3_all_119 : decode cX3_all 119 = .ok (.iload_n 1, 1) := by decide +kernel
theorem dX3_all_120 : decode cX3_all 120 = .ok (.iconst 2, 1) := by decide +kernel
theorem dX3_all_121 : decode cX3_all 121 = .ok (.iconst (-1), 1) := by decide +kernel
theorem dX3_all_122 : decode cX3_all 122 = .ok (.invokevirtual 131, 3) := by decide +kernel
theorem dX3_all_125 : decode cX3_all 125 = .ok (.aload_n 0, 1) := by decide +kernel
theorem dX3_all_126 : decode cX3_all 126 = .ok (.iconst (-1), 1) := by decide +kernel
theorem dX3_all_127 : decode cX3_all 127 = .ok (.iload_n 1, 1) := by decide +kernel
theorem dX3_all_128 : decode cX3_all 128 = .ok (.invokevirtual 87, 3) := by decide +kernel
theorem dX3_all_131 : decode cX3_all 131 = .ok (.iadd, 1) := by decide +kernel
theorem dX3_all_132 : decode cX3_all 132 = .ok (.ireturn, 1) := by decide +kernel
theorem dX3_all_133 : decode cX3_all 133 = .ok (.aload_n 0, 1) := by decide +kernel
theorem dX3_all_134 : decode cX3_all 134 = .ok (.getfield 45, 3) := by decide +kernel
theorem dX3_all_137 : decode cX3_all 137 = .ok (.iconst (-1), 1) := by decide +kernel
theorem dX3_all_138 : decode cX3_all 138 = .ok (.iload_n 1, 1) := by decide +kernel
theorem dX3_all_139 : decode cX3_all 139 = .ok (.iconst 3, 1) := by decide +kernel
theorem dX3_all_140 : decode cX3_all 140 = .ok (.iconst (-1), 1) := by decide +kernel
theorem dX3_all_141 : decode cX3_all 141 = .ok (.invokevirtual 131, 3) := by decide +kernel
theorem dX3_all_144 : decode cX3_all 144 = .ok (.ireturn, 1) := by decide +kernel
theorem dX3_all_145 : decode cX3_all 145 = .ok (.aload_n 0, 1) := by decide +kernel
theorem dX3_all_146 : decode cX3_all 146 = .ok (.getfield 10, 3) := by decide +kernel
theorem dX3_all_149 : decode cX3_all 149 = .ok (.getfield 145, 3) := by decide +kernel
theorem dX3_all_152 : decode cX3_all 152 = .ok (.iload_n 1, 1) := by decide +kernel
theorem dX3_all_153 : decode cX3_all 153 = .ok (.iaload, 1) := by decide +kernel
theorem dX3_all_154 : decode cX3_all 154 = .ok (.ireturn, 1) := by decide +kernel
theorem dX3_all_155 : decode cX3_all 155 = .ok (.aload_n 0, 1) := by decide +kernel
theorem dX3_all_156 : decode cX3_all 156 = .ok (.getfield 10, 3) := by decide +kernel
theorem dX3_all_159 : decode cX3_all 159 = .ok (.getfield 148, 3) := by decide +kernel
theorem dX3_all_162 : decode cX3_all 162 = .ok (.iload_n 1, 1) := by decide +kernel
theorem dX3_all_163 : decode cX3_all 163 = .ok (.iaload, 1) := by decide +kernel
theorem dX3_all_164 : decode cX3_all 164 = .ok (.ireturn, 1) := by decide +kernel
theorem dX3_all_165 : decode cX3_all 165 = .ok (.aload_n 0, 1) := by decide +kernel
theorem dX3_all_166 : decode cX3_all 166 = .ok (.getfield 10, 3) := by decide +kernel
theorem dX3_all_169 : decode cX3_all 169 = .ok (.getfield 102, 3) := by decide +kernel
theorem dX3_all_172 : decode cX3_all 172 = .ok (.iload_n 1, 1) := by decide +kernel
theorem dX3_all_173 : decode cX3_all 173 = .ok (.iaload, 1) := by decide +kernel
theorem dX3_all_174 : decode cX3_all 174 = .ok (.ireturn, 1) := by decide +kernel
theorem dX3_all_175 : decode cX3_all 175 = .ok (.iconst (-1), 1) := by decide +kernel
theorem dX3_all_176 : decode cX3_all 176 = .ok (.ireturn, 1) := by decide +kernel
set_option maxRecDepth 20000 in
theorem ggX3_field_X2_has : GoodIn wsX3_field wsX2_has := goodIn_r _ [10, 11, 40, 41, 42, 43] (by decide +kernel) (by decide +kernel)
set_option maxRecDepth 20000 in
theorem gX3_field_X2_has : GoodIn wsX3_field (wsV RX3 75 RX2 yX2_has wsX2_has) := goodIn_app (goodIn_of _ (by decide +kernel)) ggX3_field_X2_has
set_option maxRecDepth 20000 in
theorem ggX3_field_X1_tally : GoodIn wsX3_field wsX1_tally := goodIn_r _ [16, 17, 18, 19, 20, 15, 21, 22, 44, 45] (by decide +kernel) (by decide +kernel)
set_option maxRecDepth 20000 in
theorem gX3_field_X1_tally : GoodIn wsX3_field (wsV RX3 131 RX1 yX1_tally wsX1_tally) := goodIn_app (goodIn_of _ (by decide +kernel)) ggX3_field_X1_tally
set_option maxRecDepth 20000 in
theorem ggX3_field_X1_find : GoodIn wsX3_field wsX1_find := goodIn_r _ [26, 17, 18, 19, 20, 15, 21, 22, 44, 45] (by decide +kernel) (by decide +kernel)
set_option maxRecDepth 20000 in
theorem gX3_field_X1_find : GoodIn wsX3_field (wsV RX3 135 RX1 yX1_find wsX1_find) := goodIn_app (goodIn_of _ (by decide +kernel)) ggX3_field_X1_find
set_option maxRecDepth 20000 in
theorem ggX3_field_X1_read : GoodIn wsX3_field wsX1_read := goodIn_r _ [30, 17, 22, 44, 45] (by decide +kernel) (by decide +kernel)
set_option maxRecDepth 20000 in
theorem gX3_field_X1_read : GoodIn wsX3_field (wsV RX3 138 RX1 yX1_read wsX1_read) := goodIn_app (goodIn_of _ (by decide +kernel)) ggX3_field_X1_read
theorem dX3_field_0 : decode cX3_field 0 = .ok (.aload_n 0, 1) := by decide +kernel
theorem dX3_field_1 : decode cX3_field 1 = .ok (.getfield 19, 3) := by decide +kernel
theorem dX3_field_4 : decode cX3_field 4 = .ok (.iload_n 1, 1) := by decide +kernel
theorem dX3_field_5 : decode cX3_field 5 = .ok (.invokevirtual 75, 3) := by decide +kernel
theorem dX3_field_8 : decode cX3_field 8 = .ok (.ifCond .ne 5, 3) := by decide +kernel
theorem dX3_field_11 : decode cX3_field 11 = .ok (.iconst (-1), 1) := by decide +kernel
theorem dX3_field_12 : decode cX3_field 12 = .ok (.ireturn, 1) := by decide +kernel
theorem dX3_field_13 : decode cX3_field 13 = .ok (.iload_n 2, 1) := by decide +kernel
theorem dX3_field_14 : decode cX3_field 14 = .ok (.tableswitch 93 0 4 #[34, 44, 54, 66, 73], 34) := by decide +kernel
theorem dX3_field_48 : decode cX3_field 48 = .ok (.aload_n 0, 1) := by decide +kernel
theorem dX3_field_49 : decode cX3_field 49 = .ok (.getfield 19, 3) := by decide +kernel
theorem dX3_field_52 : decode cX3_field 52 = .ok (.getfield 77, 3) := by decide +kernel
theorem dX3_field_55 : decode cX3_field 55 = .ok (.iload_n 1, 1) := by decide +kernel
theorem dX3_field_56 : decode cX3_field 56 = .ok (.iaload, 1) := by decide +kernel
theorem dX3_field_57 : decode cX3_field 57 = .ok (.ireturn, 1) := by decide +kernel
theorem dX3_field_58 : decode cX3_field 58 = .ok (.aload_n 0, 1) := by decide +kernel
theorem dX3_field_59 : decode cX3_field 59 = .ok (.getfield 19, 3) := by decide +kernel
theorem dX3_field_62 : decode cX3_field 62 = .ok (.getfield 80, 3) := by decide +kernel
theorem dX3_field_65 : decode cX3_field 65 = .ok (.iload_n 1, 1) := by decide +kernel
theorem dX3_field_66 : decode cX3_field 66 = .ok (.iaload, 1) := by decide +kernel
theorem dX3_field_67 : decode cX3_field 67 = .ok (.ireturn, 1) := by decide +kernel
theorem dX3_field_68 : decode cX3_field 68 = .ok (.aload_n 0, 1) := by decide +kernel
theorem dX3_field_69 : decode cX3_field 69 = .ok (.getfield 41, 3) := by decide +kernel
theorem dX3_field_72 : decode cX3_field 72 = .ok (.iload_n 1, 1) := by decide +kernel
theorem dX3_field_73 : decode cX3_field 73 = .ok (.iconst (-1), 1) := by decide +kernel
theorem dX3_field_74 : decode cX3_field 74 = .ok (.iconst 0, 1) := by decide +kernel
theorem dX3_field_75 : decode cX3_field 75 = .ok (.iconst (-1), 1) := by decide +kernel
theorem dX3_field_76 : decode cX3_field 76 = .ok (.invokevirtual 131, 3) := by decide +kernel
theorem dX3_field_79 : decode cX3_field 79 = .ok (.ireturn, 1) := by decide +kernel
theorem dX3_field_80 : decode cX3_field 80 = .ok (.aload_n 0, 1) := by decide +kernel
theorem dX3_field_81 : decode cX3_field 81 = .ok (.getfield 31, 3) := by decide +kernel
theorem dX3_field_84 : decode cX3_field 84 = .ok (.iload_n 1, 1) := by decide +kernel
theorem dX3_field_85 : decode cX3_field 85 = .ok (.iaload, 1) := by decide +kernel
theorem dX3_field_86 : decode cX3_field 86 = .ok (.ireturn, 1) := by decide +kernel
theorem dX3_field_87 : decode cX3_field 87 = .ok (.aload_n 0, 1) := by decide +kernel
theorem dX3_field_88 : decode cX3_field 88 = .ok (.getfield 41, 3) := by decide +kernel
theorem dX3_field_91 : decode cX3_field 91 = .ok (.aload_n 0, 1) := by decide +kernel
theorem dX3_field_92 : decode cX3_field 92 = .ok (.getfield 41, 3) := by decide +kernel
theorem dX3_field_95 : decode cX3_field 95 = .ok (.iload_n 1, 1) := by decide +kernel
theorem dX3_field_96 : decode cX3_field 96 = .ok (.iconst (-1), 1) := by decide +kernel
theorem dX3_field_97 : decode cX3_field 97 = .ok (.iconst 0, 1) := by decide +kernel
theorem dX3_field_98 : decode cX3_field 98 = .ok (.iconst 0, 1) := by decide +kernel
theorem dX3_field_99 : decode cX3_field 99 = .ok (.invokevirtual 135, 3) := by decide +kernel
theorem dX3_field_102 : decode cX3_field 102 = .ok (.iconst 3, 1) := by decide +kernel
theorem dX3_field_103 : decode cX3_field 103 = .ok (.invokevirtual 138, 3) := by decide +kernel
theorem dX3_field_106 : decode cX3_field 106 = .ok (.ireturn, 1) := by decide +kernel
theorem dX3_field_107 : decode cX3_field 107 = .ok (.iconst (-1), 1) := by decide +kernel
theorem dX3_field_108 : decode cX3_field 108 = .ok (.ireturn, 1) := by decide +kernel
set_option maxRecDepth 20000 in
theorem ggX3_mender_X3_isNoPlace : GoodIn wsX3_mender wsX3_isNoPlace := goodIn_r _ [6, 1, 7, 8, 9, 10, 11, 12, 13, 14, 15, 16, 17, 18, 19, 26, 27, 28, 29, 30, 31, 32, 33, 34, 35, 36, 37, 38, 39, 40, 41, 42, 43, 44, 45, 46, 47] (by decide +kernel) (by decide +kernel)
set_option maxRecDepth 20000 in
theorem gX3_mender_X3_isNoPlace : GoodIn wsX3_mender (wsV RX3 83 RX3 yX3_isNoPlace wsX3_isNoPlace) := goodIn_app (goodIn_of _ (by decide +kernel)) ggX3_mender_X3_isNoPlace
set_option maxRecDepth 20000 in
theorem ggX3_mender_X2_firstThatMends : GoodIn wsX3_mender wsX2_firstThatMends := goodIn_r _ [23, 24, 25, 35, 36, 37, 38] (by decide +kernel) (by decide +kernel)
set_option maxRecDepth 20000 in
theorem gX3_mender_X2_firstThatMends : GoodIn wsX3_mender (wsV RX3 119 RX2 yX2_firstThatMends wsX2_firstThatMends) := goodIn_app (goodIn_of _ (by decide +kernel)) ggX3_mender_X2_firstThatMends
theorem dX3_mender_0 : decode cX3_mender 0 = .ok (.aload_n 0, 1) := by decide +kernel
theorem dX3_mender_1 : decode cX3_mender 1 = .ok (.iload_n 1, 1) := by decide +kernel
theorem dX3_mender_2 : decode cX3_mender 2 = .ok (.iload_n 2, 1) := by decide +kernel
theorem dX3_mender_3 : decode cX3_mender 3 = .ok (.invokevirtual 83, 3) := by decide +kernel
theorem dX3_mender_6 : decode cX3_mender 6 = .ok (.ifCond .eq 5, 3) := by decide +kernel
theorem dX3_mender_9 : decode cX3_mender 9 = .ok (.iconst (-1), 1) := by decide +kernel
theorem dX3_mender_10 : decode cX3_mender 10 = .ok (.ireturn, 1) := by decide +kernel
theorem dX3_mender_11 : decode cX3_mender 11 = .ok (.aload_n 0, 1) := by decide +kernel
theorem dX3_mender_12 : decode cX3_mender 12 = .ok (.getfield 19, 3) := by decide +kernel
theorem dX3_mender_15 : decode cX3_mender 15 = .ok (.iload_n 1, 1) := by decide +kernel
theorem dX3_mender_16 : decode cX3_mender 16 = .ok (.iload_n 2, 1) := by decide +kernel
theorem dX3_mender_17 : decode cX3_mender 17 = .ok (.invokevirtual 119, 3) := by decide +kernel
theorem dX3_mender_20 : decode cX3_mender 20 = .ok (.ireturn, 1) := by decide +kernel
set_option maxRecDepth 20000 in
theorem ggX3_pipe_X3_isNoPlace : GoodIn wsX3_pipe wsX3_isNoPlace := goodIn_r _ [6, 7, 8, 9, 10, 11, 12, 13, 14, 15, 16, 17, 18, 19, 20, 43, 44, 45, 46, 47, 48, 49, 50, 51, 52, 53, 54, 55, 56, 57, 58, 59, 60, 61, 62, 63, 64] (by decide +kernel) (by decide +kernel)
set_option maxRecDepth 20000 in
theorem gX3_pipe_X3_isNoPlace : GoodIn wsX3_pipe (wsV RX3 83 RX3 yX3_isNoPlace wsX3_isNoPlace) := goodIn_app (goodIn_of _ (by decide +kernel)) ggX3_pipe_X3_isNoPlace
set_option maxRecDepth 20000 in
theorem ggX3_pipe_X3_flowOf : GoodIn wsX3_pipe wsX3_flowOf := goodIn_r _ [24, 7, 25, 26, 1, 27, 28, 43, 44, 45, 46, 47, 48, 49, 50, 51, 52, 53, 54, 55] (by decide +kernel) (by decide +kernel)
set_option maxRecDepth 20000 in
theorem gX3_pipe_X3_flowOf : GoodIn wsX3_pipe (wsV RX3 151 RX3 yX3_flowOf wsX3_flowOf) := goodIn_app (goodIn_of _ (by decide +kernel)) ggX3_pipe_X3_flowOf
set_option maxRecDepth 20000 in
theorem ggX3_pipe_X3_pipeOf : GoodIn wsX3_pipe wsX3_pipeOf := goodIn_r _ [32, 7, 27, 33, 21, 22, 23, 5, 24, 25, 26, 1, 28, 43, 44, 45, 46, 47, 48, 49, 50, 51, 52, 53, 54, 55] (by decide +kernel) (by decide +kernel)
set_option maxRecDepth 20000 in
theorem gX3_pipe_X3_pipeOf : GoodIn wsX3_pipe (wsV RX3 154 RX3 yX3_pipeOf wsX3_pipeOf) := goodIn_app (goodIn_of _ (by decide +kernel)) ggX3_pipe_X3_pipeOf
set_option maxRecDepth 20000 in
theorem ggX3_pipe_X3_wantOf : GoodIn wsX3_pipe wsX3_wantOf := goodIn_r _ [37, 38, 39, 40, 41, 42, 29, 30, 31, 5, 32, 7, 27, 33, 21, 22, 23, 24, 25, 26, 1, 28, 43, 44, 45, 46, 47, 48, 49, 50, 51, 52, 53, 54, 55] (by decide +kernel) (by decide +kernel)
set_option maxRecDepth 20000 in
theorem gX3_pipe_X3_wantOf : GoodIn wsX3_pipe (wsV RX3 128 RX3 yX3_wantOf wsX3_wantOf) := goodIn_app (goodIn_of _ (by decide +kernel)) ggX3_pipe_X3_wantOf
theorem dX3_pipe_0 : decode cX3_pipe 0 = .ok (.aload_n 0, 1) := by decide +kernel
theorem dX3_pipe_1 : decode cX3_pipe 1 = .ok (.iload_n 1, 1) := by decide +kernel
theorem dX3_pipe_2 : decode cX3_pipe 2 = .ok (.iload_n 2, 1) := by decide +kernel
theorem dX3_pipe_3 : decode cX3_pipe 3 = .ok (.invokevirtual 83, 3) := by decide +kernel
theorem dX3_pipe_6 : decode cX3_pipe 6 = .ok (.ifCond .eq 5, 3) := by decide +kernel
theorem dX3_pipe_9 : decode cX3_pipe 9 = .ok (.iconst (-1), 1) := by decide +kernel
theorem dX3_pipe_10 : decode cX3_pipe 10 = .ok (.ireturn, 1) := by decide +kernel
theorem dX3_pipe_11 : decode cX3_pipe 11 = .ok (.iload_n 3, 1) := by decide +kernel
theorem dX3_pipe_12 : decode cX3_pipe 12 = .ok (.tableswitch 62 0 3 #[32, 39, 46, 53], 32) := by decide +kernel
theorem dX3_pipe_44 : decode cX3_pipe 44 = .ok (.aload_n 0, 1) := by decide +kernel
theorem dX3_pipe_45 : decode cX3_pipe 45 = .ok (.iload_n 1, 1) := by decide +kernel
theorem dX3_pipe_46 : decode cX3_pipe 46 = .ok (.iload_n 2, 1) := by decide +kernel
theorem dX3_pipe_47 : decode cX3_pipe 47 = .ok (.invokevirtual 151, 3) := by decide +kernel
theorem dX3_pipe_50 : decode cX3_pipe 50 = .ok (.ireturn, 1) := by decide +kernel
theorem dX3_pipe_51 : decode cX3_pipe 51 = .ok (.aload_n 0, 1) := by decide +kernel
theorem dX3_pipe_52 : decode cX3_pipe 52 = .ok (.iload_n 1, 1) := by decide +kernel
theorem dX3_pipe_53 : decode cX3_pipe 53 = .ok (.iload_n 2, 1) := by decide +kernel
theorem dX3_pipe_54 : decode cX3_pipe 54 = .ok (.invokevirtual 154, 3) := by decide +kernel
theorem dX3_pipe_57 : decode cX3_pipe 57 = .ok (.ireturn, 1) := by decide +kernel
theorem dX3_pipe_58 : decode cX3_pipe 58 = .ok (.aload_n 0, 1) := by decide +kernel
theorem dX3_pipe_59 : decode cX3_pipe 59 = .ok (.iload_n 1, 1) := by decide +kernel
theorem dX3_pipe_60 : decode cX3_pipe 60 = .ok (.iload_n 2, 1) := by decide +kernel
theorem dX3_pipe_61 : decode cX3_pipe 61 = .ok (.invokevirtual 128, 3) := by decide +kernel
theorem dX3_pipe_64 : decode cX3_pipe 64 = .ok (.ireturn, 1) := by decide +kernel
theorem dX3_pipe_65 : decode cX3_pipe 65 = .ok (.aload_n 0, 1) := by decide +kernel
theorem dX3_pipe_66 : decode cX3_pipe 66 = .ok (.getfield 28, 3) := by decide +kernel
theorem dX3_pipe_69 : decode cX3_pipe 69 = .ok (.iload_n 1, 1) := by decide +kernel
theorem dX3_pipe_70 : decode cX3_pipe 70 = .ok (.aaload, 1) := by decide +kernel
theorem dX3_pipe_71 : decode cX3_pipe 71 = .ok (.iload_n 2, 1) := by decide +kernel
theorem dX3_pipe_72 : decode cX3_pipe 72 = .ok (.iaload, 1) := by decide +kernel
theorem dX3_pipe_73 : decode cX3_pipe 73 = .ok (.ireturn, 1) := by decide +kernel
theorem dX3_pipe_74 : decode cX3_pipe 74 = .ok (.iconst (-1), 1) := by decide +kernel
theorem dX3_pipe_75 : decode cX3_pipe 75 = .ok (.ireturn, 1) := by decide +kernel
theorem dX3_worth_0 : decode cX3_worth 0 = .ok (.iconst 0, 1) := by decide +kernel
theorem dX3_worth_1 : decode cX3_worth 1 = .ok (.istore_n 1, 1) := by decide +kernel
theorem dX3_worth_2 : decode cX3_worth 2 = .ok (.iconst 0, 1) := by decide +kernel
theorem dX3_worth_3 : decode cX3_worth 3 = .ok (.istore_n 2, 1) := by decide +kernel
theorem dX3_worth_4 : decode cX3_worth 4 = .ok (.iload_n 2, 1) := by decide +kernel
theorem dX3_worth_5 : decode cX3_worth 5 = .ok (.aload_n 0, 1) := by decide +kernel
theorem dX3_worth_6 : decode cX3_worth 6 = .ok (.getfield 10, 3) := by decide +kernel
theorem dX3_worth_9 : decode cX3_worth 9 = .ok (.getfield 60, 3) := by decide +kernel
theorem dX3_worth_12 : decode cX3_worth 12 = .ok (.if_icmp .ge 41, 3) := by decide +kernel
theorem dX3_worth_15 : decode cX3_worth 15 = .ok (.iload_n 1, 1) := by decide +kernel
theorem dX3_worth_16 : decode cX3_worth 16 = .ok (.aload_n 0, 1) := by decide +kernel
theorem dX3_worth_17 : decode cX3_worth 17 = .ok (.getfield 10, 3) := by decide +kernel
theorem dX3_worth_20 : decode cX3_worth 20 = .ok (.getfield 63, 3) := by decide +kernel
theorem dX3_worth_23 : decode cX3_worth 23 = .ok (.iload_n 2, 1) := by decide +kernel
theorem dX3_worth_24 : decode cX3_worth 24 = .ok (.iaload, 1) := by decide +kernel
theorem dX3_worth_25 : decode cX3_worth 25 = .ok (.aload_n 0, 1) := by decide +kernel
theorem dX3_worth_26 : decode cX3_worth 26 = .ok (.getfield 10, 3) := by decide +kernel
theorem dX3_worth_29 : decode cX3_worth 29 = .ok (.getfield 91, 3) := by decide +kernel
theorem dX3_worth_32 : decode cX3_worth 32 = .ok (.iload_n 2, 1) := by decide +kernel
theorem dX3_worth_33 : decode cX3_worth 33 = .ok (.iaload, 1) := by decide +kernel
theorem dX3_worth_34 : decode cX3_worth 34 = .ok (.aload_n 0, 1) := by decide +kernel
theorem dX3_worth_35 : decode cX3_worth 35 = .ok (.getfield 10, 3) := by decide +kernel
theorem dX3_worth_38 : decode cX3_worth 38 = .ok (.getfield 105, 3) := by decide +kernel
theorem dX3_worth_41 : decode cX3_worth 41 = .ok (.iload_n 2, 1) := by decide +kernel
theorem dX3_worth_42 : decode cX3_worth 42 = .ok (.iaload, 1) := by decide +kernel
theorem dX3_worth_43 : decode cX3_worth 43 = .ok (.isub, 1) := by decide +kernel
theorem dX3_worth_44 : decode cX3_worth 44 = .ok (.imul, 1) := by decide +kernel
theorem dX3_worth_45 : decode cX3_worth 45 = .ok (.iadd, 1) := by decide +kernel
theorem dX3_worth_46 : decode cX3_worth 46 = .ok (.istore_n 1, 1) := by decide +kernel
theorem dX3_worth_47 : decode cX3_worth 47 = .ok (.iinc 2 1, 3) := by decide +kernel
theorem dX3_worth_50 : decode cX3_worth 50 = .ok (.goto (-46), 3) := by decide +kernel
theorem dX3_worth_53 : decode cX3_worth 53 = .ok (.iload_n 1, 1) := by decide +kernel
theorem dX3_worth_54 : decode cX3_worth 54 = .ok (.ireturn, 1) := by decide +kernel
set_option maxRecDepth 20000 in
theorem ggX3_count_X1_tally : GoodIn wsX3_count wsX1_tally := goodIn_r _ [13, 14, 15, 16, 17, 12, 18, 19, 48, 49] (by decide +kernel) (by decide +kernel)
set_option maxRecDepth 20000 in
theorem gX3_count_X1_tally : GoodIn wsX3_count (wsV RX3 131 RX1 yX1_tally wsX1_tally) := goodIn_app (goodIn_of _ (by decide +kernel)) ggX3_count_X1_tally
set_option maxRecDepth 20000 in
theorem ggX3_count_X3_stoodOfAll : GoodIn wsX3_count wsX3_stoodOfAll := goodIn_r _ [24, 3, 4, 25, 26, 27, 28, 29, 30, 31, 32, 33, 34, 44, 45, 46, 47] (by decide +kernel) (by decide +kernel)
