theorem dX4_isDone_52 : decode cX4_isDone 52 = .ok (.istore_n 3, 1) := by decide +kernel
theorem dX4_isDone_53 : decode cX4_isDone 53 = .ok (.aload_n 0, 1) := by decide +kernel
theorem dX4_isDone_54 : decode cX4_isDone 54 = .ok (.getfield 80, 3) := by decide +kernel
theorem dX4_isDone_57 : decode cX4_isDone 57 = .ok (.iload_n 1, 1) := by decide +kernel
theorem dX4_isDone_58 : decode cX4_isDone 58 = .ok (.iaload, 1) := by decide +kernel
theorem dX4_isDone_59 : decode cX4_isDone 59 = .ok (.istore 4, 2) := by decide +kernel
theorem dX4_isDone_61 : decode cX4_isDone 61 = .ok (.aload_n 0, 1) := by decide +kernel
theorem dX4_isDone_62 : decode cX4_isDone 62 = .ok (.getfield 83, 3) := by decide +kernel
theorem dX4_isDone_65 : decode cX4_isDone 65 = .ok (.iload_n 1, 1) := by decide +kernel
theorem dX4_isDone_66 : decode cX4_isDone 66 = .ok (.iaload, 1) := by decide +kernel
theorem dX4_isDone_67 : decode cX4_isDone 67 = .ok (.istore 5, 2) := by decide +kernel
theorem dX4_isDone_69 : decode cX4_isDone 69 = .ok (.aload_n 0, 1) := by decide +kernel
theorem dX4_isDone_70 : decode cX4_isDone 70 = .ok (.dup, 1) := by decide +kernel
theorem dX4_isDone_71 : decode cX4_isDone 71 = .ok (.getfield 113, 3) := by decide +kernel
theorem dX4_isDone_74 : decode cX4_isDone 74 = .ok (.iconst 1, 1) := by decide +kernel
theorem dX4_isDone_75 : decode cX4_isDone 75 = .ok (.isub, 1) := by decide +kernel
theorem dX4_isDone_76 : decode cX4_isDone 76 = .ok (.putfield 113, 3) := by decide +kernel
theorem dX4_isDone_79 : decode cX4_isDone 79 = .ok (.iload_n 1, 1) := by decide +kernel
theorem dX4_isDone_80 : decode cX4_isDone 80 = .ok (.istore 6, 2) := by decide +kernel
theorem dX4_isDone_82 : decode cX4_isDone 82 = .ok (.iload 6, 2) := by decide +kernel
theorem dX4_isDone_84 : decode cX4_isDone 84 = .ok (.aload_n 0, 1) := by decide +kernel
theorem dX4_isDone_85 : decode cX4_isDone 85 = .ok (.getfield 113, 3) := by decide +kernel
theorem dX4_isDone_88 : decode cX4_isDone 88 = .ok (.if_icmp .ge 89, 3) := by decide +kernel
theorem dX4_isDone_91 : decode cX4_isDone 91 = .ok (.aload_n 0, 1) := by decide +kernel
theorem dX4_isDone_92 : decode cX4_isDone 92 = .ok (.getfield 74, 3) := by decide +kernel
theorem dX4_isDone_95 : decode cX4_isDone 95 = .ok (.iload 6, 2) := by decide +kernel
theorem dX4_isDone_97 : decode cX4_isDone 97 = .ok (.aload_n 0, 1) := by decide +kernel
theorem dX4_isDone_98 : decode cX4_isDone 98 = .ok (.getfield 74, 3) := by decide +kernel
theorem dX4_isDone_101 : decode cX4_isDone 101 = .ok (.iload 6, 2) := by decide +kernel
theorem dX4_isDone_103 : decode cX4_isDone 103 = .ok (.iconst 1, 1) := by decide +kernel
theorem dX4_isDone_104 : decode cX4_isDone 104 = .ok (.iadd, 1) := by decide +kernel
theorem dX4_isDone_105 : decode cX4_isDone 105 = .ok (.iaload, 1) := by decide +kernel
theorem dX4_isDone_106 : decode cX4_isDone 106 = .ok (.iastore, 1) := by decide +kernel
theorem dX4_isDone_107 : decode cX4_isDone 107 = .ok (.aload_n 0, 1) := by decide +kernel
theorem dX4_isDone_108 : decode cX4_isDone 108 = .ok (.getfield 77, 3) := by decide +kernel
theorem dX4_isDone_111 : decode cX4_isDone 111 = .ok (.iload 6, 2) := by decide +kernel
theorem dX4_isDone_113 : decode cX4_isDone 113 = .ok (.aload_n 0, 1) := by decide +kernel
theorem dX4_isDone_114 : decode cX4_isDone 114 = .ok (.getfield 77, 3) := by decide +kernel
theorem dX4_isDone_117 : decode cX4_isDone 117 = .ok (.iload 6, 2) := by decide +kernel
theorem dX4_isDone_119 : decode cX4_isDone 119 = .ok (.iconst 1, 1) := by decide +kernel
theorem dX4_isDone_120 : decode cX4_isDone 120 = .ok (.iadd, 1) := by decide +kernel
theorem dX4_isDone_121 : decode cX4_isDone 121 = .ok (.iaload, 1) := by decide +kernel
theorem dX4_isDone_122 : decode cX4_isDone 122 = .ok (.iastore, 1) := by decide +kernel
theorem dX4_isDone_123 : decode cX4_isDone 123 = .ok (.aload_n 0, 1) := by decide +kernel
theorem dX4_isDone_124 : decode cX4_isDone 124 = .ok (.getfield 80, 3) := by decide +kernel
theorem dX4_isDone_127 : decode cX4_isDone 127 = .ok (.iload 6, 2) := by decide +kernel
theorem dX4_isDone_129 : decode cX4_isDone 129 = .ok (.aload_n 0, 1) := by decide +kernel
theorem dX4_isDone_130 : decode cX4_isDone 130 = .ok (.getfield 80, 3) := by decide +kernel
theorem dX4_isDone_133 : decode cX4_isDone 133 = .ok (.iload 6, 2) := by decide +kernel
theorem dX4_isDone_135 : decode cX4_isDone 135 = .ok (.iconst 1, 1) := by decide +kernel
theorem dX4_isDone_136 : decode cX4_isDone 136 = .ok (.iadd, 1) := by decide +kernel
theorem dX4_isDone_137 : decode cX4_isDone 137 = .ok (.iaload, 1) := by decide +kernel
theorem dX4_isDone_138 : decode cX4_isDone 138 = .ok (.iastore, 1) := by decide +kernel
theorem dX4_isDone_139 : decode cX4_isDone 139 = .ok (.aload_n 0, 1) := by decide +kernel
theorem dX4_isDone_140 : decode cX4_isDone 140 = .ok (.getfield 83, 3) := by decide +kernel
theorem dX4_isDone_143 : decode cX4_isDone 143 = .ok (.iload 6, 2) := by decide +kernel
theorem dX4_isDone_145 : decode cX4_isDone 145 = .ok (.aload_n 0, 1) := by decide +kernel
theorem dX4_isDone_146 : decode cX4_isDone 146 = .ok (.getfield 83, 3) := by decide +kernel
theorem dX4_isDone_149 : decode cX4_isDone 149 = .ok (.iload 6, 2) := by decide +kernel
theorem dX4_isDone_151 : decode cX4_isDone 151 = .ok (.iconst 1, 1) := by decide +kernel
theorem dX4_isDone_152 : decode cX4_isDone 152 = .ok (.iadd, 1) := by decide +kernel
theorem dX4_isDone_153 : decode cX4_isDone 153 = .ok (.iaload, 1) := by decide +kernel
theorem dX4_isDone_154 : decode cX4_isDone 154 = .ok (.iastore, 1) := by decide +kernel
theorem dX4_isDone_155 : decode cX4_isDone 155 = .ok (.aload_n 0, 1) := by decide +kernel
theorem dX4_isDone_156 : decode cX4_isDone 156 = .ok (.getfield 86, 3) := by decide +kernel
theorem dX4_isDone_159 : decode cX4_isDone 159 = .ok (.iload 6, 2) := by decide +kernel
theorem dX4_isDone_161 : decode cX4_isDone 161 = .ok (.aload_n 0, 1) := by decide +kernel
theorem dX4_isDone_162 : decode cX4_isDone 162 = .ok (.getfield 86, 3) := by decide +kernel
theorem dX4_isDone_165 : decode cX4_isDone 165 = .ok (.iload 6, 2) := by decide +kernel
theorem dX4_isDone_167 : decode cX4_isDone 167 = .ok (.iconst 1, 1) := by decide +kernel
theorem dX4_isDone_168 : decode cX4_isDone 168 = .ok (.iadd, 1) := by decide +kernel
theorem dX4_isDone_169 : decode cX4_isDone 169 = .ok (.iaload, 1) := by decide +kernel
theorem dX4_isDone_170 : decode cX4_isDone 170 = .ok (.iastore, 1) := by decide +kernel
theorem dX4_isDone_171 : decode cX4_isDone 171 = .ok (.iinc 6 1, 3) := by decide +kernel
theorem dX4_isDone_174 : decode cX4_isDone 174 = .ok (.goto (-92), 3) := by decide +kernel
theorem dX4_isDone_177 : decode cX4_isDone 177 = .ok (.iload_n 2, 1) := by decide +kernel
theorem dX4_isDone_178 : decode cX4_isDone 178 = .ok (.iconst 3, 1) := by decide +kernel
theorem dX4_isDone_179 : decode cX4_isDone 179 = .ok (.if_icmp .ne 15, 3) := by decide +kernel
theorem dX4_isDone_182 : decode cX4_isDone 182 = .ok (.aload_n 0, 1) := by decide +kernel
theorem dX4_isDone_183 : decode cX4_isDone 183 = .ok (.iload_n 3, 1) := by decide +kernel
theorem dX4_isDone_184 : decode cX4_isDone 184 = .ok (.iload 4, 2) := by decide +kernel
theorem dX4_isDone_186 : decode cX4_isDone 186 = .ok (.iload 5, 2) := by decide +kernel
theorem dX4_isDone_188 : decode cX4_isDone 188 = .ok (.invokevirtual 134, 3) := by decide +kernel
theorem dX4_isDone_191 : decode cX4_isDone 191 = .ok (.goto 10, 3) := by decide +kernel
theorem dX4_isDone_194 : decode cX4_isDone 194 = .ok (.aload_n 0, 1) := by decide +kernel
theorem dX4_isDone_195 : decode cX4_isDone 195 = .ok (.iload_n 3, 1) := by decide +kernel
theorem dX4_isDone_196 : decode cX4_isDone 196 = .ok (.iload 4, 2) := by decide +kernel
theorem dX4_isDone_198 : decode cX4_isDone 198 = .ok (.invokevirtual 140, 3) := by decide +kernel
theorem dX4_isDone_201 : decode cX4_isDone 201 = .ok (.iconst 1, 1) := by decide +kernel
theorem dX4_isDone_202 : decode cX4_isDone 202 = .ok (.ireturn, 1) := by decide +kernel
set_option maxRecDepth 20000 in
theorem ggX4_days_X4_in : GoodIn wsX4_days wsX4_in := goodIn_r _ [9] (by decide +kernel) (by decide +kernel)
set_option maxRecDepth 20000 in
theorem gX4_days_X4_in : GoodIn wsX4_days (va_wsS RX4 92 yX4_in wsX4_in) := goodIn_app (goodIn_of _ (by decide +kernel)) ggX4_days_X4_in
set_option maxRecDepth 20000 in
theorem ggX4_days_X4_isDone : GoodIn wsX4_days wsX4_isDone := goodIn_r _ [13, 14, 15, 1, 16, 17, 18, 19, 20, 21, 22, 8, 23, 24, 25, 26, 27, 28, 29, 30, 31, 32, 33, 34, 35, 36, 37, 4, 2, 38, 5, 39, 40, 41, 42, 43, 44, 45, 46, 47, 48, 49, 50, 51, 52, 53, 54, 55, 56, 57, 58, 59, 60, 61, 62, 63, 64, 65, 66, 67, 68, 69, 70, 71, 72, 73, 74, 75, 76, 77, 78, 79, 80, 81, 82, 83, 84, 85, 86, 87, 88, 89, 90, 91, 92] (by decide +kernel) (by decide +kernel)
set_option maxRecDepth 20000 in
theorem gX4_days_X4_isDone : GoodIn wsX4_days (wsV RX4 144 RX4 yX4_isDone wsX4_isDone) := goodIn_app (goodIn_of _ (by decide +kernel)) ggX4_days_X4_isDone
theorem dX4_days_0 : decode cX4_days 0 = .ok (.iload_n 1, 1) := by decide +kernel
theorem dX4_days_1 : decode cX4_days 1 = .ok (.iconst 1, 1) := by decide +kernel
theorem dX4_days_2 : decode cX4_days 2 = .ok (.bipush 60, 2) := by decide +kernel
theorem dX4_days_4 : decode cX4_days 4 = .ok (.invokestatic 92, 3) := by decide +kernel
theorem dX4_days_7 : decode cX4_days 7 = .ok (.ifCond .ne 6, 3) := by decide +kernel
theorem dX4_days_10 : decode cX4_days 10 = .ok (.bipush (-2), 2) := by decide +kernel
theorem dX4_days_12 : decode cX4_days 12 = .ok (.ireturn, 1) := by decide +kernel
theorem dX4_days_13 : decode cX4_days 13 = .ok (.aload_n 0, 1) := by decide +kernel
theorem dX4_days_14 : decode cX4_days 14 = .ok (.getfield 116, 3) := by decide +kernel
theorem dX4_days_17 : decode cX4_days 17 = .ok (.iload_n 1, 1) := by decide +kernel
theorem dX4_days_18 : decode cX4_days 18 = .ok (.iadd, 1) := by decide +kernel
theorem dX4_days_19 : decode cX4_days 19 = .ok (.sipush 5000, 3) := by decide +kernel
theorem dX4_days_22 : decode cX4_days 22 = .ok (.if_icmp .le 6, 3) := by decide +kernel
theorem dX4_days_25 : decode cX4_days 25 = .ok (.bipush (-4), 2) := by decide +kernel
theorem dX4_days_27 : decode cX4_days 27 = .ok (.ireturn, 1) := by decide +kernel
theorem dX4_days_28 : decode cX4_days 28 = .ok (.iconst 0, 1) := by decide +kernel
theorem dX4_days_29 : decode cX4_days 29 = .ok (.istore_n 2, 1) := by decide +kernel
theorem dX4_days_30 : decode cX4_days 30 = .ok (.iload_n 2, 1) := by decide +kernel
theorem dX4_days_31 : decode cX4_days 31 = .ok (.iload_n 1, 1) := by decide +kernel
theorem dX4_days_32 : decode cX4_days 32 = .ok (.if_icmp .ge 81, 3) := by decide +kernel
theorem dX4_days_35 : decode cX4_days 35 = .ok (.aload_n 0, 1) := by decide +kernel
theorem dX4_days_36 : decode cX4_days 36 = .ok (.dup, 1) := by decide +kernel
theorem dX4_days_37 : decode cX4_days 37 = .ok (.getfield 116, 3) := by decide +kernel
theorem dX4_days_40 : decode cX4_days 40 = .ok (.iconst 1, 1) := by decide +kernel
theorem dX4_days_41 : decode cX4_days 41 = .ok (.iadd, 1) := by decide +kernel
theorem dX4_days_42 : decode cX4_days 42 = .ok (.putfield 116, 3) := by decide +kernel
theorem dX4_days_45 : decode cX4_days 45 = .ok (.iconst 1, 1) := by decide +kernel
theorem dX4_days_46 : decode cX4_days 46 = .ok (.istore_n 3, 1) := by decide +kernel
theorem dX4_days_47 : decode cX4_days 47 = .ok (.iload_n 3, 1) := by decide +kernel
theorem dX4_days_48 : decode cX4_days 48 = .ok (.ifCond .eq 11, 3) := by decide +kernel
theorem dX4_days_51 : decode cX4_days 51 = .ok (.aload_n 0, 1) := by decide +kernel
theorem dX4_days_52 : decode cX4_days 52 = .ok (.invokevirtual 144, 3) := by decide +kernel
theorem dX4_days_55 : decode cX4_days 55 = .ok (.istore_n 3, 1) := by decide +kernel
theorem dX4_days_56 : decode cX4_days 56 = .ok (.goto (-9), 3) := by decide +kernel
theorem dX4_days_59 : decode cX4_days 59 = .ok (.iconst 0, 1) := by decide +kernel
theorem dX4_days_60 : decode cX4_days 60 = .ok (.istore 4, 2) := by decide +kernel
theorem dX4_days_62 : decode cX4_days 62 = .ok (.iload 4, 2) := by decide +kernel
theorem dX4_days_64 : decode cX4_days 64 = .ok (.aload_n 0, 1) := by decide +kernel
theorem dX4_days_65 : decode cX4_days 65 = .ok (.getfield 110, 3) := by decide +kernel
theorem dX4_days_68 : decode cX4_days 68 = .ok (.if_icmp .ge 39, 3) := by decide +kernel
theorem dX4_days_71 : decode cX4_days 71 = .ok (.aload_n 0, 1) := by decide +kernel
theorem dX4_days_72 : decode cX4_days 72 = .ok (.getfield 32, 3) := by decide +kernel
theorem dX4_days_75 : decode cX4_days 75 = .ok (.aload_n 0, 1) := by decide +kernel
theorem dX4_days_76 : decode cX4_days 76 = .ok (.getfield 59, 3) := by decide +kernel
theorem dX4_days_79 : decode cX4_days 79 = .ok (.iload 4, 2) := by decide +kernel
theorem dX4_days_81 : decode cX4_days 81 = .ok (.iaload, 1) := by decide +kernel
theorem dX4_days_82 : decode cX4_days 82 = .ok (.dup2, 1) := by decide +kernel
theorem dX4_days_83 : decode cX4_days 83 = .ok (.iaload, 1) := by decide +kernel
theorem dX4_days_84 : decode cX4_days 84 = .ok (.aload_n 0, 1) := by decide +kernel
theorem dX4_days_85 : decode cX4_days 85 = .ok (.getfield 65, 3) := by decide +kernel
theorem dX4_days_88 : decode cX4_days 88 = .ok (.iload 4, 2) := by decide +kernel
theorem dX4_days_90 : decode cX4_days 90 = .ok (.iaload, 1) := by decide +kernel
theorem dX4_days_91 : decode cX4_days 91 = .ok (.ifCond .ne 7, 3) := by decide +kernel
theorem dX4_days_94 : decode cX4_days 94 = .ok (.iconst 1, 1) := by decide +kernel
theorem dX4_days_95 : decode cX4_days 95 = .ok (.goto 4, 3) := by decide +kernel
theorem dX4_days_98 : decode cX4_days 98 = .ok (.iconst 0, 1) := by decide +kernel
theorem dX4_days_99 : decode cX4_days 99 = .ok (.iadd, 1) := by decide +kernel
theorem dX4_days_100 : decode cX4_days 100 = .ok (.iastore, 1) := by decide +kernel
theorem dX4_days_101 : decode cX4_days 101 = .ok (.iinc 4 1, 3) := by decide +kernel
theorem dX4_days_104 : decode cX4_days 104 = .ok (.goto (-42), 3) := by decide +kernel
theorem dX4_days_107 : decode cX4_days 107 = .ok (.iinc 2 1, 3) := by decide +kernel
theorem dX4_days_110 : decode cX4_days 110 = .ok (.goto (-80), 3) := by decide +kernel
theorem dX4_days_113 : decode cX4_days 113 = .ok (.aload_n 0, 1) := by decide +kernel
theorem dX4_days_114 : decode cX4_days 114 = .ok (.getfield 116, 3) := by decide +kernel
theorem dX4_days_117 : decode cX4_days 117 = .ok (.ireturn, 1) := by decide +kernel
set_option maxRecDepth 20000 in
theorem ggX4_stock_X4_isShelf : GoodIn wsX4_stock wsX4_isShelf := goodIn_r _ [7, 8, 9, 10, 6, 11, 69, 70, 71, 72, 73, 74, 75, 76, 77, 78, 79, 80, 81, 82, 83, 84, 85, 86, 87, 88, 89, 90, 91, 92, 93, 94, 95, 96, 97, 98] (by decide +kernel) (by decide +kernel)
set_option maxRecDepth 20000 in
theorem gX4_stock_X4_isShelf : GoodIn wsX4_stock (wsV RX4 100 RX4 yX4_isShelf wsX4_isShelf) := goodIn_app (goodIn_of _ (by decide +kernel)) ggX4_stock_X4_isShelf
set_option maxRecDepth 20000 in
theorem ggX4_stock_X4_isKind : GoodIn wsX4_stock wsX4_isKind := goodIn_r _ [15, 16, 9, 10, 6, 11, 69, 70, 71, 72, 73, 74, 75, 76, 77, 78, 79, 80, 81, 82, 83, 84, 85, 86, 87, 88, 89, 90, 91, 92, 93, 94, 95, 96, 97, 98] (by decide +kernel) (by decide +kernel)
set_option maxRecDepth 20000 in
theorem gX4_stock_X4_isKind : GoodIn wsX4_stock (wsV RX4 96 RX4 yX4_isKind wsX4_isKind) := goodIn_app (goodIn_of _ (by decide +kernel)) ggX4_stock_X4_isKind
set_option maxRecDepth 20000 in
theorem ggX4_stock_X4_in : GoodIn wsX4_stock wsX4_in := goodIn_r _ [11] (by decide +kernel) (by decide +kernel)
set_option maxRecDepth 20000 in
theorem gX4_stock_X4_in : GoodIn wsX4_stock (va_wsS RX4 92 yX4_in wsX4_in) := goodIn_app (goodIn_of _ (by decide +kernel)) ggX4_stock_X4_in
set_option maxRecDepth 20000 in
theorem ggX4_stock_X4_lands : GoodIn wsX4_stock wsX4_lands := goodIn_r _ [20, 21, 22, 23, 2, 24, 25, 26, 27, 28, 29, 6, 30, 31, 32, 33, 34, 35, 36, 37, 38, 39, 40, 41, 42, 43, 44, 45, 46, 47, 48, 49, 50, 51, 52, 53, 54, 55, 56, 57, 58, 59, 60, 61, 62, 63, 64, 65, 66, 67, 68, 69, 70, 71, 72, 73, 74, 75, 76, 77, 78, 79, 80, 81, 82, 83, 84, 85, 86, 87, 88, 89, 90, 91, 92, 93, 94, 95, 96, 97, 98] (by decide +kernel) (by decide +kernel)
set_option maxRecDepth 20000 in
theorem gX4_stock_X4_lands : GoodIn wsX4_stock (wsV RX4 140 RX4 yX4_lands wsX4_lands) := goodIn_app (goodIn_of _ (by decide +kernel)) ggX4_stock_X4_lands
theorem dX4_stock_0 : decode cX4_stock 0 = .ok (.aload_n 0, 1) := by decide +kernel
theorem dX4_stock_1 : decode cX4_stock 1 = .ok (.iload_n 1, 1) := by decide +kernel
theorem dX4_stock_2 : decode cX4_stock 2 = .ok (.invokevirtual 100, 3) := by decide +kernel
theorem dX4_stock_5 : decode cX4_stock 5 = .ok (.ifCond .eq 11, 3) := by decide +kernel
theorem dX4_stock_8 : decode cX4_stock 8 = .ok (.aload_n 0, 1) := by decide +kernel
theorem dX4_stock_9 : decode cX4_stock 9 = .ok (.iload_n 2, 1) := by decide +kernel
theorem dX4_stock_10 : decode cX4_stock 10 = .ok (.invokevirtual 96, 3) := by decide +kernel
theorem dX4_stock_13 : decode cX4_stock 13 = .ok (.ifCond .ne 5, 3) := by decide +kernel
theorem dX4_stock_16 : decode cX4_stock 16 = .ok (.iconst (-1), 1) := by decide +kernel
theorem dX4_stock_17 : decode cX4_stock 17 = .ok (.ireturn, 1) := by decide +kernel
theorem dX4_stock_18 : decode cX4_stock 18 = .ok (.iload_n 3, 1) := by decide +kernel
theorem dX4_stock_19 : decode cX4_stock 19 = .ok (.iconst 1, 1) := by decide +kernel
theorem dX4_stock_20 : decode cX4_stock 20 = .ok (.bipush 9, 2) := by decide +kernel
theorem dX4_stock_22 : decode cX4_stock 22 = .ok (.invokestatic 92, 3) := by decide +kernel
theorem dX4_stock_25 : decode cX4_stock 25 = .ok (.ifCond .ne 6, 3) := by decide +kernel
theorem dX4_stock_28 : decode cX4_stock 28 = .ok (.bipush (-2), 2) := by decide +kernel
theorem dX4_stock_30 : decode cX4_stock 30 = .ok (.ireturn, 1) := by decide +kernel
theorem dX4_stock_31 : decode cX4_stock 31 = .ok (.aload_n 0, 1) := by decide +kernel
theorem dX4_stock_32 : decode cX4_stock 32 = .ok (.getfield 44, 3) := by decide +kernel
theorem dX4_stock_35 : decode cX4_stock 35 = .ok (.iload_n 2, 1) := by decide +kernel
theorem dX4_stock_36 : decode cX4_stock 36 = .ok (.iaload, 1) := by decide +kernel
theorem dX4_stock_37 : decode cX4_stock 37 = .ok (.iload_n 3, 1) := by decide +kernel
theorem dX4_stock_38 : decode cX4_stock 38 = .ok (.iadd, 1) := by decide +kernel
theorem dX4_stock_39 : decode cX4_stock 39 = .ok (.sipush 200, 3) := by decide +kernel
theorem dX4_stock_42 : decode cX4_stock 42 = .ok (.if_icmp .le 6, 3) := by decide +kernel
theorem dX4_stock_45 : decode cX4_stock 45 = .ok (.bipush (-4), 2) := by decide +kernel
theorem dX4_stock_47 : decode cX4_stock 47 = .ok (.ireturn, 1) := by decide +kernel
theorem dX4_stock_48 : decode cX4_stock 48 = .ok (.iconst 0, 1) := by decide +kernel
theorem dX4_stock_49 : decode cX4_stock 49 = .ok (.istore 4, 2) := by decide +kernel
theorem dX4_stock_51 : decode cX4_stock 51 = .ok (.iload 4, 2) := by decide +kernel
theorem dX4_stock_53 : decode cX4_stock 53 = .ok (.iload_n 3, 1) := by decide +kernel
theorem dX4_stock_54 : decode cX4_stock 54 = .ok (.if_icmp .ge 25, 3) := by decide +kernel
theorem dX4_stock_57 : decode cX4_stock 57 = .ok (.aload_n 0, 1) := by decide +kernel
theorem dX4_stock_58 : decode cX4_stock 58 = .ok (.getfield 44, 3) := by decide +kernel
theorem dX4_stock_61 : decode cX4_stock 61 = .ok (.iload_n 2, 1) := by decide +kernel
theorem dX4_stock_62 : decode cX4_stock 62 = .ok (.dup2, 1) := by decide +kernel
theorem dX4_stock_63 : decode cX4_stock 63 = .ok (.iaload, 1) := by decide +kernel
theorem dX4_stock_64 : decode cX4_stock 64 = .ok (.iconst 1, 1) := by decide +kernel
theorem dX4_stock_65 : decode cX4_stock 65 = .ok (.iadd, 1) := by decide +kernel
theorem dX4_stock_66 : decode cX4_stock 66 = .ok (.iastore, 1) := by decide +kernel
theorem dX4_stock_67 : decode cX4_stock 67 = .ok (.aload_n 0, 1) := by decide +kernel
theorem dX4_stock_68 : decode cX4_stock 68 = .ok (.iload_n 1, 1) := by decide +kernel
theorem dX4_stock_69 : decode cX4_stock 69 = .ok (.iload_n 2, 1) := by decide +kernel
theorem dX4_stock_70 : decode cX4_stock 70 = .ok (.invokevirtual 140, 3) := by decide +kernel
theorem dX4_stock_73 : decode cX4_stock 73 = .ok (.iinc 4 1, 3) := by decide +kernel
theorem dX4_stock_76 : decode cX4_stock 76 = .ok (.goto (-25), 3) := by decide +kernel
theorem dX4_stock_79 : decode cX4_stock 79 = .ok (.aload_n 0, 1) := by decide +kernel
theorem dX4_stock_80 : decode cX4_stock 80 = .ok (.getfield 38, 3) := by decide +kernel
theorem dX4_stock_83 : decode cX4_stock 83 = .ok (.bipush 8, 2) := by decide +kernel
theorem dX4_stock_85 : decode cX4_stock 85 = .ok (.iload_n 1, 1) := by decide +kernel
theorem dX4_stock_86 : decode cX4_stock 86 = .ok (.imul, 1) := by decide +kernel
theorem dX4_stock_87 : decode cX4_stock 87 = .ok (.iload_n 2, 1) := by decide +kernel
theorem dX4_stock_88 : decode cX4_stock 88 = .ok (.iadd, 1) := by decide +kernel
theorem dX4_stock_89 : decode cX4_stock 89 = .ok (.iaload, 1) := by decide +kernel
theorem dX4_stock_90 : decode cX4_stock 90 = .ok (.ireturn, 1) := by decide +kernel
theorem dX4_asksOf_0 : decode cX4_asksOf 0 = .ok (.iconst 0, 1) := by decide +kernel
theorem dX4_asksOf_1 : decode cX4_asksOf 1 = .ok (.istore 4, 2) := by decide +kernel
theorem dX4_asksOf_3 : decode cX4_asksOf 3 = .ok (.iconst 0, 1) := by decide +kernel
theorem dX4_asksOf_4 : decode cX4_asksOf 4 = .ok (.istore 5, 2) := by decide +kernel
theorem dX4_asksOf_6 : decode cX4_asksOf 6 = .ok (.iload 5, 2) := by decide +kernel
theorem dX4_asksOf_8 : decode cX4_asksOf 8 = .ok (.aload_n 0, 1) := by decide +kernel
theorem dX4_asksOf_9 : decode cX4_asksOf 9 = .ok (.getfield 110, 3) := by decide +kernel
theorem dX4_asksOf_12 : decode cX4_asksOf 12 = .ok (.if_icmp .ge 57, 3) := by decide +kernel
theorem dX4_asksOf_15 : decode cX4_asksOf 15 = .ok (.iload 4, 2) := by decide +kernel
theorem dX4_asksOf_17 : decode cX4_asksOf 17 = .ok (.aload_n 0, 1) := by decide +kernel
theorem dX4_asksOf_18 : decode cX4_asksOf 18 = .ok (.getfield 59, 3) := by decide +kernel
theorem dX4_asksOf_21 : decode cX4_asksOf 21 = .ok (.iload 5, 2) := by decide +kernel
theorem dX4_asksOf_23 : decode cX4_asksOf 23 = .ok (.iaload, 1) := by decide +kernel
theorem dX4_asksOf_24 : decode cX4_asksOf 24 = .ok (.iload_n 1, 1) := by decide +kernel
theorem dX4_asksOf_25 : decode cX4_asksOf 25 = .ok (.if_icmp .ne 34, 3) := by decide +kernel
theorem dX4_asksOf_28 : decode cX4_asksOf 28 = .ok (.aload_n 0, 1) := by decide +kernel
theorem dX4_asksOf_29 : decode cX4_asksOf 29 = .ok (.getfield 62, 3) := by decide +kernel
theorem dX4_asksOf_32 : decode cX4_asksOf 32 = .ok (.iload 5, 2) := by decide +kernel
theorem dX4_asksOf_34 : decode cX4_asksOf 34 = .ok (.iaload, 1) := by decide +kernel
theorem dX4_asksOf_35 : decode cX4_asksOf 35 = .ok (.iload_n 2, 1) := by decide +kernel
theorem dX4_asksOf_36 : decode cX4_asksOf 36 = .ok (.if_icmp .ne 23, 3) := by decide +kernel
theorem dX4_asksOf_39 : decode cX4_asksOf 39 = .ok (.iload_n 3, 1) := by decide +kernel
theorem dX4_asksOf_40 : decode cX4_asksOf 40 = .ok (.iconst (-1), 1) := by decide +kernel
theorem dX4_asksOf_41 : decode cX4_asksOf 41 = .ok (.if_icmp .eq 14, 3) := by decide +kernel
theorem dX4_asksOf_44 : decode cX4_asksOf 44 = .ok (.aload_n 0, 1) := by decide +kernel
theorem dX4_asksOf_45 : decode cX4_asksOf 45 = .ok (.getfield 65, 3) := by decide +kernel
theorem dX4_asksOf_48 : decode cX4_asksOf 48 = .ok (.iload 5, 2) := by decide +kernel
theorem dX4_asksOf_50 : decode cX4_asksOf 50 = .ok (.iaload, 1) := by decide +kernel
theorem dX4_asksOf_51 : decode cX4_asksOf 51 = .ok (.iload_n 3, 1) := by decide +kernel
theorem dX4_asksOf_52 : decode cX4_asksOf 52 = .ok (.if_icmp .ne 7, 3) := by decide +kernel
theorem dX4_asksOf_55 : decode cX4_asksOf 55 = .ok (.iconst 1, 1) := by decide +kernel
theorem dX4_asksOf_56 : decode cX4_asksOf 56 = .ok (.goto 4, 3) := by decide +kernel
theorem dX4_asksOf_59 : decode cX4_asksOf 59 = .ok (.iconst 0, 1) := by decide +kernel
theorem dX4_asksOf_60 : decode cX4_asksOf 60 = .ok (.iadd, 1) := by decide +kernel
theorem dX4_asksOf_61 : decode cX4_asksOf 61 = .ok (.istore 4, 2) := by decide +kernel
theorem dX4_asksOf_63 : decode cX4_asksOf 63 = .ok (.iinc 5 1, 3) := by decide +kernel
theorem dX4_asksOf_66 : decode cX4_asksOf 66 = .ok (.goto (-60), 3) := by decide +kernel
theorem dX4_asksOf_69 : decode cX4_asksOf 69 = .ok (.iload 4, 2) := by decide +kernel
theorem dX4_asksOf_71 : decode cX4_asksOf 71 = .ok (.ireturn, 1) := by decide +kernel
theorem dX4_duesOf_0 : decode cX4_duesOf 0 = .ok (.iconst 0, 1) := by decide +kernel
theorem dX4_duesOf_1 : decode cX4_duesOf 1 = .ok (.istore 4, 2) := by decide +kernel
theorem dX4_duesOf_3 : decode cX4_duesOf 3 = .ok (.iconst 0, 1) := by decide +kernel
theorem dX4_duesOf_4 : decode cX4_duesOf 4 = .ok (.istore 5, 2) := by decide +kernel
theorem dX4_duesOf_6 : decode cX4_duesOf 6 = .ok (.iload 5, 2) := by decide +kernel
theorem dX4_duesOf_8 : decode cX4_duesOf 8 = .ok (.aload_n 0, 1) := by decide +kernel
theorem dX4_duesOf_9 : decode cX4_duesOf 9 = .ok (.getfield 113, 3) := by decide +kernel
theorem dX4_duesOf_12 : decode cX4_duesOf 12 = .ok (.if_icmp .ge 57, 3) := by decide +kernel
theorem dX4_duesOf_15 : decode cX4_duesOf 15 = .ok (.iload 4, 2) := by decide +kernel
theorem dX4_duesOf_17 : decode cX4_duesOf 17 = .ok (.iload_n 1, 1) := by decide +kernel
theorem dX4_duesOf_18 : decode cX4_duesOf 18 = .ok (.iconst (-1), 1) := by decide +kernel
theorem dX4_duesOf_19 : decode cX4_duesOf 19 = .ok (.if_icmp .eq 14, 3) := by decide +kernel
theorem dX4_duesOf_22 : decode cX4_duesOf 22 = .ok (.aload_n 0, 1) := by decide +kernel
theorem dX4_duesOf_23 : decode cX4_duesOf 23 = .ok (.getfield 77, 3) := by decide +kernel
theorem dX4_duesOf_26 : decode cX4_duesOf 26 = .ok (.iload 5, 2) := by decide +kernel
theorem dX4_duesOf_28 : decode cX4_duesOf 28 = .ok (.iaload, 1) := by decide +kernel
theorem dX4_duesOf_29 : decode cX4_duesOf 29 = .ok (.iload_n 1, 1) := by decide +kernel
theorem dX4_duesOf_30 : decode cX4_duesOf 30 = .ok (.if_icmp .ne 29, 3) := by decide +kernel
theorem dX4_duesOf_33 : decode cX4_duesOf 33 = .ok (.aload_n 0, 1) := by decide +kernel
theorem dX4_duesOf_34 : decode cX4_duesOf 34 = .ok (.getfield 80, 3) := by decide +kernel
theorem dX4_duesOf_37 : decode cX4_duesOf 37 = .ok (.iload 5, 2) := by decide +kernel
theorem dX4_duesOf_39 : decode cX4_duesOf 39 = .ok (.iaload, 1) := by decide +kernel
theorem dX4_duesOf_40 : decode cX4_duesOf 40 = .ok (.iload_n 2, 1) := by decide +kernel
theorem dX4_duesOf_41 : decode cX4_duesOf 41 = .ok (.if_icmp .ne 18, 3) := by decide +kernel
theorem dX4_duesOf_44 : decode cX4_duesOf 44 = .ok (.aload_n 0, 1) := by decide +kernel
theorem dX4_duesOf_45 : decode cX4_duesOf 45 = .ok (.getfield 74, 3) := by decide +kernel
theorem dX4_duesOf_48 : decode cX4_duesOf 48 = .ok (.iload 5, 2) := by decide +kernel
theorem dX4_duesOf_50 : decode cX4_duesOf 50 = .ok (.iaload, 1) := by decide +kernel
theorem dX4_duesOf_51 : decode cX4_duesOf 51 = .ok (.iload_n 3, 1) := by decide +kernel
theorem dX4_duesOf_52 : decode cX4_duesOf 52 = .ok (.if_icmp .ne 7, 3) := by decide +kernel
theorem dX4_duesOf_55 : decode cX4_duesOf 55 = .ok (.iconst 1, 1) := by decide +kernel
theorem dX4_duesOf_56 : decode cX4_duesOf 56 = .ok (.goto 4, 3) := by decide +kernel
theorem dX4_duesOf_59 : decode cX4_duesOf 59 = .ok (.iconst 0, 1) := by decide +kernel
theorem dX4_duesOf_60 : decode cX4_duesOf 60 = .ok (.iadd, 1) := by decide +kernel
theorem dX4_duesOf_61 : decode cX4_duesOf 61 = .ok (.istore 4, 2) := by decide +kernel
theorem dX4_duesOf_63 : decode cX4_duesOf 63 = .ok (.iinc 5 1, 3) := by decide +kernel
theorem dX4_duesOf_66 : decode cX4_duesOf 66 = .ok (.goto (-60), 3) := by decide +kernel
theorem dX4_duesOf_69 : decode cX4_duesOf 69 = .ok (.iload 4, 2) := by decide +kernel
theorem dX4_duesOf_71 : decode cX4_duesOf 71 = .ok (.ireturn, 1) := by decide +kernel
set_option maxRecDepth 20000 in
theorem ggX4_about_X4_isShelf : GoodIn wsX4_about wsX4_isShelf := goodIn_r _ [6, 7, 8, 9, 5, 10, 37, 38, 39, 40, 41, 42, 43, 44, 45, 46, 47, 48, 49, 50, 51, 52, 53, 54, 55, 56, 57, 58, 59, 60, 61, 62, 63, 64, 65, 66] (by decide +kernel) (by decide +kernel)
set_option maxRecDepth 20000 in
theorem gX4_about_X4_isShelf : GoodIn wsX4_about (wsV RX4 100 RX4 yX4_isShelf wsX4_isShelf) := goodIn_app (goodIn_of _ (by decide +kernel)) ggX4_about_X4_isShelf
set_option maxRecDepth 20000 in
theorem ggX4_about_X4_isKind : GoodIn wsX4_about wsX4_isKind := goodIn_r _ [14, 15, 8, 9, 5, 10, 37, 38, 39, 40, 41, 42, 43, 44, 45, 46, 47, 48, 49, 50, 51, 52, 53, 54, 55, 56, 57, 58, 59, 60, 61, 62, 63, 64, 65, 66] (by decide +kernel) (by decide +kernel)
set_option maxRecDepth 20000 in
theorem gX4_about_X4_isKind : GoodIn wsX4_about (wsV RX4 96 RX4 yX4_isKind wsX4_isKind) := goodIn_app (goodIn_of _ (by decide +kernel)) ggX4_about_X4_isKind
set_option maxRecDepth 20000 in
theorem ggX4_about_X4_asksOf : GoodIn wsX4_about wsX4_asksOf := goodIn_r _ [19, 20, 21, 22, 23, 37, 38, 39, 40, 41, 42, 43, 44, 45, 46, 47, 48, 49, 50, 51, 52, 53, 54, 55, 56, 57, 58, 59, 60, 61, 62, 63, 64, 65, 66] (by decide +kernel) (by decide +kernel)
set_option maxRecDepth 20000 in
theorem gX4_about_X4_asksOf : GoodIn wsX4_about (wsV RX4 148 RX4 yX4_asksOf wsX4_asksOf) := goodIn_app (goodIn_of _ (by decide +kernel)) ggX4_about_X4_asksOf
set_option maxRecDepth 20000 in
theorem ggX4_about_X4_duesOf : GoodIn wsX4_about wsX4_duesOf := goodIn_r _ [27, 28, 29, 30, 31, 37, 38, 39, 40, 41, 42, 43, 44, 45, 46, 47, 48, 49, 50, 51, 52, 53, 54, 55, 56, 57, 58, 59, 60, 61, 62, 63, 64, 65, 66] (by decide +kernel) (by decide +kernel)
set_option maxRecDepth 20000 in
theorem gX4_about_X4_duesOf : GoodIn wsX4_about (wsV RX4 152 RX4 yX4_duesOf wsX4_duesOf) := goodIn_app (goodIn_of _ (by decide +kernel)) ggX4_about_X4_duesOf
set_option maxRecDepth 20000 in
theorem ggX4_about_X4_waiting : GoodIn wsX4_about wsX4_waiting := goodIn_r _ [35, 20, 21, 23, 36, 37, 38, 39, 40, 41, 42, 43, 44, 45, 46, 47, 48, 49, 50, 51, 52, 53, 54, 55, 56, 57, 58, 59, 60, 61, 62, 63, 64, 65, 66] (by decide +kernel) (by decide +kernel)
set_option maxRecDepth 20000 in
theorem gX4_about_X4_waiting : GoodIn wsX4_about (wsV RX4 103 RX4 yX4_waiting wsX4_waiting) := goodIn_app (goodIn_of _ (by decide +kernel)) ggX4_about_X4_waiting
theorem dX4_about_0 : decode cX4_about 0 = .ok (.aload_n 0, 1) := by decide +kernel
theorem dX4_about_1 : decode cX4_about 1 = .ok (.iload_n 1, 1) := by decide +kernel
theorem dX4_about_2 : decode cX4_about 2 = .ok (.invokevirtual 100, 3) := by decide +kernel
theorem dX4_about_5 : decode cX4_about 5 = .ok (.ifCond .eq 11, 3) := by decide +kernel
theorem dX4_about_8 : decode cX4_about 8 = .ok (.aload_n 0, 1) := by decide +kernel
theorem dX4_about_9 : decode cX4_about 9 = .ok (.iload_n 2, 1) := by decide +kernel
theorem dX4_about_10 : decode cX4_about 10 = .ok (.invokevirtual 96, 3) := by decide +kernel
theorem dX4_about_13 : decode cX4_about 13 = .ok (.ifCond .ne 5, 3) := by decide +kernel
theorem dX4_about_16 : decode cX4_about 16 = .ok (.iconst (-1), 1) := by decide +kernel
theorem dX4_about_17 : decode cX4_about 17 = .ok (.ireturn, 1) := by decide +kernel
theorem dX4_about_18 : decode cX4_about 18 = .ok (.iload_n 3, 1) := by decide +kernel
theorem dX4_about_19 : decode cX4_about 19 = .ok (.tableswitch 112 0 7 #[45, 57, 65, 73, 81, 88, 96, 104], 45) := by decide +kernel
theorem dX4_about_64 : decode cX4_about 64 = .ok (.aload_n 0, 1) := by decide +kernel
theorem dX4_about_65 : decode cX4_about 65 = .ok (.getfield 38, 3) := by decide +kernel
theorem dX4_about_68 : decode cX4_about 68 = .ok (.bipush 8, 2) := by decide +kernel
theorem dX4_about_70 : decode cX4_about 70 = .ok (.iload_n 1, 1) := by decide +kernel
theorem dX4_about_71 : decode cX4_about 71 = .ok (.imul, 1) := by decide +kernel
theorem dX4_about_72 : decode cX4_about 72 = .ok (.iload_n 2, 1) := by decide +kernel
theorem dX4_about_73 : decode cX4_about 73 = .ok (.iadd, 1) := by decide +kernel
theorem dX4_about_74 : decode cX4_about 74 = .ok (.iaload, 1) := by decide +kernel
theorem dX4_about_75 : decode cX4_about 75 = .ok (.ireturn, 1) := by decide +kernel
theorem dX4_about_76 : decode cX4_about 76 = .ok (.aload_n 0, 1) := by decide +kernel
theorem dX4_about_77 : decode cX4_about 77 = .ok (.iload_n 1, 1) := by decide +kernel
theorem dX4_about_78 : decode cX4_about 78 = .ok (.iload_n 2, 1) := by decide +kernel
theorem dX4_about_79 : decode cX4_about 79 = .ok (.iconst (-1), 1) := by decide +kernel
theorem dX4_about_80 : decode cX4_about 80 = .ok (.invokevirtual 148, 3) := by decide +kernel
theorem dX4_about_83 : decode cX4_about 83 = .ok (.ireturn, 1) := by decide +kernel
theorem dX4_about_84 : decode cX4_about 84 = .ok (.aload_n 0, 1) := by decide +kernel
theorem dX4_about_85 : decode cX4_about 85 = .ok (.iload_n 1, 1) := by decide +kernel
theorem dX4_about_86 : decode cX4_about 86 = .ok (.iload_n 2, 1) := by decide +kernel
theorem dX4_about_87 : decode cX4_about 87 = .ok (.iconst 0, 1) := by decide +kernel
theorem dX4_about_88 : decode cX4_about 88 = .ok (.invokevirtual 148, 3) := by decide +kernel
theorem dX4_about_91 : decode cX4_about 91 = .ok (.ireturn, 1) := by decide +kernel
theorem dX4_about_92 : decode cX4_about 92 = .ok (.aload_n 0, 1) := by decide +kernel
theorem dX4_about_93 : decode cX4_about 93 = .ok (.iload_n 1, 1) := by decide +kernel
theorem dX4_about_94 : decode cX4_about 94 = .ok (.iload_n 2, 1) := by decide +kernel
theorem dX4_about_95 : decode cX4_about 95 = .ok (.iconst 1, 1) := by decide +kernel
theorem dX4_about_96 : decode cX4_about 96 = .ok (.invokevirtual 152, 3) := by decide +kernel
theorem dX4_about_99 : decode cX4_about 99 = .ok (.ireturn, 1) := by decide +kernel
theorem dX4_about_100 : decode cX4_about 100 = .ok (.aload_n 0, 1) := by decide +kernel
theorem dX4_about_101 : decode cX4_about 101 = .ok (.iload_n 1, 1) := by decide +kernel
theorem dX4_about_102 : decode cX4_about 102 = .ok (.iload_n 2, 1) := by decide +kernel
theorem dX4_about_103 : decode cX4_about 103 = .ok (.invokevirtual 103, 3) := by decide +kernel
theorem dX4_about_106 : decode cX4_about 106 = .ok (.ireturn, 1) := by decide +kernel
theorem dX4_about_107 : decode cX4_about 107 = .ok (.aload_n 0, 1) := by decide +kernel
theorem dX4_about_108 : decode cX4_about 108 = .ok (.iload_n 1, 1) := by decide +kernel
theorem dX4_about_109 : decode cX4_about 109 = .ok (.iload_n 2, 1) := by decide +kernel
theorem dX4_about_110 : decode cX4_about 110 = .ok (.iconst 0, 1) := by decide +kernel
theorem dX4_about_111 : decode cX4_about 111 = .ok (.invokevirtual 152, 3) := by decide +kernel
theorem dX4_about_114 : decode cX4_about 114 = .ok (.ireturn, 1) := by decide +kernel
theorem dX4_about_115 : decode cX4_about 115 = .ok (.aload_n 0, 1) := by decide +kernel
theorem dX4_about_116 : decode cX4_about 116 = .ok (.iload_n 1, 1) := by decide +kernel
theorem dX4_about_117 : decode cX4_about 117 = .ok (.iload_n 2, 1) := by decide +kernel
theorem dX4_about_118 : decode cX4_about 118 = .ok (.iconst 3, 1) := by decide +kernel
theorem dX4_about_119 : decode cX4_about 119 = .ok (.invokevirtual 152, 3) := by decide +kernel
theorem dX4_about_122 : decode cX4_about 122 = .ok (.ireturn, 1) := by decide +kernel
theorem dX4_about_123 : decode cX4_about 123 = .ok (.aload_n 0, 1) := by decide +kernel
theorem dX4_about_124 : decode cX4_about 124 = .ok (.iload_n 1, 1) := by decide +kernel
theorem dX4_about_125 : decode cX4_about 125 = .ok (.iload_n 2, 1) := by decide +kernel
theorem dX4_about_126 : decode cX4_about 126 = .ok (.iconst 2, 1) := by decide +kernel
theorem dX4_about_127 : decode cX4_about 127 = .ok (.invokevirtual 152, 3) := by decide +kernel
theorem dX4_about_130 : decode cX4_about 130 = .ok (.ireturn, 1) := by decide +kernel
theorem dX4_about_131 : decode cX4_about 131 = .ok (.iconst (-1), 1) := by decide +kernel
theorem dX4_about_132 : decode cX4_about 132 = .ok (.ireturn, 1) := by decide +kernel
set_option maxRecDepth 20000 in
theorem ggX4_ask_X4_isShelf : GoodIn wsX4_ask wsX4_isShelf := goodIn_r _ [11, 12, 13, 14, 10, 15, 21, 22, 23, 24, 25, 26, 27, 28, 29, 30, 31, 32, 33, 34, 35, 36, 37, 38, 39, 40, 41, 42, 43, 44, 45, 46, 47, 48, 49, 50] (by decide +kernel) (by decide +kernel)
set_option maxRecDepth 20000 in
theorem gX4_ask_X4_isShelf : GoodIn wsX4_ask (wsV RX4 100 RX4 yX4_isShelf wsX4_isShelf) := goodIn_app (goodIn_of _ (by decide +kernel)) ggX4_ask_X4_isShelf
set_option maxRecDepth 20000 in
theorem ggX4_ask_X4_isKind : GoodIn wsX4_ask wsX4_isKind := goodIn_r _ [19, 20, 13, 14, 10, 15, 21, 22, 23, 24, 25, 26, 27, 28, 29, 30, 31, 32, 33, 34, 35, 36, 37, 38, 39, 40, 41, 42, 43, 44, 45, 46, 47, 48, 49, 50] (by decide +kernel) (by decide +kernel)
set_option maxRecDepth 20000 in
theorem gX4_ask_X4_isKind : GoodIn wsX4_ask (wsV RX4 96 RX4 yX4_isKind wsX4_isKind) := goodIn_app (goodIn_of _ (by decide +kernel)) ggX4_ask_X4_isKind
theorem dX4_ask_0 : decode cX4_ask 0 = .ok (.aload_n 0, 1) := by decide +kernel
theorem dX4_ask_1 : decode cX4_ask 1 = .ok (.iload_n 1, 1) := by decide +kernel
theorem dX4_ask_2 : decode cX4_ask 2 = .ok (.invokevirtual 100, 3) := by decide +kernel
theorem dX4_ask_5 : decode cX4_ask 5 = .ok (.ifCond .eq 15, 3) := by decide +kernel
theorem dX4_ask_8 : decode cX4_ask 8 = .ok (.aload_n 0, 1) := by decide +kernel
theorem dX4_ask_9 : decode cX4_ask 9 = .ok (.iload_n 2, 1) := by decide +kernel
theorem dX4_ask_10 : decode cX4_ask 10 = .ok (.invokevirtual 96, 3) := by decide +kernel
theorem dX4_ask_13 : decode cX4_ask 13 = .ok (.ifCond .eq 7, 3) := by decide +kernel
theorem dX4_ask_16 : decode cX4_ask 16 = .ok (.iload_n 3, 1) := by decide +kernel
theorem dX4_ask_17 : decode cX4_ask 17 = .ok (.ifCond .ge 5, 3) := by decide +kernel
theorem dX4_ask_20 : decode cX4_ask 20 = .ok (.iconst (-1), 1) := by decide +kernel
theorem dX4_ask_21 : decode cX4_ask 21 = .ok (.ireturn, 1) := by decide +kernel
theorem dX4_ask_22 : decode cX4_ask 22 = .ok (.iload_n 3, 1) := by decide +kernel
theorem dX4_ask_23 : decode cX4_ask 23 = .ok (.istore 5, 2) := by decide +kernel
theorem dX4_ask_25 : decode cX4_ask 25 = .ok (.iconst 0, 1) := by decide +kernel
theorem dX4_ask_26 : decode cX4_ask 26 = .ok (.istore 6, 2) := by decide +kernel
theorem dX4_ask_28 : decode cX4_ask 28 = .ok (.iload 6, 2) := by decide +kernel
theorem dX4_ask_30 : decode cX4_ask 30 = .ok (.aload_n 0, 1) := by decide +kernel
theorem dX4_ask_31 : decode cX4_ask 31 = .ok (.getfield 110, 3) := by decide +kernel
theorem dX4_ask_34 : decode cX4_ask 34 = .ok (.if_icmp .ge 91, 3) := by decide +kernel
theorem dX4_ask_37 : decode cX4_ask 37 = .ok (.aload_n 0, 1) := by decide +kernel
theorem dX4_ask_38 : decode cX4_ask 38 = .ok (.getfield 59, 3) := by decide +kernel
theorem dX4_ask_41 : decode cX4_ask 41 = .ok (.iload 6, 2) := by decide +kernel
theorem dX4_ask_43 : decode cX4_ask 43 = .ok (.iaload, 1) := by decide +kernel
theorem dX4_ask_44 : decode cX4_ask 44 = .ok (.iload_n 1, 1) := by decide +kernel
theorem dX4_ask_45 : decode cX4_ask 45 = .ok (.if_icmp .ne 74, 3) := by decide +kernel
theorem dX4_ask_48 : decode cX4_ask 48 = .ok (.aload_n 0, 1) := by decide +kernel
theorem dX4_ask_49 : decode cX4_ask 49 = .ok (.getfield 62, 3) := by decide +kernel
theorem dX4_ask_52 : decode cX4_ask 52 = .ok (.iload 6, 2) := by decide +kernel
theorem dX4_ask_54 : decode cX4_ask 54 = .ok (.iaload, 1) := by decide +kernel
theorem dX4_ask_55 : decode cX4_ask 55 = .ok (.iload_n 2, 1) := by decide +kernel
theorem dX4_ask_56 : decode cX4_ask 56 = .ok (.if_icmp .eq 6, 3) := by decide +kernel
theorem dX4_ask_59 : decode cX4_ask 59 = .ok (.goto 60, 3) := by decide +kernel
theorem dX4_ask_62 : decode cX4_ask 62 = .ok (.iload 5, 2) := by decide +kernel
theorem dX4_ask_64 : decode cX4_ask 64 = .ok (.ifCond .ne 52, 3) := by decide +kernel
theorem dX4_ask_67 : decode cX4_ask 67 = .ok (.iload 4, 2) := by decide +kernel
theorem dX4_ask_69 : decode cX4_ask 69 = .ok (.ifCond .ne 13, 3) := by decide +kernel
theorem dX4_ask_72 : decode cX4_ask 72 = .ok (.aload_n 0, 1) := by decide +kernel
theorem dX4_ask_73 : decode cX4_ask 73 = .ok (.getfield 65, 3) := by decide +kernel
theorem dX4_ask_76 : decode cX4_ask 76 = .ok (.iload 6, 2) := by decide +kernel
theorem dX4_ask_78 : decode cX4_ask 78 = .ok (.iaload, 1) := by decide +kernel
theorem dX4_ask_79 : decode cX4_ask 79 = .ok (.goto 36, 3) := by decide +kernel
theorem dX4_ask_82 : decode cX4_ask 82 = .ok (.iload 4, 2) := by decide +kernel
theorem dX4_ask_84 : decode cX4_ask 84 = .ok (.iconst 1, 1) := by decide +kernel
theorem dX4_ask_85 : decode cX4_ask 85 = .ok (.if_icmp .ne 13, 3) := by decide +kernel
theorem dX4_ask_88 : decode cX4_ask 88 = .ok (.aload_n 0, 1) := by decide +kernel
theorem dX4_ask_89 : decode cX4_ask 89 = .ok (.getfield 71, 3) := by decide +kernel
theorem dX4_ask_92 : decode cX4_ask 92 = .ok (.iload 6, 2) := by decide +kernel
theorem dX4_ask_94 : decode cX4_ask 94 = .ok (.iaload, 1) := by decide +kernel
theorem dX4_ask_95 : decode cX4_ask 95 = .ok (.goto 20, 3) := by decide +kernel
theorem dX4_ask_98 : decode cX4_ask 98 = .ok (.iload 4, 2) := by decide +kernel
theorem dX4_ask_100 : decode cX4_ask 100 = .ok (.iconst 2, 1) := by decide +kernel
theorem dX4_ask_101 : decode cX4_ask 101 = .ok (.if_icmp .ne 13, 3) := by decide +kernel
theorem dX4_ask_104 : decode cX4_ask 104 = .ok (.aload_n 0, 1) := by decide +kernel
theorem dX4_ask_105 : decode cX4_ask 105 = .ok (.getfield 68, 3) := by decide +kernel
theorem dX4_ask_108 : decode cX4_ask 108 = .ok (.iload 6, 2) := by decide +kernel
theorem dX4_ask_110 : decode cX4_ask 110 = .ok (.iaload, 1) := by decide +kernel
theorem dX4_ask_111 : decode cX4_ask 111 = .ok (.goto 4, 3) := by decide +kernel
theorem dX4_ask_114 : decode cX4_ask 114 = .ok (.iconst (-1), 1) := by decide +kernel
theorem dX4_ask_115 : decode cX4_ask 115 = .ok (.ireturn, 1) := by decide +kernel
theorem dX4_ask_116 : decode cX4_ask 116 = .ok (.iinc 5 (-1), 3) := by decide +kernel
theorem dX4_ask_119 : decode cX4_ask 119 = .ok (.iinc 6 1, 3) := by decide +kernel
theorem dX4_ask_122 : decode cX4_ask 122 = .ok (.goto (-94), 3) := by decide +kernel
theorem dX4_ask_125 : decode cX4_ask 125 = .ok (.iconst (-1), 1) := by decide +kernel
theorem dX4_ask_126 : decode cX4_ask 126 = .ok (.ireturn, 1) := by decide +kernel
set_option maxRecDepth 20000 in
theorem ggX4_all_X4_isKind : GoodIn wsX4_all wsX4_isKind := goodIn_r _ [12, 13, 14, 15, 11, 16, 33, 34, 35, 36, 37, 38, 39, 40, 41, 42, 43, 44, 45, 46, 47, 48, 49, 50, 51, 52, 53, 54, 55, 56, 57, 58, 59, 60, 61, 62] (by decide +kernel) (by decide +kernel)
set_option maxRecDepth 20000 in
theorem gX4_all_X4_isKind : GoodIn wsX4_all (wsV RX4 96 RX4 yX4_isKind wsX4_isKind) := goodIn_app (goodIn_of _ (by decide +kernel)) ggX4_all_X4_isKind
set_option maxRecDepth 20000 in
theorem ggX4_all_X4_duesOf : GoodIn wsX4_all wsX4_duesOf := goodIn_r _ [20, 21, 22, 23, 24, 33, 34, 35, 36, 37, 38, 39, 40, 41, 42, 43, 44, 45, 46, 47, 48, 49, 50, 51, 52, 53, 54, 55, 56, 57, 58, 59, 60, 61, 62] (by decide +kernel) (by decide +kernel)
set_option maxRecDepth 20000 in
theorem gX4_all_X4_duesOf : GoodIn wsX4_all (wsV RX4 152 RX4 yX4_duesOf wsX4_duesOf) := goodIn_app (goodIn_of _ (by decide +kernel)) ggX4_all_X4_duesOf
set_option maxRecDepth 20000 in
theorem ggX4_all_X4_waiting : GoodIn wsX4_all wsX4_waiting := goodIn_r _ [28, 29, 30, 31, 32, 33, 34, 35, 36, 37, 38, 39, 40, 41, 42, 43, 44, 45, 46, 47, 48, 49, 50, 51, 52, 53, 54, 55, 56, 57, 58, 59, 60, 61, 62] (by decide +kernel) (by decide +kernel)
set_option maxRecDepth 20000 in
theorem gX4_all_X4_waiting : GoodIn wsX4_all (wsV RX4 103 RX4 yX4_waiting wsX4_waiting) := goodIn_app (goodIn_of _ (by decide +kernel)) ggX4_all_X4_waiting
theorem dX4_all_0 : decode cX4_all 0 = .ok (.aload_n 0, 1) := by decide +kernel
theorem dX4_all_1 : decode cX4_all 1 = .ok (.iload_n 1, 1) := by decide +kernel
theorem dX4_all_2 : decode cX4_all 2 = .ok (.invokevirtual 96, 3) := by decide +kernel
theorem dX4_all_5 : decode cX4_all 5 = .ok (.ifCond .ne 5, 3) := by decide +kernel
theorem dX4_all_8 : decode cX4_all 8 = .ok (.iconst (-1), 1) := by decide +kernel
theorem dX4_all_9 : decode cX4_all 9 = .ok (.ireturn, 1) := by decide +kernel
theorem dX4_all_10 : decode cX4_all 10 = .ok (.iconst 0, 1) := by decide +kernel
theorem dX4_all_11 : decode cX4_all 11 = .ok (.istore_n 3, 1) := by decide +kernel
theorem dX4_all_12 : decode cX4_all 12 = .ok (.iload_n 2, 1) := by decide +kernel
theorem dX4_all_13 : decode cX4_all 13 = .ok (.tableswitch 183 0 8 #[51, 58, 65, 100, 116, 154, 162, 169, 176], 51) := by decide +kernel
theorem dX4_all_64 : decode cX4_all 64 = .ok (.aload_n 0, 1) := by decide +kernel
theorem dX4_all_65 : decode cX4_all 65 = .ok (.getfield 44, 3) := by decide +kernel
theorem dX4_all_68 : decode cX4_all 68 = .ok (.iload_n 1, 1) := by decide +kernel
theorem dX4_all_69 : decode cX4_all 69 = .ok (.iaload, 1) := by decide +kernel
theorem dX4_all_70 : decode cX4_all 70 = .ok (.ireturn, 1) := by decide +kernel
theorem dX4_all_71 : decode cX4_all 71 = .ok (.aload_n 0, 1) := by decide +kernel
theorem dX4_all_72 : decode cX4_all 72 = .ok (.getfield 47, 3) := by decide +kernel
theorem dX4_all_75 : decode cX4_all 75 = .ok (.iload_n 1, 1) := by decide +kernel
theorem dX4_all_76 : decode cX4_all 76 = .ok (.iaload, 1) := by decide +kernel
theorem dX4_all_77 : decode cX4_all 77 = .ok (.ireturn, 1) := by decide +kernel
theorem dX4_all_78 : decode cX4_all 78 = .ok (.iconst 0, 1) := by decide +kernel
theorem dX4_all_79 : decode cX4_all 79 = .ok (.istore 4, 2) := by decide +kernel
theorem dX4_all_81 : decode cX4_all 81 = .ok (.iload 4, 2) := by decide +kernel
theorem dX4_all_83 : decode cX4_all 83 = .ok (.aload_n 0, 1) := by decide +kernel
theorem dX4_all_84 : decode cX4_all 84 = .ok (.getfield 23, 3) := by decide +kernel
theorem dX4_all_87 : decode cX4_all 87 = .ok (.if_icmp .ge 24, 3) := by decide +kernel
theorem dX4_all_90 : decode cX4_all 90 = .ok (.iload_n 3, 1) := by decide +kernel
theorem dX4_all_91 : decode cX4_all 91 = .ok (.aload_n 0, 1) := by decide +kernel
theorem dX4_all_92 : decode cX4_all 92 = .ok (.getfield 38, 3) := by decide +kernel
theorem dX4_all_95 : decode cX4_all 95 = .ok (.bipush 8, 2) := by decide +kernel
theorem dX4_all_97 : decode cX4_all 97 = .ok (.iload 4, 2) := by decide +kernel
theorem dX4_all_99 : decode cX4_all 99 = .ok (.imul, 1) := by decide +kernel
theorem dX4_all_100 : decode cX4_all 100 = .ok (.iload_n 1, 1) := by decide +kernel
theorem dX4_all_101 : decode cX4_all 101 = .ok (.iadd, 1) := by decide +kernel
theorem dX4_all_102 : decode cX4_all 102 = .ok (.iaload, 1) := by decide +kernel
theorem dX4_all_103 : decode cX4_all 103 = .ok (.iadd, 1) := by decide +kernel
theorem dX4_all_104 : decode cX4_all 104 = .ok (.istore_n 3, 1) := by decide +kernel
theorem dX4_all_105 : decode cX4_all 105 = .ok (.iinc 4 1, 3) := by decide +kernel
theorem dX4_all_108 : decode cX4_all 108 = .ok (.goto (-27), 3) := by decide +kernel
