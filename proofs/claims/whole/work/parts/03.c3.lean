theorem dX4_all_111 : decode cX4_all 111 = .ok (.iload_n 3, 1) := by decide +kernel
theorem dX4_all_112 : decode cX4_all 112 = .ok (.ireturn, 1) := by decide +kernel
theorem dX4_all_113 : decode cX4_all 113 = .ok (.aload_n 0, 1) := by decide +kernel
theorem dX4_all_114 : decode cX4_all 114 = .ok (.iconst (-1), 1) := by decide +kernel
theorem dX4_all_115 : decode cX4_all 115 = .ok (.iload_n 1, 1) := by decide +kernel
theorem dX4_all_116 : decode cX4_all 116 = .ok (.iconst 0, 1) := by decide +kernel
theorem dX4_all_117 : decode cX4_all 117 = .ok (.invokevirtual 152, 3) := by decide +kernel
theorem dX4_all_120 : decode cX4_all 120 = .ok (.aload_n 0, 1) := by decide +kernel
theorem dX4_all_121 : decode cX4_all 121 = .ok (.iconst (-1), 1) := by decide +kernel
theorem dX4_all_122 : decode cX4_all 122 = .ok (.iload_n 1, 1) := by decide +kernel
theorem dX4_all_123 : decode cX4_all 123 = .ok (.iconst 3, 1) := by decide +kernel
theorem dX4_all_124 : decode cX4_all 124 = .ok (.invokevirtual 152, 3) := by decide +kernel
theorem dX4_all_127 : decode cX4_all 127 = .ok (.iadd, 1) := by decide +kernel
theorem dX4_all_128 : decode cX4_all 128 = .ok (.ireturn, 1) := by decide +kernel
theorem dX4_all_129 : decode cX4_all 129 = .ok (.iconst 0, 1) := by decide +kernel
theorem dX4_all_130 : decode cX4_all 130 = .ok (.istore 4, 2) := by decide +kernel
theorem dX4_all_132 : decode cX4_all 132 = .ok (.iload 4, 2) := by decide +kernel
theorem dX4_all_134 : decode cX4_all 134 = .ok (.aload_n 0, 1) := by decide +kernel
theorem dX4_all_135 : decode cX4_all 135 = .ok (.getfield 23, 3) := by decide +kernel
theorem dX4_all_138 : decode cX4_all 138 = .ok (.if_icmp .ge 19, 3) := by decide +kernel
theorem dX4_all_141 : decode cX4_all 141 = .ok (.iload_n 3, 1) := by decide +kernel
theorem dX4_all_142 : decode cX4_all 142 = .ok (.aload_n 0, 1) := by decide +kernel
theorem dX4_all_143 : decode cX4_all 143 = .ok (.iload 4, 2) := by decide +kernel
theorem dX4_all_145 : decode cX4_all 145 = .ok (.iload_n 1, 1) := by decide +kernel
theorem dX4_all_146 : decode cX4_all 146 = .ok (.invokevirtual 103, 3) := by decide +kernel
theorem dX4_all_149 : decode cX4_all 149 = .ok (.iadd, 1) := by decide +kernel
theorem dX4_all_150 : decode cX4_all 150 = .ok (.istore_n 3, 1) := by decide +kernel
theorem dX4_all_151 : decode cX4_all 151 = .ok (.iinc 4 1, 3) := by decide +kernel
theorem dX4_all_154 : decode cX4_all 154 = .ok (.goto (-22), 3) := by decide +kernel
theorem dX4_all_157 : decode cX4_all 157 = .ok (.iload_n 3, 1) := by decide +kernel
theorem dX4_all_158 : decode cX4_all 158 = .ok (.aload_n 0, 1) := by decide +kernel
theorem dX4_all_159 : decode cX4_all 159 = .ok (.iconst (-1), 1) := by decide +kernel
theorem dX4_all_160 : decode cX4_all 160 = .ok (.iload_n 1, 1) := by decide +kernel
theorem dX4_all_161 : decode cX4_all 161 = .ok (.iconst 1, 1) := by decide +kernel
theorem dX4_all_162 : decode cX4_all 162 = .ok (.invokevirtual 152, 3) := by decide +kernel
theorem dX4_all_165 : decode cX4_all 165 = .ok (.iadd, 1) := by decide +kernel
theorem dX4_all_166 : decode cX4_all 166 = .ok (.ireturn, 1) := by decide +kernel
theorem dX4_all_167 : decode cX4_all 167 = .ok (.aload_n 0, 1) := by decide +kernel
theorem dX4_all_168 : decode cX4_all 168 = .ok (.iconst (-1), 1) := by decide +kernel
theorem dX4_all_169 : decode cX4_all 169 = .ok (.iload_n 1, 1) := by decide +kernel
theorem dX4_all_170 : decode cX4_all 170 = .ok (.iconst 2, 1) := by decide +kernel
theorem dX4_all_171 : decode cX4_all 171 = .ok (.invokevirtual 152, 3) := by decide +kernel
theorem dX4_all_174 : decode cX4_all 174 = .ok (.ireturn, 1) := by decide +kernel
theorem dX4_all_175 : decode cX4_all 175 = .ok (.aload_n 0, 1) := by decide +kernel
theorem dX4_all_176 : decode cX4_all 176 = .ok (.getfield 50, 3) := by decide +kernel
theorem dX4_all_179 : decode cX4_all 179 = .ok (.iload_n 1, 1) := by decide +kernel
theorem dX4_all_180 : decode cX4_all 180 = .ok (.iaload, 1) := by decide +kernel
theorem dX4_all_181 : decode cX4_all 181 = .ok (.ireturn, 1) := by decide +kernel
theorem dX4_all_182 : decode cX4_all 182 = .ok (.aload_n 0, 1) := by decide +kernel
theorem dX4_all_183 : decode cX4_all 183 = .ok (.getfield 53, 3) := by decide +kernel
theorem dX4_all_186 : decode cX4_all 186 = .ok (.iload_n 1, 1) := by decide +kernel
theorem dX4_all_187 : decode cX4_all 187 = .ok (.iaload, 1) := by decide +kernel
theorem dX4_all_188 : decode cX4_all 188 = .ok (.ireturn, 1) := by decide +kernel
theorem dX4_all_189 : decode cX4_all 189 = .ok (.aload_n 0, 1) := by decide +kernel
theorem dX4_all_190 : decode cX4_all 190 = .ok (.getfield 56, 3) := by decide +kernel
theorem dX4_all_193 : decode cX4_all 193 = .ok (.iload_n 1, 1) := by decide +kernel
theorem dX4_all_194 : decode cX4_all 194 = .ok (.iaload, 1) := by decide +kernel
theorem dX4_all_195 : decode cX4_all 195 = .ok (.ireturn, 1) := by decide +kernel
theorem dX4_all_196 : decode cX4_all 196 = .ok (.iconst (-1), 1) := by decide +kernel
theorem dX4_all_197 : decode cX4_all 197 = .ok (.ireturn, 1) := by decide +kernel
theorem dX4_standing_0 : decode cX4_standing 0 = .ok (.iconst 0, 1) := by decide +kernel
theorem dX4_standing_1 : decode cX4_standing 1 = .ok (.istore_n 2, 1) := by decide +kernel
theorem dX4_standing_2 : decode cX4_standing 2 = .ok (.iconst 0, 1) := by decide +kernel
theorem dX4_standing_3 : decode cX4_standing 3 = .ok (.istore_n 3, 1) := by decide +kernel
theorem dX4_standing_4 : decode cX4_standing 4 = .ok (.iload_n 3, 1) := by decide +kernel
theorem dX4_standing_5 : decode cX4_standing 5 = .ok (.aload_n 0, 1) := by decide +kernel
theorem dX4_standing_6 : decode cX4_standing 6 = .ok (.getfield 110, 3) := by decide +kernel
theorem dX4_standing_9 : decode cX4_standing 9 = .ok (.if_icmp .ge 41, 3) := by decide +kernel
theorem dX4_standing_12 : decode cX4_standing 12 = .ok (.iload_n 2, 1) := by decide +kernel
theorem dX4_standing_13 : decode cX4_standing 13 = .ok (.aload_n 0, 1) := by decide +kernel
theorem dX4_standing_14 : decode cX4_standing 14 = .ok (.getfield 65, 3) := by decide +kernel
theorem dX4_standing_17 : decode cX4_standing 17 = .ok (.iload_n 3, 1) := by decide +kernel
theorem dX4_standing_18 : decode cX4_standing 18 = .ok (.iaload, 1) := by decide +kernel
theorem dX4_standing_19 : decode cX4_standing 19 = .ok (.ifCond .ne 22, 3) := by decide +kernel
theorem dX4_standing_22 : decode cX4_standing 22 = .ok (.iload_n 1, 1) := by decide +kernel
theorem dX4_standing_23 : decode cX4_standing 23 = .ok (.iconst (-1), 1) := by decide +kernel
theorem dX4_standing_24 : decode cX4_standing 24 = .ok (.if_icmp .eq 13, 3) := by decide +kernel
theorem dX4_standing_27 : decode cX4_standing 27 = .ok (.aload_n 0, 1) := by decide +kernel
theorem dX4_standing_28 : decode cX4_standing 28 = .ok (.getfield 59, 3) := by decide +kernel
theorem dX4_standing_31 : decode cX4_standing 31 = .ok (.iload_n 3, 1) := by decide +kernel
theorem dX4_standing_32 : decode cX4_standing 32 = .ok (.iaload, 1) := by decide +kernel
theorem dX4_standing_33 : decode cX4_standing 33 = .ok (.iload_n 1, 1) := by decide +kernel
theorem dX4_standing_34 : decode cX4_standing 34 = .ok (.if_icmp .ne 7, 3) := by decide +kernel
theorem dX4_standing_37 : decode cX4_standing 37 = .ok (.iconst 1, 1) := by decide +kernel
theorem dX4_standing_38 : decode cX4_standing 38 = .ok (.goto 4, 3) := by decide +kernel
theorem dX4_standing_41 : decode cX4_standing 41 = .ok (.iconst 0, 1) := by decide +kernel
theorem dX4_standing_42 : decode cX4_standing 42 = .ok (.iadd, 1) := by decide +kernel
theorem dX4_standing_43 : decode cX4_standing 43 = .ok (.istore_n 2, 1) := by decide +kernel
theorem dX4_standing_44 : decode cX4_standing 44 = .ok (.iinc 3 1, 3) := by decide +kernel
theorem dX4_standing_47 : decode cX4_standing 47 = .ok (.goto (-43), 3) := by decide +kernel
theorem dX4_standing_50 : decode cX4_standing 50 = .ok (.iload_n 2, 1) := by decide +kernel
theorem dX4_standing_51 : decode cX4_standing 51 = .ok (.ireturn, 1) := by decide +kernel
set_option maxRecDepth 20000 in
theorem ggX4_field_X4_isShelf : GoodIn wsX4_field wsX4_isShelf := goodIn_r _ [12, 13, 14, 15, 11, 16, 21, 22, 23, 24, 25, 26, 27, 28, 29, 30, 31, 32, 33, 34, 35, 36, 37, 38, 39, 40, 41, 42, 43, 44, 45, 46, 47, 48, 49, 50] (by decide +kernel) (by decide +kernel)
set_option maxRecDepth 20000 in
theorem gX4_field_X4_isShelf : GoodIn wsX4_field (wsV RX4 100 RX4 yX4_isShelf wsX4_isShelf) := goodIn_app (goodIn_of _ (by decide +kernel)) ggX4_field_X4_isShelf
set_option maxRecDepth 20000 in
theorem ggX4_field_X4_standing : GoodIn wsX4_field wsX4_standing := goodIn_r _ [20, 4, 5, 6, 21, 22, 23, 24, 25, 26, 27, 28, 29, 30, 31, 32, 33, 34, 35, 36, 37, 38, 39, 40, 41, 42, 43, 44, 45, 46, 47, 48, 49, 50] (by decide +kernel) (by decide +kernel)
set_option maxRecDepth 20000 in
theorem gX4_field_X4_standing : GoodIn wsX4_field (wsV RX4 155 RX4 yX4_standing wsX4_standing) := goodIn_app (goodIn_of _ (by decide +kernel)) ggX4_field_X4_standing
theorem dX4_field_0 : decode cX4_field 0 = .ok (.aload_n 0, 1) := by decide +kernel
theorem dX4_field_1 : decode cX4_field 1 = .ok (.iload_n 1, 1) := by decide +kernel
theorem dX4_field_2 : decode cX4_field 2 = .ok (.invokevirtual 100, 3) := by decide +kernel
theorem dX4_field_5 : decode cX4_field 5 = .ok (.ifCond .ne 5, 3) := by decide +kernel
theorem dX4_field_8 : decode cX4_field 8 = .ok (.iconst (-1), 1) := by decide +kernel
theorem dX4_field_9 : decode cX4_field 9 = .ok (.ireturn, 1) := by decide +kernel
theorem dX4_field_10 : decode cX4_field 10 = .ok (.iload_n 2, 1) := by decide +kernel
theorem dX4_field_11 : decode cX4_field 11 = .ok (.tableswitch 104 0 4 #[33, 40, 47, 53, 60], 33) := by decide +kernel
theorem dX4_field_44 : decode cX4_field 44 = .ok (.aload_n 0, 1) := by decide +kernel
theorem dX4_field_45 : decode cX4_field 45 = .ok (.getfield 26, 3) := by decide +kernel
theorem dX4_field_48 : decode cX4_field 48 = .ok (.iload_n 1, 1) := by decide +kernel
theorem dX4_field_49 : decode cX4_field 49 = .ok (.iaload, 1) := by decide +kernel
theorem dX4_field_50 : decode cX4_field 50 = .ok (.ireturn, 1) := by decide +kernel
theorem dX4_field_51 : decode cX4_field 51 = .ok (.aload_n 0, 1) := by decide +kernel
theorem dX4_field_52 : decode cX4_field 52 = .ok (.getfield 29, 3) := by decide +kernel
theorem dX4_field_55 : decode cX4_field 55 = .ok (.iload_n 1, 1) := by decide +kernel
theorem dX4_field_56 : decode cX4_field 56 = .ok (.iaload, 1) := by decide +kernel
theorem dX4_field_57 : decode cX4_field 57 = .ok (.ireturn, 1) := by decide +kernel
theorem dX4_field_58 : decode cX4_field 58 = .ok (.aload_n 0, 1) := by decide +kernel
theorem dX4_field_59 : decode cX4_field 59 = .ok (.iload_n 1, 1) := by decide +kernel
theorem dX4_field_60 : decode cX4_field 60 = .ok (.invokevirtual 155, 3) := by decide +kernel
theorem dX4_field_63 : decode cX4_field 63 = .ok (.ireturn, 1) := by decide +kernel
theorem dX4_field_64 : decode cX4_field 64 = .ok (.aload_n 0, 1) := by decide +kernel
theorem dX4_field_65 : decode cX4_field 65 = .ok (.getfield 32, 3) := by decide +kernel
theorem dX4_field_68 : decode cX4_field 68 = .ok (.iload_n 1, 1) := by decide +kernel
theorem dX4_field_69 : decode cX4_field 69 = .ok (.iaload, 1) := by decide +kernel
theorem dX4_field_70 : decode cX4_field 70 = .ok (.ireturn, 1) := by decide +kernel
theorem dX4_field_71 : decode cX4_field 71 = .ok (.iconst 0, 1) := by decide +kernel
theorem dX4_field_72 : decode cX4_field 72 = .ok (.istore_n 3, 1) := by decide +kernel
theorem dX4_field_73 : decode cX4_field 73 = .ok (.iload_n 3, 1) := by decide +kernel
theorem dX4_field_74 : decode cX4_field 74 = .ok (.aload_n 0, 1) := by decide +kernel
theorem dX4_field_75 : decode cX4_field 75 = .ok (.getfield 110, 3) := by decide +kernel
theorem dX4_field_78 : decode cX4_field 78 = .ok (.if_icmp .ge 35, 3) := by decide +kernel
theorem dX4_field_81 : decode cX4_field 81 = .ok (.aload_n 0, 1) := by decide +kernel
theorem dX4_field_82 : decode cX4_field 82 = .ok (.getfield 65, 3) := by decide +kernel
theorem dX4_field_85 : decode cX4_field 85 = .ok (.iload_n 3, 1) := by decide +kernel
theorem dX4_field_86 : decode cX4_field 86 = .ok (.iaload, 1) := by decide +kernel
theorem dX4_field_87 : decode cX4_field 87 = .ok (.ifCond .ne 20, 3) := by decide +kernel
theorem dX4_field_90 : decode cX4_field 90 = .ok (.aload_n 0, 1) := by decide +kernel
theorem dX4_field_91 : decode cX4_field 91 = .ok (.getfield 59, 3) := by decide +kernel
theorem dX4_field_94 : decode cX4_field 94 = .ok (.iload_n 3, 1) := by decide +kernel
theorem dX4_field_95 : decode cX4_field 95 = .ok (.iaload, 1) := by decide +kernel
theorem dX4_field_96 : decode cX4_field 96 = .ok (.iload_n 1, 1) := by decide +kernel
theorem dX4_field_97 : decode cX4_field 97 = .ok (.if_icmp .ne 10, 3) := by decide +kernel
theorem dX4_field_100 : decode cX4_field 100 = .ok (.aload_n 0, 1) := by decide +kernel
theorem dX4_field_101 : decode cX4_field 101 = .ok (.getfield 71, 3) := by decide +kernel
theorem dX4_field_104 : decode cX4_field 104 = .ok (.iload_n 3, 1) := by decide +kernel
theorem dX4_field_105 : decode cX4_field 105 = .ok (.iaload, 1) := by decide +kernel
theorem dX4_field_106 : decode cX4_field 106 = .ok (.ireturn, 1) := by decide +kernel
theorem dX4_field_107 : decode cX4_field 107 = .ok (.iinc 3 1, 3) := by decide +kernel
theorem dX4_field_110 : decode cX4_field 110 = .ok (.goto (-37), 3) := by decide +kernel
theorem dX4_field_113 : decode cX4_field 113 = .ok (.iconst (-1), 1) := by decide +kernel
theorem dX4_field_114 : decode cX4_field 114 = .ok (.ireturn, 1) := by decide +kernel
theorem dX4_field_115 : decode cX4_field 115 = .ok (.iconst (-1), 1) := by decide +kernel
theorem dX4_field_116 : decode cX4_field 116 = .ok (.ireturn, 1) := by decide +kernel
set_option maxRecDepth 20000 in
theorem ggX4_rate_X4_isShelf : GoodIn wsX4_rate wsX4_isShelf := goodIn_r _ [6, 7, 8, 9, 5, 10, 16, 17, 18, 19, 20, 21, 22, 23, 24, 25, 26, 27, 28, 29, 30, 31, 32, 33, 34, 35, 36, 37, 38, 39, 40, 41, 42, 43, 44, 45] (by decide +kernel) (by decide +kernel)
set_option maxRecDepth 20000 in
theorem gX4_rate_X4_isShelf : GoodIn wsX4_rate (wsV RX4 100 RX4 yX4_isShelf wsX4_isShelf) := goodIn_app (goodIn_of _ (by decide +kernel)) ggX4_rate_X4_isShelf
set_option maxRecDepth 20000 in
theorem ggX4_rate_X4_isKind : GoodIn wsX4_rate wsX4_isKind := goodIn_r _ [14, 15, 8, 9, 5, 10, 16, 17, 18, 19, 20, 21, 22, 23, 24, 25, 26, 27, 28, 29, 30, 31, 32, 33, 34, 35, 36, 37, 38, 39, 40, 41, 42, 43, 44, 45] (by decide +kernel) (by decide +kernel)
set_option maxRecDepth 20000 in
theorem gX4_rate_X4_isKind : GoodIn wsX4_rate (wsV RX4 96 RX4 yX4_isKind wsX4_isKind) := goodIn_app (goodIn_of _ (by decide +kernel)) ggX4_rate_X4_isKind
set_option maxRecDepth 20000 in
theorem ggX4_rate_X4_in : GoodIn wsX4_rate wsX4_in := goodIn_r _ [10] (by decide +kernel) (by decide +kernel)
set_option maxRecDepth 20000 in
theorem gX4_rate_X4_in : GoodIn wsX4_rate (va_wsS RX4 92 yX4_in wsX4_in) := goodIn_app (goodIn_of _ (by decide +kernel)) ggX4_rate_X4_in
theorem dX4_rate_0 : decode cX4_rate 0 = .ok (.aload_n 0, 1) := by decide +kernel
theorem dX4_rate_1 : decode cX4_rate 1 = .ok (.iload_n 1, 1) := by decide +kernel
theorem dX4_rate_2 : decode cX4_rate 2 = .ok (.invokevirtual 100, 3) := by decide +kernel
theorem dX4_rate_5 : decode cX4_rate 5 = .ok (.ifCond .eq 11, 3) := by decide +kernel
theorem dX4_rate_8 : decode cX4_rate 8 = .ok (.aload_n 0, 1) := by decide +kernel
theorem dX4_rate_9 : decode cX4_rate 9 = .ok (.iload_n 2, 1) := by decide +kernel
theorem dX4_rate_10 : decode cX4_rate 10 = .ok (.invokevirtual 96, 3) := by decide +kernel
theorem dX4_rate_13 : decode cX4_rate 13 = .ok (.ifCond .ne 5, 3) := by decide +kernel
theorem dX4_rate_16 : decode cX4_rate 16 = .ok (.iconst (-1), 1) := by decide +kernel
theorem dX4_rate_17 : decode cX4_rate 17 = .ok (.ireturn, 1) := by decide +kernel
theorem dX4_rate_18 : decode cX4_rate 18 = .ok (.iload_n 3, 1) := by decide +kernel
theorem dX4_rate_19 : decode cX4_rate 19 = .ok (.iconst 0, 1) := by decide +kernel
theorem dX4_rate_20 : decode cX4_rate 20 = .ok (.sipush 10000, 3) := by decide +kernel
theorem dX4_rate_23 : decode cX4_rate 23 = .ok (.invokestatic 92, 3) := by decide +kernel
theorem dX4_rate_26 : decode cX4_rate 26 = .ok (.ifCond .ne 6, 3) := by decide +kernel
theorem dX4_rate_29 : decode cX4_rate 29 = .ok (.bipush (-2), 2) := by decide +kernel
theorem dX4_rate_31 : decode cX4_rate 31 = .ok (.ireturn, 1) := by decide +kernel
theorem dX4_rate_32 : decode cX4_rate 32 = .ok (.aload_n 0, 1) := by decide +kernel
theorem dX4_rate_33 : decode cX4_rate 33 = .ok (.getfield 41, 3) := by decide +kernel
theorem dX4_rate_36 : decode cX4_rate 36 = .ok (.bipush 8, 2) := by decide +kernel
theorem dX4_rate_38 : decode cX4_rate 38 = .ok (.iload_n 1, 1) := by decide +kernel
theorem dX4_rate_39 : decode cX4_rate 39 = .ok (.imul, 1) := by decide +kernel
theorem dX4_rate_40 : decode cX4_rate 40 = .ok (.iload_n 2, 1) := by decide +kernel
theorem dX4_rate_41 : decode cX4_rate 41 = .ok (.iadd, 1) := by decide +kernel
theorem dX4_rate_42 : decode cX4_rate 42 = .ok (.iaload, 1) := by decide +kernel
theorem dX4_rate_43 : decode cX4_rate 43 = .ok (.istore 4, 2) := by decide +kernel
theorem dX4_rate_45 : decode cX4_rate 45 = .ok (.aload_n 0, 1) := by decide +kernel
theorem dX4_rate_46 : decode cX4_rate 46 = .ok (.getfield 41, 3) := by decide +kernel
theorem dX4_rate_49 : decode cX4_rate 49 = .ok (.bipush 8, 2) := by decide +kernel
theorem dX4_rate_51 : decode cX4_rate 51 = .ok (.iload_n 1, 1) := by decide +kernel
theorem dX4_rate_52 : decode cX4_rate 52 = .ok (.imul, 1) := by decide +kernel
theorem dX4_rate_53 : decode cX4_rate 53 = .ok (.iload_n 2, 1) := by decide +kernel
theorem dX4_rate_54 : decode cX4_rate 54 = .ok (.iadd, 1) := by decide +kernel
theorem dX4_rate_55 : decode cX4_rate 55 = .ok (.iload_n 3, 1) := by decide +kernel
theorem dX4_rate_56 : decode cX4_rate 56 = .ok (.iastore, 1) := by decide +kernel
theorem dX4_rate_57 : decode cX4_rate 57 = .ok (.iload 4, 2) := by decide +kernel
theorem dX4_rate_59 : decode cX4_rate 59 = .ok (.ireturn, 1) := by decide +kernel
set_option maxRecDepth 20000 in
theorem ggX4_flow_X4_flow : GoodIn wsX4_flow wsX4_flow := goodIn_r _ [0, 1, 2, 3, 4, 5, 6, 7, 8, 9, 10, 11, 12, 13, 14, 15, 16, 17, 18, 19, 20, 21, 22, 23, 24, 25, 26, 27, 28, 29, 30, 31, 32, 33, 34, 35, 36, 37, 38] (by decide +kernel) (by decide +kernel)
set_option maxRecDepth 20000 in
theorem gX4_flow_X4_flow : GoodIn wsX4_flow (wsV RX4 159 RX4 yX4_flow wsX4_flow) := goodIn_app (goodIn_of _ (by decide +kernel)) ggX4_flow_X4_flow
theorem dX4_flow_0 : decode cX4_flow 0 = .ok (.aload_n 0, 1) := by decide +kernel
theorem dX4_flow_1 : decode cX4_flow 1 = .ok (.getfield 41, 3) := by decide +kernel
theorem dX4_flow_4 : decode cX4_flow 4 = .ok (.bipush 8, 2) := by decide +kernel
theorem dX4_flow_6 : decode cX4_flow 6 = .ok (.iload_n 1, 1) := by decide +kernel
theorem dX4_flow_7 : decode cX4_flow 7 = .ok (.imul, 1) := by decide +kernel
theorem dX4_flow_8 : decode cX4_flow 8 = .ok (.iload_n 2, 1) := by decide +kernel
theorem dX4_flow_9 : decode cX4_flow 9 = .ok (.iadd, 1) := by decide +kernel
theorem dX4_flow_10 : decode cX4_flow 10 = .ok (.iaload, 1) := by decide +kernel
theorem dX4_flow_11 : decode cX4_flow 11 = .ok (.istore_n 3, 1) := by decide +kernel
theorem dX4_flow_12 : decode cX4_flow 12 = .ok (.iload_n 1, 1) := by decide +kernel
theorem dX4_flow_13 : decode cX4_flow 13 = .ok (.iconst 1, 1) := by decide +kernel
theorem dX4_flow_14 : decode cX4_flow 14 = .ok (.iadd, 1) := by decide +kernel
theorem dX4_flow_15 : decode cX4_flow 15 = .ok (.istore 4, 2) := by decide +kernel
theorem dX4_flow_17 : decode cX4_flow 17 = .ok (.iload 4, 2) := by decide +kernel
theorem dX4_flow_19 : decode cX4_flow 19 = .ok (.aload_n 0, 1) := by decide +kernel
theorem dX4_flow_20 : decode cX4_flow 20 = .ok (.getfield 23, 3) := by decide +kernel
theorem dX4_flow_23 : decode cX4_flow 23 = .ok (.if_icmp .ge 49, 3) := by decide +kernel
theorem dX4_flow_26 : decode cX4_flow 26 = .ok (.iload_n 3, 1) := by decide +kernel
theorem dX4_flow_27 : decode cX4_flow 27 = .ok (.aload_n 0, 1) := by decide +kernel
theorem dX4_flow_28 : decode cX4_flow 28 = .ok (.getfield 26, 3) := by decide +kernel
theorem dX4_flow_31 : decode cX4_flow 31 = .ok (.iload 4, 2) := by decide +kernel
theorem dX4_flow_33 : decode cX4_flow 33 = .ok (.iaload, 1) := by decide +kernel
theorem dX4_flow_34 : decode cX4_flow 34 = .ok (.iload_n 1, 1) := by decide +kernel
theorem dX4_flow_35 : decode cX4_flow 35 = .ok (.if_icmp .ne 28, 3) := by decide +kernel
theorem dX4_flow_38 : decode cX4_flow 38 = .ok (.aload_n 0, 1) := by decide +kernel
theorem dX4_flow_39 : decode cX4_flow 39 = .ok (.getfield 35, 3) := by decide +kernel
theorem dX4_flow_42 : decode cX4_flow 42 = .ok (.bipush 8, 2) := by decide +kernel
theorem dX4_flow_44 : decode cX4_flow 44 = .ok (.iload 4, 2) := by decide +kernel
theorem dX4_flow_46 : decode cX4_flow 46 = .ok (.imul, 1) := by decide +kernel
theorem dX4_flow_47 : decode cX4_flow 47 = .ok (.iload_n 2, 1) := by decide +kernel
theorem dX4_flow_48 : decode cX4_flow 48 = .ok (.iadd, 1) := by decide +kernel
theorem dX4_flow_49 : decode cX4_flow 49 = .ok (.iaload, 1) := by decide +kernel
theorem dX4_flow_50 : decode cX4_flow 50 = .ok (.ifCond .ne 13, 3) := by decide +kernel
theorem dX4_flow_53 : decode cX4_flow 53 = .ok (.aload_n 0, 1) := by decide +kernel
theorem dX4_flow_54 : decode cX4_flow 54 = .ok (.iload 4, 2) := by decide +kernel
theorem dX4_flow_56 : decode cX4_flow 56 = .ok (.iload_n 2, 1) := by decide +kernel
theorem dX4_flow_57 : decode cX4_flow 57 = .ok (.invokevirtual 159, 3) := by decide +kernel
theorem dX4_flow_60 : decode cX4_flow 60 = .ok (.goto 4, 3) := by decide +kernel
theorem dX4_flow_63 : decode cX4_flow 63 = .ok (.iconst 0, 1) := by decide +kernel
theorem dX4_flow_64 : decode cX4_flow 64 = .ok (.iadd, 1) := by decide +kernel
theorem dX4_flow_65 : decode cX4_flow 65 = .ok (.istore_n 3, 1) := by decide +kernel
theorem dX4_flow_66 : decode cX4_flow 66 = .ok (.iinc 4 1, 3) := by decide +kernel
theorem dX4_flow_69 : decode cX4_flow 69 = .ok (.goto (-52), 3) := by decide +kernel
theorem dX4_flow_72 : decode cX4_flow 72 = .ok (.iload_n 3, 1) := by decide +kernel
theorem dX4_flow_73 : decode cX4_flow 73 = .ok (.ireturn, 1) := by decide +kernel
set_option maxRecDepth 20000 in
theorem ggX4_pipeOf_X4_flow : GoodIn wsX4_pipeOf wsX4_flow := goodIn_r _ [7, 8, 9, 10, 1, 3, 4, 5, 6, 11, 12, 13, 14, 15, 16, 17, 18, 19, 20, 21, 22, 23, 24, 25, 26, 27, 28, 29, 30, 31, 32, 33, 34, 35, 36, 37, 38, 39, 40] (by decide +kernel) (by decide +kernel)
set_option maxRecDepth 20000 in
theorem gX4_pipeOf_X4_flow : GoodIn wsX4_pipeOf (wsV RX4 159 RX4 yX4_flow wsX4_flow) := goodIn_app (goodIn_of _ (by decide +kernel)) ggX4_pipeOf_X4_flow
theorem dX4_pipeOf_0 : decode cX4_pipeOf 0 = .ok (.aload_n 0, 1) := by decide +kernel
theorem dX4_pipeOf_1 : decode cX4_pipeOf 1 = .ok (.iload_n 1, 1) := by decide +kernel
theorem dX4_pipeOf_2 : decode cX4_pipeOf 2 = .ok (.iload_n 2, 1) := by decide +kernel
theorem dX4_pipeOf_3 : decode cX4_pipeOf 3 = .ok (.invokevirtual 159, 3) := by decide +kernel
theorem dX4_pipeOf_6 : decode cX4_pipeOf 6 = .ok (.aload_n 0, 1) := by decide +kernel
theorem dX4_pipeOf_7 : decode cX4_pipeOf 7 = .ok (.getfield 35, 3) := by decide +kernel
theorem dX4_pipeOf_10 : decode cX4_pipeOf 10 = .ok (.bipush 8, 2) := by decide +kernel
theorem dX4_pipeOf_12 : decode cX4_pipeOf 12 = .ok (.iload_n 1, 1) := by decide +kernel
theorem dX4_pipeOf_13 : decode cX4_pipeOf 13 = .ok (.imul, 1) := by decide +kernel
theorem dX4_pipeOf_14 : decode cX4_pipeOf 14 = .ok (.iload_n 2, 1) := by decide +kernel
theorem dX4_pipeOf_15 : decode cX4_pipeOf 15 = .ok (.iadd, 1) := by decide +kernel
theorem dX4_pipeOf_16 : decode cX4_pipeOf 16 = .ok (.iaload, 1) := by decide +kernel
theorem dX4_pipeOf_17 : decode cX4_pipeOf 17 = .ok (.ifCond .le 17, 3) := by decide +kernel
theorem dX4_pipeOf_20 : decode cX4_pipeOf 20 = .ok (.aload_n 0, 1) := by decide +kernel
theorem dX4_pipeOf_21 : decode cX4_pipeOf 21 = .ok (.getfield 35, 3) := by decide +kernel
theorem dX4_pipeOf_24 : decode cX4_pipeOf 24 = .ok (.bipush 8, 2) := by decide +kernel
theorem dX4_pipeOf_26 : decode cX4_pipeOf 26 = .ok (.iload_n 1, 1) := by decide +kernel
theorem dX4_pipeOf_27 : decode cX4_pipeOf 27 = .ok (.imul, 1) := by decide +kernel
theorem dX4_pipeOf_28 : decode cX4_pipeOf 28 = .ok (.iload_n 2, 1) := by decide +kernel
theorem dX4_pipeOf_29 : decode cX4_pipeOf 29 = .ok (.iadd, 1) := by decide +kernel
theorem dX4_pipeOf_30 : decode cX4_pipeOf 30 = .ok (.iaload, 1) := by decide +kernel
theorem dX4_pipeOf_31 : decode cX4_pipeOf 31 = .ok (.goto 9, 3) := by decide +kernel
theorem dX4_pipeOf_34 : decode cX4_pipeOf 34 = .ok (.aload_n 0, 1) := by decide +kernel
theorem dX4_pipeOf_35 : decode cX4_pipeOf 35 = .ok (.getfield 29, 3) := by decide +kernel
theorem dX4_pipeOf_38 : decode cX4_pipeOf 38 = .ok (.iload_n 1, 1) := by decide +kernel
theorem dX4_pipeOf_39 : decode cX4_pipeOf 39 = .ok (.iaload, 1) := by decide +kernel
theorem dX4_pipeOf_40 : decode cX4_pipeOf 40 = .ok (.imul, 1) := by decide +kernel
theorem dX4_pipeOf_41 : decode cX4_pipeOf 41 = .ok (.ireturn, 1) := by decide +kernel
set_option maxRecDepth 20000 in
theorem ggX4_want_X4_pipeOf : GoodIn wsX4_want wsX4_pipeOf := goodIn_r _ [6, 7, 8, 9, 10, 11, 5, 12, 13, 14, 15, 16, 17, 18, 19, 20, 21, 22, 23, 24, 25, 26, 27, 28, 29, 30, 31, 32, 33, 34, 35, 36, 37, 38, 39, 40, 41, 42, 43, 44, 45] (by decide +kernel) (by decide +kernel)
set_option maxRecDepth 20000 in
theorem gX4_want_X4_pipeOf : GoodIn wsX4_want (wsV RX4 162 RX4 yX4_pipeOf wsX4_pipeOf) := goodIn_app (goodIn_of _ (by decide +kernel)) ggX4_want_X4_pipeOf
theorem dX4_want_0 : decode cX4_want 0 = .ok (.aload_n 0, 1) := by decide +kernel
theorem dX4_want_1 : decode cX4_want 1 = .ok (.iload_n 1, 1) := by decide +kernel
theorem dX4_want_2 : decode cX4_want 2 = .ok (.iload_n 2, 1) := by decide +kernel
theorem dX4_want_3 : decode cX4_want 3 = .ok (.invokevirtual 162, 3) := by decide +kernel
theorem dX4_want_6 : decode cX4_want 6 = .ok (.sipush 1000, 3) := by decide +kernel
theorem dX4_want_9 : decode cX4_want 9 = .ok (.aload_n 0, 1) := by decide +kernel
theorem dX4_want_10 : decode cX4_want 10 = .ok (.getfield 38, 3) := by decide +kernel
theorem dX4_want_13 : decode cX4_want 13 = .ok (.bipush 8, 2) := by decide +kernel
theorem dX4_want_15 : decode cX4_want 15 = .ok (.iload_n 1, 1) := by decide +kernel
theorem dX4_want_16 : decode cX4_want 16 = .ok (.imul, 1) := by decide +kernel
theorem dX4_want_17 : decode cX4_want 17 = .ok (.iload_n 2, 1) := by decide +kernel
theorem dX4_want_18 : decode cX4_want 18 = .ok (.iadd, 1) := by decide +kernel
theorem dX4_want_19 : decode cX4_want 19 = .ok (.iaload, 1) := by decide +kernel
theorem dX4_want_20 : decode cX4_want 20 = .ok (.imul, 1) := by decide +kernel
theorem dX4_want_21 : decode cX4_want 21 = .ok (.isub, 1) := by decide +kernel
theorem dX4_want_22 : decode cX4_want 22 = .ok (.istore_n 3, 1) := by decide +kernel
theorem dX4_want_23 : decode cX4_want 23 = .ok (.iload_n 3, 1) := by decide +kernel
theorem dX4_want_24 : decode cX4_want 24 = .ok (.ifCond .le 7, 3) := by decide +kernel
theorem dX4_want_27 : decode cX4_want 27 = .ok (.iload_n 3, 1) := by decide +kernel
theorem dX4_want_28 : decode cX4_want 28 = .ok (.goto 4, 3) := by decide +kernel
theorem dX4_want_31 : decode cX4_want 31 = .ok (.iconst 0, 1) := by decide +kernel
theorem dX4_want_32 : decode cX4_want 32 = .ok (.ireturn, 1) := by decide +kernel
set_option maxRecDepth 20000 in
theorem ggX4_pipe_X4_isShelf : GoodIn wsX4_pipe wsX4_isShelf := goodIn_r _ [6, 7, 8, 9, 5, 10, 32, 33, 34, 35, 36, 37, 38, 39, 40, 41, 42, 43, 44, 45, 46, 47, 48, 49, 50, 51, 52, 53, 54, 55, 56, 57, 58, 59, 60, 61] (by decide +kernel) (by decide +kernel)
set_option maxRecDepth 20000 in
theorem gX4_pipe_X4_isShelf : GoodIn wsX4_pipe (wsV RX4 100 RX4 yX4_isShelf wsX4_isShelf) := goodIn_app (goodIn_of _ (by decide +kernel)) ggX4_pipe_X4_isShelf
set_option maxRecDepth 20000 in
theorem ggX4_pipe_X4_isKind : GoodIn wsX4_pipe wsX4_isKind := goodIn_r _ [14, 15, 8, 9, 5, 10, 32, 33, 34, 35, 36, 37, 38, 39, 40, 41, 42, 43, 44, 45, 46, 47, 48, 49, 50, 51, 52, 53, 54, 55, 56, 57, 58, 59, 60, 61] (by decide +kernel) (by decide +kernel)
set_option maxRecDepth 20000 in
theorem gX4_pipe_X4_isKind : GoodIn wsX4_pipe (wsV RX4 96 RX4 yX4_isKind wsX4_isKind) := goodIn_app (goodIn_of _ (by decide +kernel)) ggX4_pipe_X4_isKind
set_option maxRecDepth 20000 in
theorem ggX4_pipe_X4_flow : GoodIn wsX4_pipe wsX4_flow := goodIn_r _ [19, 1, 7, 20, 21, 16, 17, 18, 5, 32, 33, 34, 35, 36, 37, 38, 39, 40, 41, 42, 43, 44, 45, 46, 47, 48, 49, 50, 51, 52, 53, 54, 55, 56, 57, 58, 59, 60, 61] (by decide +kernel) (by decide +kernel)
set_option maxRecDepth 20000 in
theorem gX4_pipe_X4_flow : GoodIn wsX4_pipe (wsV RX4 159 RX4 yX4_flow wsX4_flow) := goodIn_app (goodIn_of _ (by decide +kernel)) ggX4_pipe_X4_flow
set_option maxRecDepth 20000 in
theorem ggX4_pipe_X4_pipeOf : GoodIn wsX4_pipe wsX4_pipeOf := goodIn_r _ [25, 21, 26, 16, 17, 18, 5, 19, 1, 7, 20, 32, 33, 34, 35, 36, 37, 38, 39, 40, 41, 42, 43, 44, 45, 46, 47, 48, 49, 50, 51, 52, 53, 54, 55, 56, 57, 58, 59, 60, 61] (by decide +kernel) (by decide +kernel)
set_option maxRecDepth 20000 in
theorem gX4_pipe_X4_pipeOf : GoodIn wsX4_pipe (wsV RX4 162 RX4 yX4_pipeOf wsX4_pipeOf) := goodIn_app (goodIn_of _ (by decide +kernel)) ggX4_pipe_X4_pipeOf
set_option maxRecDepth 20000 in
theorem ggX4_pipe_X4_want : GoodIn wsX4_pipe wsX4_want := goodIn_r _ [30, 31, 22, 23, 24, 5, 25, 21, 26, 16, 17, 18, 19, 1, 7, 20, 32, 33, 34, 35, 36, 37, 38, 39, 40, 41, 42, 43, 44, 45, 46, 47, 48, 49, 50, 51, 52, 53, 54, 55, 56, 57, 58, 59, 60, 61] (by decide +kernel) (by decide +kernel)
set_option maxRecDepth 20000 in
theorem gX4_pipe_X4_want : GoodIn wsX4_pipe (wsV RX4 165 RX4 yX4_want wsX4_want) := goodIn_app (goodIn_of _ (by decide +kernel)) ggX4_pipe_X4_want
theorem dX4_pipe_0 : decode cX4_pipe 0 = .ok (.aload_n 0, 1) := by decide +kernel
theorem dX4_pipe_1 : decode cX4_pipe 1 = .ok (.iload_n 1, 1) := by decide +kernel
theorem dX4_pipe_2 : decode cX4_pipe 2 = .ok (.invokevirtual 100, 3) := by decide +kernel
theorem dX4_pipe_5 : decode cX4_pipe 5 = .ok (.ifCond .eq 11, 3) := by decide +kernel
theorem dX4_pipe_8 : decode cX4_pipe 8 = .ok (.aload_n 0, 1) := by decide +kernel
theorem dX4_pipe_9 : decode cX4_pipe 9 = .ok (.iload_n 2, 1) := by decide +kernel
theorem dX4_pipe_10 : decode cX4_pipe 10 = .ok (.invokevirtual 96, 3) := by decide +kernel
theorem dX4_pipe_13 : decode cX4_pipe 13 = .ok (.ifCond .ne 5, 3) := by decide +kernel
theorem dX4_pipe_16 : decode cX4_pipe 16 = .ok (.iconst (-1), 1) := by decide +kernel
theorem dX4_pipe_17 : decode cX4_pipe 17 = .ok (.ireturn, 1) := by decide +kernel
theorem dX4_pipe_18 : decode cX4_pipe 18 = .ok (.iload_n 3, 1) := by decide +kernel
theorem dX4_pipe_19 : decode cX4_pipe 19 = .ok (.tableswitch 62 0 3 #[29, 36, 43, 50], 29) := by decide +kernel
theorem dX4_pipe_48 : decode cX4_pipe 48 = .ok (.aload_n 0, 1) := by decide +kernel
theorem dX4_pipe_49 : decode cX4_pipe 49 = .ok (.iload_n 1, 1) := by decide +kernel
theorem dX4_pipe_50 : decode cX4_pipe 50 = .ok (.iload_n 2, 1) := by decide +kernel
theorem dX4_pipe_51 : decode cX4_pipe 51 = .ok (.invokevirtual 159, 3) := by decide +kernel
theorem dX4_pipe_54 : decode cX4_pipe 54 = .ok (.ireturn, 1) := by decide +kernel
theorem dX4_pipe_55 : decode cX4_pipe 55 = .ok (.aload_n 0, 1) := by decide +kernel
theorem dX4_pipe_56 : decode cX4_pipe 56 = .ok (.iload_n 1, 1) := by decide +kernel
theorem dX4_pipe_57 : decode cX4_pipe 57 = .ok (.iload_n 2, 1) := by decide +kernel
theorem dX4_pipe_58 : decode cX4_pipe 58 = .ok (.invokevirtual 162, 3) := by decide +kernel
theorem dX4_pipe_61 : decode cX4_pipe 61 = .ok (.ireturn, 1) := by decide +kernel
theorem dX4_pipe_62 : decode cX4_pipe 62 = .ok (.aload_n 0, 1) := by decide +kernel
theorem dX4_pipe_63 : decode cX4_pipe 63 = .ok (.iload_n 1, 1) := by decide +kernel
theorem dX4_pipe_64 : decode cX4_pipe 64 = .ok (.iload_n 2, 1) := by decide +kernel
theorem dX4_pipe_65 : decode cX4_pipe 65 = .ok (.invokevirtual 165, 3) := by decide +kernel
theorem dX4_pipe_68 : decode cX4_pipe 68 = .ok (.ireturn, 1) := by decide +kernel
theorem dX4_pipe_69 : decode cX4_pipe 69 = .ok (.aload_n 0, 1) := by decide +kernel
theorem dX4_pipe_70 : decode cX4_pipe 70 = .ok (.getfield 41, 3) := by decide +kernel
theorem dX4_pipe_73 : decode cX4_pipe 73 = .ok (.bipush 8, 2) := by decide +kernel
theorem dX4_pipe_75 : decode cX4_pipe 75 = .ok (.iload_n 1, 1) := by decide +kernel
theorem dX4_pipe_76 : decode cX4_pipe 76 = .ok (.imul, 1) := by decide +kernel
theorem dX4_pipe_77 : decode cX4_pipe 77 = .ok (.iload_n 2, 1) := by decide +kernel
theorem dX4_pipe_78 : decode cX4_pipe 78 = .ok (.iadd, 1) := by decide +kernel
theorem dX4_pipe_79 : decode cX4_pipe 79 = .ok (.iaload, 1) := by decide +kernel
theorem dX4_pipe_80 : decode cX4_pipe 80 = .ok (.ireturn, 1) := by decide +kernel
theorem dX4_pipe_81 : decode cX4_pipe 81 = .ok (.iconst (-1), 1) := by decide +kernel
theorem dX4_pipe_82 : decode cX4_pipe 82 = .ok (.ireturn, 1) := by decide +kernel
set_option maxRecDepth 20000 in
theorem ggX4_choose_X4_want : GoodIn wsX4_choose wsX4_want := goodIn_r _ [9, 10, 11, 12, 13, 8, 14, 15, 16, 17, 18, 19, 20, 21, 1, 22, 72, 73, 74, 75, 76, 77, 78, 79, 80, 81, 82, 83, 84, 85, 86, 87, 88, 89, 90, 91, 92, 93, 94, 95, 96, 97, 98, 99, 100, 101] (by decide +kernel) (by decide +kernel)
set_option maxRecDepth 20000 in
theorem gX4_choose_X4_want : GoodIn wsX4_choose (wsV RX4 165 RX4 yX4_want wsX4_want) := goodIn_app (goodIn_of _ (by decide +kernel)) ggX4_choose_X4_want
set_option maxRecDepth 20000 in
theorem ggX4_choose_X4_lands : GoodIn wsX4_choose wsX4_lands := goodIn_r _ [26, 27, 28, 29, 10, 30, 31, 32, 33, 34, 35, 8, 36, 37, 16, 38, 39, 15, 40, 41, 42, 43, 44, 45, 46, 47, 48, 49, 50, 51, 52, 53, 54, 55, 56, 57, 22, 58, 59, 60, 61, 62, 63, 64, 65, 66, 67, 68, 69, 70, 71, 72, 73, 74, 75, 76, 77, 78, 79, 80, 81, 82, 83, 84, 85, 86, 87, 88, 89, 90, 91, 92, 93, 94, 95, 96, 97, 98, 99, 100, 101] (by decide +kernel) (by decide +kernel)
set_option maxRecDepth 20000 in
theorem gX4_choose_X4_lands : GoodIn wsX4_choose (wsV RX4 140 RX4 yX4_lands wsX4_lands) := goodIn_app (goodIn_of _ (by decide +kernel)) ggX4_choose_X4_lands
theorem dX4_choose_0 : decode cX4_choose 0 = .ok (.iconst (-1), 1) := by decide +kernel
theorem dX4_choose_1 : decode cX4_choose 1 = .ok (.istore_n 1, 1) := by decide +kernel
theorem dX4_choose_2 : decode cX4_choose 2 = .ok (.iconst 0, 1) := by decide +kernel
theorem dX4_choose_3 : decode cX4_choose 3 = .ok (.istore_n 2, 1) := by decide +kernel
theorem dX4_choose_4 : decode cX4_choose 4 = .ok (.iload_n 2, 1) := by decide +kernel
theorem dX4_choose_5 : decode cX4_choose 5 = .ok (.bipush 8, 2) := by decide +kernel
theorem dX4_choose_7 : decode cX4_choose 7 = .ok (.aload_n 0, 1) := by decide +kernel
theorem dX4_choose_8 : decode cX4_choose 8 = .ok (.getfield 23, 3) := by decide +kernel
theorem dX4_choose_11 : decode cX4_choose 11 = .ok (.imul, 1) := by decide +kernel
theorem dX4_choose_12 : decode cX4_choose 12 = .ok (.if_icmp .ge 100, 3) := by decide +kernel
theorem dX4_choose_15 : decode cX4_choose 15 = .ok (.iload_n 2, 1) := by decide +kernel
theorem dX4_choose_16 : decode cX4_choose 16 = .ok (.bipush 8, 2) := by decide +kernel
theorem dX4_choose_18 : decode cX4_choose 18 = .ok (.irem, 1) := by decide +kernel
theorem dX4_choose_19 : decode cX4_choose 19 = .ok (.aload_n 0, 1) := by decide +kernel
theorem dX4_choose_20 : decode cX4_choose 20 = .ok (.getfield 89, 3) := by decide +kernel
theorem dX4_choose_23 : decode cX4_choose 23 = .ok (.if_icmp .ge 83, 3) := by decide +kernel
theorem dX4_choose_26 : decode cX4_choose 26 = .ok (.aload_n 0, 1) := by decide +kernel
theorem dX4_choose_27 : decode cX4_choose 27 = .ok (.iload_n 2, 1) := by decide +kernel
theorem dX4_choose_28 : decode cX4_choose 28 = .ok (.bipush 8, 2) := by decide +kernel
theorem dX4_choose_30 : decode cX4_choose 30 = .ok (.idiv, 1) := by decide +kernel
theorem dX4_choose_31 : decode cX4_choose 31 = .ok (.iload_n 2, 1) := by decide +kernel
theorem dX4_choose_32 : decode cX4_choose 32 = .ok (.bipush 8, 2) := by decide +kernel
theorem dX4_choose_34 : decode cX4_choose 34 = .ok (.irem, 1) := by decide +kernel
theorem dX4_choose_35 : decode cX4_choose 35 = .ok (.invokevirtual 165, 3) := by decide +kernel
theorem dX4_choose_38 : decode cX4_choose 38 = .ok (.ifCond .ne 6, 3) := by decide +kernel
theorem dX4_choose_41 : decode cX4_choose 41 = .ok (.goto 65, 3) := by decide +kernel
theorem dX4_choose_44 : decode cX4_choose 44 = .ok (.iload_n 1, 1) := by decide +kernel
theorem dX4_choose_45 : decode cX4_choose 45 = .ok (.iconst (-1), 1) := by decide +kernel
theorem dX4_choose_46 : decode cX4_choose 46 = .ok (.if_icmp .eq 58, 3) := by decide +kernel
theorem dX4_choose_49 : decode cX4_choose 49 = .ok (.aload_n 0, 1) := by decide +kernel
theorem dX4_choose_50 : decode cX4_choose 50 = .ok (.iload_n 2, 1) := by decide +kernel
theorem dX4_choose_51 : decode cX4_choose 51 = .ok (.bipush 8, 2) := by decide +kernel
theorem dX4_choose_53 : decode cX4_choose 53 = .ok (.idiv, 1) := by decide +kernel
theorem dX4_choose_54 : decode cX4_choose 54 = .ok (.iload_n 2, 1) := by decide +kernel
theorem dX4_choose_55 : decode cX4_choose 55 = .ok (.bipush 8, 2) := by decide +kernel
theorem dX4_choose_57 : decode cX4_choose 57 = .ok (.irem, 1) := by decide +kernel
theorem dX4_choose_58 : decode cX4_choose 58 = .ok (.invokevirtual 165, 3) := by decide +kernel
theorem dX4_choose_61 : decode cX4_choose 61 = .ok (.i2l, 1) := by decide +kernel
theorem dX4_choose_62 : decode cX4_choose 62 = .ok (.aload_n 0, 1) := by decide +kernel
theorem dX4_choose_63 : decode cX4_choose 63 = .ok (.getfield 13, 3) := by decide +kernel
theorem dX4_choose_66 : decode cX4_choose 66 = .ok (.iload_n 1, 1) := by decide +kernel
theorem dX4_choose_67 : decode cX4_choose 67 = .ok (.bipush 8, 2) := by decide +kernel
theorem dX4_choose_69 : decode cX4_choose 69 = .ok (.irem, 1) := by decide +kernel
theorem dX4_choose_70 : decode cX4_choose 70 = .ok (.iaload, 1) := by decide +kernel
theorem dX4_choose_71 : decode cX4_choose 71 = .ok (.i2l, 1) := by decide +kernel
theorem dX4_choose_72 : decode cX4_choose 72 = .ok (.lmul, 1) := by decide +kernel
theorem dX4_choose_73 : decode cX4_choose 73 = .ok (.aload_n 0, 1) := by decide +kernel
theorem dX4_choose_74 : decode cX4_choose 74 = .ok (.iload_n 1, 1) := by decide +kernel
theorem dX4_choose_75 : decode cX4_choose 75 = .ok (.bipush 8, 2) := by decide +kernel
theorem dX4_choose_77 : decode cX4_choose 77 = .ok (.idiv, 1) := by decide +kernel
theorem dX4_choose_78 : decode cX4_choose 78 = .ok (.iload_n 1, 1) := by decide +kernel
theorem dX4_choose_79 : decode cX4_choose 79 = .ok (.bipush 8, 2) := by decide +kernel
theorem dX4_choose_81 : decode cX4_choose 81 = .ok (.irem, 1) := by decide +kernel
theorem dX4_choose_82 : decode cX4_choose 82 = .ok (.invokevirtual 165, 3) := by decide +kernel
theorem dX4_choose_85 : decode cX4_choose 85 = .ok (.i2l, 1) := by decide +kernel
theorem dX4_choose_86 : decode cX4_choose 86 = .ok (.aload_n 0, 1) := by decide +kernel
theorem dX4_choose_87 : decode cX4_choose 87 = .ok (.getfield 13, 3) := by decide +kernel
theorem dX4_choose_90 : decode cX4_choose 90 = .ok (.iload_n 2, 1) := by decide +kernel
theorem dX4_choose_91 : decode cX4_choose 91 = .ok (.bipush 8, 2) := by decide +kernel
theorem dX4_choose_93 : decode cX4_choose 93 = .ok (.irem, 1) := by decide +kernel
theorem dX4_choose_94 : decode cX4_choose 94 = .ok (.iaload, 1) := by decide +kernel
theorem dX4_choose_95 : decode cX4_choose 95 = .ok (.i2l, 1) := by decide +kernel
theorem dX4_choose_96 : decode cX4_choose 96 = .ok (.lmul, 1) := by decide +kernel
theorem dX4_choose_97 : decode cX4_choose 97 = .ok (.lcmp, 1) := by decide +kernel
theorem dX4_choose_98 : decode cX4_choose 98 = .ok (.ifCond .gt 6, 3) := by decide +kernel
theorem dX4_choose_101 : decode cX4_choose 101 = .ok (.goto 5, 3) := by decide +kernel
theorem dX4_choose_104 : decode cX4_choose 104 = .ok (.iload_n 2, 1) := by decide +kernel
theorem dX4_choose_105 : decode cX4_choose 105 = .ok (.istore_n 1, 1) := by decide +kernel
theorem dX4_choose_106 : decode cX4_choose 106 = .ok (.iinc 2 1, 3) := by decide +kernel
theorem dX4_choose_109 : decode cX4_choose 109 = .ok (.goto (-105), 3) := by decide +kernel
theorem dX4_choose_112 : decode cX4_choose 112 = .ok (.iload_n 1, 1) := by decide +kernel
theorem dX4_choose_113 : decode cX4_choose 113 = .ok (.iconst (-1), 1) := by decide +kernel
theorem dX4_choose_114 : decode cX4_choose 114 = .ok (.if_icmp .ne 5, 3) := by decide +kernel
theorem dX4_choose_117 : decode cX4_choose 117 = .ok (.iconst (-1), 1) := by decide +kernel
theorem dX4_choose_118 : decode cX4_choose 118 = .ok (.ireturn, 1) := by decide +kernel
theorem dX4_choose_119 : decode cX4_choose 119 = .ok (.aload_n 0, 1) := by decide +kernel
theorem dX4_choose_120 : decode cX4_choose 120 = .ok (.getfield 44, 3) := by decide +kernel
theorem dX4_choose_123 : decode cX4_choose 123 = .ok (.iload_n 1, 1) := by decide +kernel
theorem dX4_choose_124 : decode cX4_choose 124 = .ok (.bipush 8, 2) := by decide +kernel
theorem dX4_choose_126 : decode cX4_choose 126 = .ok (.irem, 1) := by decide +kernel
theorem dX4_choose_127 : decode cX4_choose 127 = .ok (.iaload, 1) := by decide +kernel
theorem dX4_choose_128 : decode cX4_choose 128 = .ok (.sipush 200, 3) := by decide +kernel
theorem dX4_choose_131 : decode cX4_choose 131 = .ok (.if_icmp .lt 6, 3) := by decide +kernel
theorem dX4_choose_134 : decode cX4_choose 134 = .ok (.bipush (-4), 2) := by decide +kernel
theorem dX4_choose_136 : decode cX4_choose 136 = .ok (.ireturn, 1) := by decide +kernel
theorem dX4_choose_137 : decode cX4_choose 137 = .ok (.aload_n 0, 1) := by decide +kernel
theorem dX4_choose_138 : decode cX4_choose 138 = .ok (.getfield 44, 3) := by decide +kernel
theorem dX4_choose_141 : decode cX4_choose 141 = .ok (.iload_n 1, 1) := by decide +kernel
theorem dX4_choose_142 : decode cX4_choose 142 = .ok (.bipush 8, 2) := by decide +kernel
theorem dX4_choose_144 : decode cX4_choose 144 = .ok (.irem, 1) := by decide +kernel
theorem dX4_choose_145 : decode cX4_choose 145 = .ok (.dup2, 1) := by decide +kernel
theorem dX4_choose_146 : decode cX4_choose 146 = .ok (.iaload, 1) := by decide +kernel
theorem dX4_choose_147 : decode cX4_choose 147 = .ok (.iconst 1, 1) := by decide +kernel
theorem dX4_choose_148 : decode cX4_choose 148 = .ok (.iadd, 1) := by decide +kernel
theorem dX4_choose_149 : decode cX4_choose 149 = .ok (.iastore, 1) := by decide +kernel
theorem dX4_choose_150 : decode cX4_choose 150 = .ok (.aload_n 0, 1) := by decide +kernel
theorem dX4_choose_151 : decode cX4_choose 151 = .ok (.iload_n 1, 1) := by decide +kernel
theorem dX4_choose_152 : decode cX4_choose 152 = .ok (.bipush 8, 2) := by decide +kernel
theorem dX4_choose_154 : decode cX4_choose 154 = .ok (.idiv, 1) := by decide +kernel
theorem dX4_choose_155 : decode cX4_choose 155 = .ok (.iload_n 1, 1) := by decide +kernel
theorem dX4_choose_156 : decode cX4_choose 156 = .ok (.bipush 8, 2) := by decide +kernel
theorem dX4_choose_158 : decode cX4_choose 158 = .ok (.irem, 1) := by decide +kernel
theorem dX4_choose_159 : decode cX4_choose 159 = .ok (.invokevirtual 140, 3) := by decide +kernel
theorem dX4_choose_162 : decode cX4_choose 162 = .ok (.iload_n 1, 1) := by decide +kernel
theorem dX4_choose_163 : decode cX4_choose 163 = .ok (.ireturn, 1) := by decide +kernel
theorem dX4_worth_0 : decode cX4_worth 0 = .ok (.iconst 0, 1) := by decide +kernel
theorem dX4_worth_1 : decode cX4_worth 1 = .ok (.istore_n 1, 1) := by decide +kernel
theorem dX4_worth_2 : decode cX4_worth 2 = .ok (.iconst 0, 1) := by decide +kernel
theorem dX4_worth_3 : decode cX4_worth 3 = .ok (.istore_n 2, 1) := by decide +kernel
theorem dX4_worth_4 : decode cX4_worth 4 = .ok (.iload_n 2, 1) := by decide +kernel
theorem dX4_worth_5 : decode cX4_worth 5 = .ok (.aload_n 0, 1) := by decide +kernel
theorem dX4_worth_6 : decode cX4_worth 6 = .ok (.getfield 89, 3) := by decide +kernel
theorem dX4_worth_9 : decode cX4_worth 9 = .ok (.if_icmp .ge 32, 3) := by decide +kernel
theorem dX4_worth_12 : decode cX4_worth 12 = .ok (.iload_n 1, 1) := by decide +kernel
theorem dX4_worth_13 : decode cX4_worth 13 = .ok (.aload_n 0, 1) := by decide +kernel
theorem dX4_worth_14 : decode cX4_worth 14 = .ok (.getfield 13, 3) := by decide +kernel
theorem dX4_worth_17 : decode cX4_worth 17 = .ok (.iload_n 2, 1) := by decide +kernel
theorem dX4_worth_18 : decode cX4_worth 18 = .ok (.iaload, 1) := by decide +kernel
theorem dX4_worth_19 : decode cX4_worth 19 = .ok (.aload_n 0, 1) := by decide +kernel
theorem dX4_worth_20 : decode cX4_worth 20 = .ok (.getfield 44, 3) := by decide +kernel
theorem dX4_worth_23 : decode cX4_worth 23 = .ok (.iload_n 2, 1) := by decide +kernel
theorem dX4_worth_24 : decode cX4_worth 24 = .ok (.iaload, 1) := by decide +kernel
theorem dX4_worth_25 : decode cX4_worth 25 = .ok (.aload_n 0, 1) := by decide +kernel
theorem dX4_worth_26 : decode cX4_worth 26 = .ok (.getfield 47, 3) := by decide +kernel
theorem dX4_worth_29 : decode cX4_worth 29 = .ok (.iload_n 2, 1) := by decide +kernel
theorem dX4_worth_30 : decode cX4_worth 30 = .ok (.iaload, 1) := by decide +kernel
theorem dX4_worth_31 : decode cX4_worth 31 = .ok (.isub, 1) := by decide +kernel
theorem dX4_worth_32 : decode cX4_worth 32 = .ok (.imul, 1) := by decide +kernel
theorem dX4_worth_33 : decode cX4_worth 33 = .ok (.iadd, 1) := by decide +kernel
theorem dX4_worth_34 : decode cX4_worth 34 = .ok (.istore_n 1, 1) := by decide +kernel
theorem dX4_worth_35 : decode cX4_worth 35 = .ok (.iinc 2 1, 3) := by decide +kernel
theorem dX4_worth_38 : decode cX4_worth 38 = .ok (.goto (-34), 3) := by decide +kernel
theorem dX4_worth_41 : decode cX4_worth 41 = .ok (.iload_n 1, 1) := by decide +kernel
theorem dX4_worth_42 : decode cX4_worth 42 = .ok (.ireturn, 1) := by decide +kernel
set_option maxRecDepth 20000 in
theorem ggX4_count_X4_standing : GoodIn wsX4_count wsX4_standing := goodIn_r _ [11, 4, 12, 13, 14, 15, 16, 17, 18, 19, 20, 21, 22, 23, 24, 25, 26, 27, 28, 29, 30, 31, 32, 33, 34, 35, 36, 37, 38, 39, 40, 41, 42, 43] (by decide +kernel) (by decide +kernel)
set_option maxRecDepth 20000 in
theorem gX4_count_X4_standing : GoodIn wsX4_count (wsV RX4 155 RX4 yX4_standing wsX4_standing) := goodIn_app (goodIn_of _ (by decide +kernel)) ggX4_count_X4_standing
theorem dX4_count_0 : decode cX4_count 0 = .ok (.iconst 0, 1) := by decide +kernel
theorem dX4_count_1 : decode cX4_count 1 = .ok (.istore_n 2, 1) := by decide +kernel
theorem dX4_count_2 : decode cX4_count 2 = .ok (.iload_n 1, 1) := by decide +kernel
theorem dX4_count_3 : decode cX4_count 3 = .ok (.tableswitch 99 0 6 #[41, 46, 51, 56, 61, 66, 72], 41) := by decide +kernel
theorem dX4_count_44 : decode cX4_count 44 = .ok (.aload_n 0, 1) := by decide +kernel
