theorem dX4_serves_81 : decode cX4_serves 81 = .ok (.iconst 1, 1) := by decide +kernel
theorem dX4_serves_82 : decode cX4_serves 82 = .ok (.iload_n 1, 1) := by decide +kernel
theorem dX4_serves_83 : decode cX4_serves 83 = .ok (.iload 4, 2) := by decide +kernel
theorem dX4_serves_85 : decode cX4_serves 85 = .ok (.iconst 0, 1) := by decide +kernel
theorem dX4_serves_86 : decode cX4_serves 86 = .ok (.aload_n 0, 1) := by decide +kernel
theorem dX4_serves_87 : decode cX4_serves 87 = .ok (.getfield 35, 3) := by decide +kernel
theorem dX4_serves_90 : decode cX4_serves 90 = .ok (.bipush 8, 2) := by decide +kernel
theorem dX4_serves_92 : decode cX4_serves 92 = .ok (.iload_n 1, 1) := by decide +kernel
theorem dX4_serves_93 : decode cX4_serves 93 = .ok (.imul, 1) := by decide +kernel
theorem dX4_serves_94 : decode cX4_serves 94 = .ok (.iload 4, 2) := by decide +kernel
theorem dX4_serves_96 : decode cX4_serves 96 = .ok (.iadd, 1) := by decide +kernel
theorem dX4_serves_97 : decode cX4_serves 97 = .ok (.iaload, 1) := by decide +kernel
theorem dX4_serves_98 : decode cX4_serves 98 = .ok (.invokevirtual 119, 3) := by decide +kernel
theorem dX4_serves_101 : decode cX4_serves 101 = .ok (.return_, 1) := by decide +kernel
set_option maxRecDepth 20000 in
theorem ggX4_asks_X4_serves : GoodIn wsX4_asks wsX4_serves := goodIn_r _ [43, 44, 35, 45, 46, 14, 19, 20, 21, 12, 22, 23, 24, 25, 26, 27, 28, 8, 16, 17, 18, 36, 37, 38, 39, 33, 47, 48, 49, 13, 15, 29, 30, 31, 0, 1, 2, 3, 4, 5, 6, 7, 9, 10, 11, 32, 34, 40, 41, 42, 50, 51, 52, 53, 54, 55, 56, 57, 58, 59, 60, 61, 62, 63, 64, 65, 66, 67, 68, 69, 70, 71, 72, 73, 74, 75, 76, 77, 78, 79] (by decide +kernel) (by decide +kernel)
set_option maxRecDepth 20000 in
theorem gX4_asks_X4_serves : GoodIn wsX4_asks (wsV RX4 130 RX4 yX4_serves wsX4_serves) := goodIn_app (goodIn_of _ (by decide +kernel)) ggX4_asks_X4_serves
theorem dX4_asks_0 : decode cX4_asks 0 = .ok (.aload_n 0, 1) := by decide +kernel
theorem dX4_asks_1 : decode cX4_asks 1 = .ok (.getfield 38, 3) := by decide +kernel
theorem dX4_asks_4 : decode cX4_asks 4 = .ok (.bipush 8, 2) := by decide +kernel
theorem dX4_asks_6 : decode cX4_asks 6 = .ok (.iload_n 1, 1) := by decide +kernel
theorem dX4_asks_7 : decode cX4_asks 7 = .ok (.imul, 1) := by decide +kernel
theorem dX4_asks_8 : decode cX4_asks 8 = .ok (.iload_n 2, 1) := by decide +kernel
theorem dX4_asks_9 : decode cX4_asks 9 = .ok (.iadd, 1) := by decide +kernel
theorem dX4_asks_10 : decode cX4_asks 10 = .ok (.iaload, 1) := by decide +kernel
theorem dX4_asks_11 : decode cX4_asks 11 = .ok (.ifCond .le 29, 3) := by decide +kernel
theorem dX4_asks_14 : decode cX4_asks 14 = .ok (.aload_n 0, 1) := by decide +kernel
theorem dX4_asks_15 : decode cX4_asks 15 = .ok (.getfield 38, 3) := by decide +kernel
theorem dX4_asks_18 : decode cX4_asks 18 = .ok (.bipush 8, 2) := by decide +kernel
theorem dX4_asks_20 : decode cX4_asks 20 = .ok (.iload_n 1, 1) := by decide +kernel
theorem dX4_asks_21 : decode cX4_asks 21 = .ok (.imul, 1) := by decide +kernel
theorem dX4_asks_22 : decode cX4_asks 22 = .ok (.iload_n 2, 1) := by decide +kernel
theorem dX4_asks_23 : decode cX4_asks 23 = .ok (.iadd, 1) := by decide +kernel
theorem dX4_asks_24 : decode cX4_asks 24 = .ok (.dup2, 1) := by decide +kernel
theorem dX4_asks_25 : decode cX4_asks 25 = .ok (.iaload, 1) := by decide +kernel
theorem dX4_asks_26 : decode cX4_asks 26 = .ok (.iconst 1, 1) := by decide +kernel
theorem dX4_asks_27 : decode cX4_asks 27 = .ok (.isub, 1) := by decide +kernel
theorem dX4_asks_28 : decode cX4_asks 28 = .ok (.iastore, 1) := by decide +kernel
theorem dX4_asks_29 : decode cX4_asks 29 = .ok (.aload_n 0, 1) := by decide +kernel
theorem dX4_asks_30 : decode cX4_asks 30 = .ok (.iload_n 1, 1) := by decide +kernel
theorem dX4_asks_31 : decode cX4_asks 31 = .ok (.iload_n 2, 1) := by decide +kernel
theorem dX4_asks_32 : decode cX4_asks 32 = .ok (.iload_n 3, 1) := by decide +kernel
theorem dX4_asks_33 : decode cX4_asks 33 = .ok (.iload 4, 2) := by decide +kernel
theorem dX4_asks_35 : decode cX4_asks 35 = .ok (.invokevirtual 130, 3) := by decide +kernel
theorem dX4_asks_38 : decode cX4_asks 38 = .ok (.iconst 1, 1) := by decide +kernel
theorem dX4_asks_39 : decode cX4_asks 39 = .ok (.ireturn, 1) := by decide +kernel
theorem dX4_asks_40 : decode cX4_asks 40 = .ok (.aload_n 0, 1) := by decide +kernel
theorem dX4_asks_41 : decode cX4_asks 41 = .ok (.getfield 59, 3) := by decide +kernel
theorem dX4_asks_44 : decode cX4_asks 44 = .ok (.aload_n 0, 1) := by decide +kernel
theorem dX4_asks_45 : decode cX4_asks 45 = .ok (.getfield 110, 3) := by decide +kernel
theorem dX4_asks_48 : decode cX4_asks 48 = .ok (.iload_n 1, 1) := by decide +kernel
theorem dX4_asks_49 : decode cX4_asks 49 = .ok (.iastore, 1) := by decide +kernel
theorem dX4_asks_50 : decode cX4_asks 50 = .ok (.aload_n 0, 1) := by decide +kernel
theorem dX4_asks_51 : decode cX4_asks 51 = .ok (.getfield 62, 3) := by decide +kernel
theorem dX4_asks_54 : decode cX4_asks 54 = .ok (.aload_n 0, 1) := by decide +kernel
theorem dX4_asks_55 : decode cX4_asks 55 = .ok (.getfield 110, 3) := by decide +kernel
theorem dX4_asks_58 : decode cX4_asks 58 = .ok (.iload_n 2, 1) := by decide +kernel
theorem dX4_asks_59 : decode cX4_asks 59 = .ok (.iastore, 1) := by decide +kernel
theorem dX4_asks_60 : decode cX4_asks 60 = .ok (.aload_n 0, 1) := by decide +kernel
theorem dX4_asks_61 : decode cX4_asks 61 = .ok (.getfield 65, 3) := by decide +kernel
theorem dX4_asks_64 : decode cX4_asks 64 = .ok (.aload_n 0, 1) := by decide +kernel
theorem dX4_asks_65 : decode cX4_asks 65 = .ok (.getfield 110, 3) := by decide +kernel
theorem dX4_asks_68 : decode cX4_asks 68 = .ok (.iload_n 3, 1) := by decide +kernel
theorem dX4_asks_69 : decode cX4_asks 69 = .ok (.iastore, 1) := by decide +kernel
theorem dX4_asks_70 : decode cX4_asks 70 = .ok (.aload_n 0, 1) := by decide +kernel
theorem dX4_asks_71 : decode cX4_asks 71 = .ok (.getfield 68, 3) := by decide +kernel
theorem dX4_asks_74 : decode cX4_asks 74 = .ok (.aload_n 0, 1) := by decide +kernel
theorem dX4_asks_75 : decode cX4_asks 75 = .ok (.getfield 110, 3) := by decide +kernel
theorem dX4_asks_78 : decode cX4_asks 78 = .ok (.iload 4, 2) := by decide +kernel
theorem dX4_asks_80 : decode cX4_asks 80 = .ok (.iastore, 1) := by decide +kernel
theorem dX4_asks_81 : decode cX4_asks 81 = .ok (.aload_n 0, 1) := by decide +kernel
theorem dX4_asks_82 : decode cX4_asks 82 = .ok (.getfield 71, 3) := by decide +kernel
theorem dX4_asks_85 : decode cX4_asks 85 = .ok (.aload_n 0, 1) := by decide +kernel
theorem dX4_asks_86 : decode cX4_asks 86 = .ok (.getfield 110, 3) := by decide +kernel
theorem dX4_asks_89 : decode cX4_asks 89 = .ok (.aload_n 0, 1) := by decide +kernel
theorem dX4_asks_90 : decode cX4_asks 90 = .ok (.getfield 116, 3) := by decide +kernel
theorem dX4_asks_93 : decode cX4_asks 93 = .ok (.iastore, 1) := by decide +kernel
theorem dX4_asks_94 : decode cX4_asks 94 = .ok (.aload_n 0, 1) := by decide +kernel
theorem dX4_asks_95 : decode cX4_asks 95 = .ok (.dup, 1) := by decide +kernel
theorem dX4_asks_96 : decode cX4_asks 96 = .ok (.getfield 110, 3) := by decide +kernel
theorem dX4_asks_99 : decode cX4_asks 99 = .ok (.iconst 1, 1) := by decide +kernel
theorem dX4_asks_100 : decode cX4_asks 100 = .ok (.iadd, 1) := by decide +kernel
theorem dX4_asks_101 : decode cX4_asks 101 = .ok (.putfield 110, 3) := by decide +kernel
theorem dX4_asks_104 : decode cX4_asks 104 = .ok (.iconst 0, 1) := by decide +kernel
theorem dX4_asks_105 : decode cX4_asks 105 = .ok (.ireturn, 1) := by decide +kernel
set_option maxRecDepth 20000 in
theorem ggX4_lands_X4_serves : GoodIn wsX4_lands wsX4_serves := goodIn_r _ [12, 13, 14, 15, 16, 17, 18, 19, 20, 11, 21, 22, 23, 24, 25, 26, 27, 28, 29, 30, 31, 32, 33, 34, 35, 36, 37, 38, 39, 40, 41, 42, 43, 44, 45, 4, 2, 1, 3, 5, 6, 7, 8, 9, 10, 46, 47, 48, 49, 50, 51, 52, 53, 54, 55, 56, 57, 58, 59, 60, 61, 62, 63, 64, 65, 66, 67, 68, 69, 70, 71, 72, 73, 74, 75, 76, 77, 78, 79, 80] (by decide +kernel) (by decide +kernel)
set_option maxRecDepth 20000 in
theorem gX4_lands_X4_serves : GoodIn wsX4_lands (wsV RX4 130 RX4 yX4_serves wsX4_serves) := goodIn_app (goodIn_of _ (by decide +kernel)) ggX4_lands_X4_serves
theorem dX4_lands_0 : decode cX4_lands 0 = .ok (.iconst 0, 1) := by decide +kernel
theorem dX4_lands_1 : decode cX4_lands 1 = .ok (.istore_n 3, 1) := by decide +kernel
theorem dX4_lands_2 : decode cX4_lands 2 = .ok (.iload_n 3, 1) := by decide +kernel
theorem dX4_lands_3 : decode cX4_lands 3 = .ok (.aload_n 0, 1) := by decide +kernel
theorem dX4_lands_4 : decode cX4_lands 4 = .ok (.getfield 110, 3) := by decide +kernel
theorem dX4_lands_7 : decode cX4_lands 7 = .ok (.if_icmp .ge 29, 3) := by decide +kernel
theorem dX4_lands_10 : decode cX4_lands 10 = .ok (.aload_n 0, 1) := by decide +kernel
theorem dX4_lands_11 : decode cX4_lands 11 = .ok (.getfield 59, 3) := by decide +kernel
theorem dX4_lands_14 : decode cX4_lands 14 = .ok (.iload_n 3, 1) := by decide +kernel
theorem dX4_lands_15 : decode cX4_lands 15 = .ok (.iaload, 1) := by decide +kernel
theorem dX4_lands_16 : decode cX4_lands 16 = .ok (.iload_n 1, 1) := by decide +kernel
theorem dX4_lands_17 : decode cX4_lands 17 = .ok (.if_icmp .ne 13, 3) := by decide +kernel
theorem dX4_lands_20 : decode cX4_lands 20 = .ok (.aload_n 0, 1) := by decide +kernel
theorem dX4_lands_21 : decode cX4_lands 21 = .ok (.getfield 62, 3) := by decide +kernel
theorem dX4_lands_24 : decode cX4_lands 24 = .ok (.iload_n 3, 1) := by decide +kernel
theorem dX4_lands_25 : decode cX4_lands 25 = .ok (.iaload, 1) := by decide +kernel
theorem dX4_lands_26 : decode cX4_lands 26 = .ok (.iload_n 2, 1) := by decide +kernel
theorem dX4_lands_27 : decode cX4_lands 27 = .ok (.if_icmp .eq 9, 3) := by decide +kernel
theorem dX4_lands_30 : decode cX4_lands 30 = .ok (.iinc 3 1, 3) := by decide +kernel
theorem dX4_lands_33 : decode cX4_lands 33 = .ok (.goto (-31), 3) := by decide +kernel
theorem dX4_lands_36 : decode cX4_lands 36 = .ok (.iload_n 3, 1) := by decide +kernel
theorem dX4_lands_37 : decode cX4_lands 37 = .ok (.aload_n 0, 1) := by decide +kernel
theorem dX4_lands_38 : decode cX4_lands 38 = .ok (.getfield 110, 3) := by decide +kernel
theorem dX4_lands_41 : decode cX4_lands 41 = .ok (.if_icmp .ne 19, 3) := by decide +kernel
theorem dX4_lands_44 : decode cX4_lands 44 = .ok (.aload_n 0, 1) := by decide +kernel
theorem dX4_lands_45 : decode cX4_lands 45 = .ok (.getfield 38, 3) := by decide +kernel
theorem dX4_lands_48 : decode cX4_lands 48 = .ok (.bipush 8, 2) := by decide +kernel
theorem dX4_lands_50 : decode cX4_lands 50 = .ok (.iload_n 1, 1) := by decide +kernel
theorem dX4_lands_51 : decode cX4_lands 51 = .ok (.imul, 1) := by decide +kernel
theorem dX4_lands_52 : decode cX4_lands 52 = .ok (.iload_n 2, 1) := by decide +kernel
theorem dX4_lands_53 : decode cX4_lands 53 = .ok (.iadd, 1) := by decide +kernel
theorem dX4_lands_54 : decode cX4_lands 54 = .ok (.dup2, 1) := by decide +kernel
theorem dX4_lands_55 : decode cX4_lands 55 = .ok (.iaload, 1) := by decide +kernel
theorem dX4_lands_56 : decode cX4_lands 56 = .ok (.iconst 1, 1) := by decide +kernel
theorem dX4_lands_57 : decode cX4_lands 57 = .ok (.iadd, 1) := by decide +kernel
theorem dX4_lands_58 : decode cX4_lands 58 = .ok (.iastore, 1) := by decide +kernel
theorem dX4_lands_59 : decode cX4_lands 59 = .ok (.return_, 1) := by decide +kernel
theorem dX4_lands_60 : decode cX4_lands 60 = .ok (.aload_n 0, 1) := by decide +kernel
theorem dX4_lands_61 : decode cX4_lands 61 = .ok (.getfield 65, 3) := by decide +kernel
theorem dX4_lands_64 : decode cX4_lands 64 = .ok (.iload_n 3, 1) := by decide +kernel
theorem dX4_lands_65 : decode cX4_lands 65 = .ok (.iaload, 1) := by decide +kernel
theorem dX4_lands_66 : decode cX4_lands 66 = .ok (.istore 4, 2) := by decide +kernel
theorem dX4_lands_68 : decode cX4_lands 68 = .ok (.aload_n 0, 1) := by decide +kernel
theorem dX4_lands_69 : decode cX4_lands 69 = .ok (.getfield 68, 3) := by decide +kernel
theorem dX4_lands_72 : decode cX4_lands 72 = .ok (.iload_n 3, 1) := by decide +kernel
theorem dX4_lands_73 : decode cX4_lands 73 = .ok (.iaload, 1) := by decide +kernel
theorem dX4_lands_74 : decode cX4_lands 74 = .ok (.istore 5, 2) := by decide +kernel
theorem dX4_lands_76 : decode cX4_lands 76 = .ok (.aload_n 0, 1) := by decide +kernel
theorem dX4_lands_77 : decode cX4_lands 77 = .ok (.dup, 1) := by decide +kernel
theorem dX4_lands_78 : decode cX4_lands 78 = .ok (.getfield 110, 3) := by decide +kernel
theorem dX4_lands_81 : decode cX4_lands 81 = .ok (.iconst 1, 1) := by decide +kernel
theorem dX4_lands_82 : decode cX4_lands 82 = .ok (.isub, 1) := by decide +kernel
theorem dX4_lands_83 : decode cX4_lands 83 = .ok (.putfield 110, 3) := by decide +kernel
theorem dX4_lands_86 : decode cX4_lands 86 = .ok (.iload_n 3, 1) := by decide +kernel
theorem dX4_lands_87 : decode cX4_lands 87 = .ok (.istore 6, 2) := by decide +kernel
theorem dX4_lands_89 : decode cX4_lands 89 = .ok (.iload 6, 2) := by decide +kernel
theorem dX4_lands_91 : decode cX4_lands 91 = .ok (.aload_n 0, 1) := by decide +kernel
theorem dX4_lands_92 : decode cX4_lands 92 = .ok (.getfield 110, 3) := by decide +kernel
theorem dX4_lands_95 : decode cX4_lands 95 = .ok (.if_icmp .ge 89, 3) := by decide +kernel
theorem dX4_lands_98 : decode cX4_lands 98 = .ok (.aload_n 0, 1) := by decide +kernel
theorem dX4_lands_99 : decode cX4_lands 99 = .ok (.getfield 59, 3) := by decide +kernel
theorem dX4_lands_102 : decode cX4_lands 102 = .ok (.iload 6, 2) := by decide +kernel
theorem dX4_lands_104 : decode cX4_lands 104 = .ok (.aload_n 0, 1) := by decide +kernel
theorem dX4_lands_105 : decode cX4_lands 105 = .ok (.getfield 59, 3) := by decide +kernel
theorem dX4_lands_108 : decode cX4_lands 108 = .ok (.iload 6, 2) := by decide +kernel
theorem dX4_lands_110 : decode cX4_lands 110 = .ok (.iconst 1, 1) := by decide +kernel
theorem dX4_lands_111 : decode cX4_lands 111 = .ok (.iadd, 1) := by decide +kernel
theorem dX4_lands_112 : decode cX4_lands 112 = .ok (.iaload, 1) := by decide +kernel
theorem dX4_lands_113 : decode cX4_lands 113 = .ok (.iastore, 1) := by decide +kernel
theorem dX4_lands_114 : decode cX4_lands 114 = .ok (.aload_n 0, 1) := by decide +kernel
theorem dX4_lands_115 : decode cX4_lands 115 = .ok (.getfield 62, 3) := by decide +kernel
theorem dX4_lands_118 : decode cX4_lands 118 = .ok (.iload 6, 2) := by decide +kernel
theorem dX4_lands_120 : decode cX4_lands 120 = .ok (.aload_n 0, 1) := by decide +kernel
theorem dX4_lands_121 : decode cX4_lands 121 = .ok (.getfield 62, 3) := by decide +kernel
theorem dX4_lands_124 : decode cX4_lands 124 = .ok (.iload 6, 2) := by decide +kernel
theorem dX4_lands_126 : decode cX4_lands 126 = .ok (.iconst 1, 1) := by decide +kernel
theorem dX4_lands_127 : decode cX4_lands 127 = .ok (.iadd, 1) := by decide +kernel
theorem dX4_lands_128 : decode cX4_lands 128 = .ok (.iaload, 1) := by decide +kernel
theorem dX4_lands_129 : decode cX4_lands 129 = .ok (.iastore, 1) := by decide +kernel
theorem dX4_lands_130 : decode cX4_lands 130 = .ok (.aload_n 0, 1) := by decide +kernel
theorem dX4_lands_131 : decode cX4_lands 131 = .ok (.getfield 65, 3) := by decide +kernel
theorem dX4_lands_134 : decode cX4_lands 134 = .ok (.iload 6, 2) := by decide +kernel
theorem dX4_lands_136 : decode cX4_lands 136 = .ok (.aload_n 0, 1) := by decide +kernel
theorem dX4_lands_137 : decode cX4_lands 137 = .ok (.getfield 65, 3) := by decide +kernel
theorem dX4_lands_140 : decode cX4_lands 140 = .ok (.iload 6, 2) := by decide +kernel
theorem dX4_lands_142 : decode cX4_lands 142 = .ok (.iconst 1, 1) := by decide +kernel
theorem dX4_lands_143 : decode cX4_lands 143 = .ok (.iadd, 1) := by decide +kernel
theorem dX4_lands_144 : decode cX4_lands 144 = .ok (.iaload, 1) := by decide +kernel
theorem dX4_lands_145 : decode cX4_lands 145 = .ok (.iastore, 1) := by decide +kernel
theorem dX4_lands_146 : decode cX4_lands 146 = .ok (.aload_n 0, 1) := by decide +kernel
theorem dX4_lands_147 : decode cX4_lands 147 = .ok (.getfield 68, 3) := by decide +kernel
theorem dX4_lands_150 : decode cX4_lands 150 = .ok (.iload 6, 2) := by decide +kernel
theorem dX4_lands_152 : decode cX4_lands 152 = .ok (.aload_n 0, 1) := by decide +kernel
theorem dX4_lands_153 : decode cX4_lands 153 = .ok (.getfield 68, 3) := by decide +kernel
theorem dX4_lands_156 : decode cX4_lands 156 = .ok (.iload 6, 2) := by decide +kernel
theorem dX4_lands_158 : decode cX4_lands 158 = .ok (.iconst 1, 1) := by decide +kernel
theorem dX4_lands_159 : decode cX4_lands 159 = .ok (.iadd, 1) := by decide +kernel
theorem dX4_lands_160 : decode cX4_lands 160 = .ok (.iaload, 1) := by decide +kernel
theorem dX4_lands_161 : decode cX4_lands 161 = .ok (.iastore, 1) := by decide +kernel
theorem dX4_lands_162 : decode cX4_lands 162 = .ok (.aload_n 0, 1) := by decide +kernel
theorem dX4_lands_163 : decode cX4_lands 163 = .ok (.getfield 71, 3) := by decide +kernel
theorem dX4_lands_166 : decode cX4_lands 166 = .ok (.iload 6, 2) := by decide +kernel
theorem dX4_lands_168 : decode cX4_lands 168 = .ok (.aload_n 0, 1) := by decide +kernel
theorem dX4_lands_169 : decode cX4_lands 169 = .ok (.getfield 71, 3) := by decide +kernel
theorem dX4_lands_172 : decode cX4_lands 172 = .ok (.iload 6, 2) := by decide +kernel
theorem dX4_lands_174 : decode cX4_lands 174 = .ok (.iconst 1, 1) := by decide +kernel
theorem dX4_lands_175 : decode cX4_lands 175 = .ok (.iadd, 1) := by decide +kernel
theorem dX4_lands_176 : decode cX4_lands 176 = .ok (.iaload, 1) := by decide +kernel
theorem dX4_lands_177 : decode cX4_lands 177 = .ok (.iastore, 1) := by decide +kernel
theorem dX4_lands_178 : decode cX4_lands 178 = .ok (.iinc 6 1, 3) := by decide +kernel
theorem dX4_lands_181 : decode cX4_lands 181 = .ok (.goto (-92), 3) := by decide +kernel
theorem dX4_lands_184 : decode cX4_lands 184 = .ok (.aload_n 0, 1) := by decide +kernel
theorem dX4_lands_185 : decode cX4_lands 185 = .ok (.iload_n 1, 1) := by decide +kernel
theorem dX4_lands_186 : decode cX4_lands 186 = .ok (.iload_n 2, 1) := by decide +kernel
theorem dX4_lands_187 : decode cX4_lands 187 = .ok (.iload 4, 2) := by decide +kernel
theorem dX4_lands_189 : decode cX4_lands 189 = .ok (.iload 5, 2) := by decide +kernel
theorem dX4_lands_191 : decode cX4_lands 191 = .ok (.invokevirtual 130, 3) := by decide +kernel
theorem dX4_lands_194 : decode cX4_lands 194 = .ok (.return_, 1) := by decide +kernel
set_option maxRecDepth 20000 in
theorem ggX4_goesBack_X4_menderOf : GoodIn wsX4_goesBack wsX4_menderOf := goodIn_r _ [7, 8, 2, 50, 51, 52, 53, 54, 55, 56, 57, 58, 59, 60, 61, 62, 63, 64, 65, 66, 67, 68, 69, 70, 71, 72, 73, 74, 75, 76, 77, 78, 79] (by decide +kernel) (by decide +kernel)
set_option maxRecDepth 20000 in
theorem gX4_goesBack_X4_menderOf : GoodIn wsX4_goesBack (wsV RX4 107 RX4 yX4_menderOf wsX4_menderOf) := goodIn_app (goodIn_of _ (by decide +kernel)) ggX4_goesBack_X4_menderOf
set_option maxRecDepth 20000 in
theorem ggX4_goesBack_X4_arrives : GoodIn wsX4_goesBack wsX4_arrives := goodIn_r _ [23, 8, 24, 25, 26, 27, 6, 12, 13, 14, 15, 16, 17, 18, 19, 20, 21, 22, 28, 29, 30, 31, 32, 33, 34, 35, 36, 37, 38, 39, 40, 41, 42, 2, 0, 1, 3, 4, 5, 7, 9, 10, 11, 43, 44, 45, 46, 47, 48, 49, 50, 51, 52, 53, 54, 55, 56, 57, 58, 59, 60, 61, 62, 63, 64, 65, 66, 67, 68, 69, 70, 71, 72, 73, 74, 75, 76, 77, 78, 79] (by decide +kernel) (by decide +kernel)
set_option maxRecDepth 20000 in
theorem gX4_goesBack_X4_arrives : GoodIn wsX4_goesBack (wsV RX4 134 RX4 yX4_arrives wsX4_arrives) := goodIn_app (goodIn_of _ (by decide +kernel)) ggX4_goesBack_X4_arrives
set_option maxRecDepth 20000 in
theorem ggX4_goesBack_X4_due : GoodIn wsX4_goesBack wsX4_due := goodIn_r _ [15, 16, 17, 18, 19, 20, 21, 22, 50, 51, 52, 53, 54, 55, 56, 57, 58, 59, 60, 61, 62, 63, 64, 65, 66, 67, 68, 69, 70, 71, 72, 73, 74, 75, 76, 77, 78, 79] (by decide +kernel) (by decide +kernel)
set_option maxRecDepth 20000 in
theorem gX4_goesBack_X4_due : GoodIn wsX4_goesBack (wsV RX4 119 RX4 yX4_due wsX4_due) := goodIn_app (goodIn_of _ (by decide +kernel)) ggX4_goesBack_X4_due
theorem dX4_goesBack_0 : decode cX4_goesBack 0 = .ok (.aload_n 0, 1) := by decide +kernel
theorem dX4_goesBack_1 : decode cX4_goesBack 1 = .ok (.iload_n 1, 1) := by decide +kernel
theorem dX4_goesBack_2 : decode cX4_goesBack 2 = .ok (.iload_n 2, 1) := by decide +kernel
theorem dX4_goesBack_3 : decode cX4_goesBack 3 = .ok (.invokevirtual 107, 3) := by decide +kernel
theorem dX4_goesBack_6 : decode cX4_goesBack 6 = .ok (.istore 4, 2) := by decide +kernel
theorem dX4_goesBack_8 : decode cX4_goesBack 8 = .ok (.iconst 0, 1) := by decide +kernel
theorem dX4_goesBack_9 : decode cX4_goesBack 9 = .ok (.istore 5, 2) := by decide +kernel
theorem dX4_goesBack_11 : decode cX4_goesBack 11 = .ok (.iload_n 1, 1) := by decide +kernel
theorem dX4_goesBack_12 : decode cX4_goesBack 12 = .ok (.istore 6, 2) := by decide +kernel
theorem dX4_goesBack_14 : decode cX4_goesBack 14 = .ok (.iload 6, 2) := by decide +kernel
theorem dX4_goesBack_16 : decode cX4_goesBack 16 = .ok (.iload 4, 2) := by decide +kernel
theorem dX4_goesBack_18 : decode cX4_goesBack 18 = .ok (.if_icmp .eq 27, 3) := by decide +kernel
theorem dX4_goesBack_21 : decode cX4_goesBack 21 = .ok (.iload 5, 2) := by decide +kernel
theorem dX4_goesBack_23 : decode cX4_goesBack 23 = .ok (.aload_n 0, 1) := by decide +kernel
theorem dX4_goesBack_24 : decode cX4_goesBack 24 = .ok (.getfield 29, 3) := by decide +kernel
theorem dX4_goesBack_27 : decode cX4_goesBack 27 = .ok (.iload 6, 2) := by decide +kernel
theorem dX4_goesBack_29 : decode cX4_goesBack 29 = .ok (.iaload, 1) := by decide +kernel
theorem dX4_goesBack_30 : decode cX4_goesBack 30 = .ok (.iadd, 1) := by decide +kernel
theorem dX4_goesBack_31 : decode cX4_goesBack 31 = .ok (.istore 5, 2) := by decide +kernel
theorem dX4_goesBack_33 : decode cX4_goesBack 33 = .ok (.aload_n 0, 1) := by decide +kernel
theorem dX4_goesBack_34 : decode cX4_goesBack 34 = .ok (.getfield 26, 3) := by decide +kernel
theorem dX4_goesBack_37 : decode cX4_goesBack 37 = .ok (.iload 6, 2) := by decide +kernel
theorem dX4_goesBack_39 : decode cX4_goesBack 39 = .ok (.iaload, 1) := by decide +kernel
theorem dX4_goesBack_40 : decode cX4_goesBack 40 = .ok (.istore 6, 2) := by decide +kernel
theorem dX4_goesBack_42 : decode cX4_goesBack 42 = .ok (.goto (-28), 3) := by decide +kernel
theorem dX4_goesBack_45 : decode cX4_goesBack 45 = .ok (.iload 4, 2) := by decide +kernel
theorem dX4_goesBack_47 : decode cX4_goesBack 47 = .ok (.iload_n 1, 1) := by decide +kernel
theorem dX4_goesBack_48 : decode cX4_goesBack 48 = .ok (.if_icmp .ne 13, 3) := by decide +kernel
theorem dX4_goesBack_51 : decode cX4_goesBack 51 = .ok (.aload_n 0, 1) := by decide +kernel
theorem dX4_goesBack_52 : decode cX4_goesBack 52 = .ok (.iload_n 1, 1) := by decide +kernel
theorem dX4_goesBack_53 : decode cX4_goesBack 53 = .ok (.iload_n 2, 1) := by decide +kernel
theorem dX4_goesBack_54 : decode cX4_goesBack 54 = .ok (.iload_n 3, 1) := by decide +kernel
theorem dX4_goesBack_55 : decode cX4_goesBack 55 = .ok (.invokevirtual 134, 3) := by decide +kernel
theorem dX4_goesBack_58 : decode cX4_goesBack 58 = .ok (.goto 14, 3) := by decide +kernel
theorem dX4_goesBack_61 : decode cX4_goesBack 61 = .ok (.aload_n 0, 1) := by decide +kernel
theorem dX4_goesBack_62 : decode cX4_goesBack 62 = .ok (.iconst 3, 1) := by decide +kernel
theorem dX4_goesBack_63 : decode cX4_goesBack 63 = .ok (.iload 4, 2) := by decide +kernel
theorem dX4_goesBack_65 : decode cX4_goesBack 65 = .ok (.iload_n 2, 1) := by decide +kernel
theorem dX4_goesBack_66 : decode cX4_goesBack 66 = .ok (.iload_n 3, 1) := by decide +kernel
theorem dX4_goesBack_67 : decode cX4_goesBack 67 = .ok (.iload 5, 2) := by decide +kernel
theorem dX4_goesBack_69 : decode cX4_goesBack 69 = .ok (.invokevirtual 119, 3) := by decide +kernel
theorem dX4_goesBack_72 : decode cX4_goesBack 72 = .ok (.return_, 1) := by decide +kernel
set_option maxRecDepth 20000 in
theorem ggX4_arrives_X4_goesBack : GoodIn wsX4_arrives wsX4_goesBack := goodIn_r _ [34, 35, 33, 36, 37, 38, 6, 39, 1, 40, 41, 42, 7, 8, 9, 10, 11, 12, 13, 14, 15, 16, 17, 0, 2, 3, 4, 5, 18, 19, 20, 21, 22, 23, 24, 25, 26, 27, 28, 29, 30, 31, 32, 43, 44, 45, 46, 47, 48, 49, 50, 51, 52, 53, 54, 55, 56, 57, 58, 59, 60, 61, 62, 63, 64, 65, 66, 67, 68, 69, 70, 71, 72, 73, 74, 75, 76, 77, 78, 79] (by decide +kernel) (by decide +kernel)
set_option maxRecDepth 20000 in
theorem gX4_arrives_X4_goesBack : GoodIn wsX4_arrives (wsV RX4 123 RX4 yX4_goesBack wsX4_goesBack) := goodIn_app (goodIn_of _ (by decide +kernel)) ggX4_arrives_X4_goesBack
set_option maxRecDepth 20000 in
theorem ggX4_arrives_X4_due : GoodIn wsX4_arrives wsX4_due := goodIn_r _ [10, 11, 12, 13, 14, 15, 16, 17, 50, 51, 52, 53, 54, 55, 56, 57, 58, 59, 60, 61, 62, 63, 64, 65, 66, 67, 68, 69, 70, 71, 72, 73, 74, 75, 76, 77, 78, 79] (by decide +kernel) (by decide +kernel)
set_option maxRecDepth 20000 in
theorem gX4_arrives_X4_due : GoodIn wsX4_arrives (wsV RX4 119 RX4 yX4_due wsX4_due) := goodIn_app (goodIn_of _ (by decide +kernel)) ggX4_arrives_X4_due
set_option maxRecDepth 20000 in
theorem ggX4_arrives_X4_asks : GoodIn wsX4_arrives wsX4_asks := goodIn_r _ [21, 22, 23, 24, 25, 26, 27, 28, 17, 29, 30, 31, 6, 0, 1, 2, 3, 4, 5, 7, 8, 9, 10, 11, 12, 13, 14, 15, 16, 18, 19, 20, 32, 33, 34, 35, 36, 37, 38, 39, 40, 41, 42, 43, 44, 45, 46, 47, 48, 49, 50, 51, 52, 53, 54, 55, 56, 57, 58, 59, 60, 61, 62, 63, 64, 65, 66, 67, 68, 69, 70, 71, 72, 73, 74, 75, 76, 77, 78, 79] (by decide +kernel) (by decide +kernel)
set_option maxRecDepth 20000 in
theorem gX4_arrives_X4_asks : GoodIn wsX4_arrives (wsV RX4 137 RX4 yX4_asks wsX4_asks) := goodIn_app (goodIn_of _ (by decide +kernel)) ggX4_arrives_X4_asks
theorem dX4_arrives_0 : decode cX4_arrives 0 = .ok (.aload_n 0, 1) := by decide +kernel
theorem dX4_arrives_1 : decode cX4_arrives 1 = .ok (.getfield 35, 3) := by decide +kernel
theorem dX4_arrives_4 : decode cX4_arrives 4 = .ok (.bipush 8, 2) := by decide +kernel
theorem dX4_arrives_6 : decode cX4_arrives 6 = .ok (.iload_n 1, 1) := by decide +kernel
theorem dX4_arrives_7 : decode cX4_arrives 7 = .ok (.imul, 1) := by decide +kernel
theorem dX4_arrives_8 : decode cX4_arrives 8 = .ok (.iload_n 2, 1) := by decide +kernel
theorem dX4_arrives_9 : decode cX4_arrives 9 = .ok (.iadd, 1) := by decide +kernel
theorem dX4_arrives_10 : decode cX4_arrives 10 = .ok (.iaload, 1) := by decide +kernel
theorem dX4_arrives_11 : decode cX4_arrives 11 = .ok (.ifCond .ne 13, 3) := by decide +kernel
theorem dX4_arrives_14 : decode cX4_arrives 14 = .ok (.aload_n 0, 1) := by decide +kernel
theorem dX4_arrives_15 : decode cX4_arrives 15 = .ok (.iload_n 1, 1) := by decide +kernel
theorem dX4_arrives_16 : decode cX4_arrives 16 = .ok (.iload_n 2, 1) := by decide +kernel
theorem dX4_arrives_17 : decode cX4_arrives 17 = .ok (.iload_n 3, 1) := by decide +kernel
theorem dX4_arrives_18 : decode cX4_arrives 18 = .ok (.invokevirtual 123, 3) := by decide +kernel
theorem dX4_arrives_21 : decode cX4_arrives 21 = .ok (.goto 44, 3) := by decide +kernel
theorem dX4_arrives_24 : decode cX4_arrives 24 = .ok (.iload_n 3, 1) := by decide +kernel
theorem dX4_arrives_25 : decode cX4_arrives 25 = .ok (.ifCond .ne 25, 3) := by decide +kernel
theorem dX4_arrives_28 : decode cX4_arrives 28 = .ok (.aload_n 0, 1) := by decide +kernel
theorem dX4_arrives_29 : decode cX4_arrives 29 = .ok (.iconst 1, 1) := by decide +kernel
theorem dX4_arrives_30 : decode cX4_arrives 30 = .ok (.iload_n 1, 1) := by decide +kernel
theorem dX4_arrives_31 : decode cX4_arrives 31 = .ok (.iload_n 2, 1) := by decide +kernel
theorem dX4_arrives_32 : decode cX4_arrives 32 = .ok (.iconst 0, 1) := by decide +kernel
theorem dX4_arrives_33 : decode cX4_arrives 33 = .ok (.aload_n 0, 1) := by decide +kernel
theorem dX4_arrives_34 : decode cX4_arrives 34 = .ok (.getfield 35, 3) := by decide +kernel
theorem dX4_arrives_37 : decode cX4_arrives 37 = .ok (.bipush 8, 2) := by decide +kernel
theorem dX4_arrives_39 : decode cX4_arrives 39 = .ok (.iload_n 1, 1) := by decide +kernel
theorem dX4_arrives_40 : decode cX4_arrives 40 = .ok (.imul, 1) := by decide +kernel
theorem dX4_arrives_41 : decode cX4_arrives 41 = .ok (.iload_n 2, 1) := by decide +kernel
theorem dX4_arrives_42 : decode cX4_arrives 42 = .ok (.iadd, 1) := by decide +kernel
theorem dX4_arrives_43 : decode cX4_arrives 43 = .ok (.iaload, 1) := by decide +kernel
theorem dX4_arrives_44 : decode cX4_arrives 44 = .ok (.invokevirtual 119, 3) := by decide +kernel
theorem dX4_arrives_47 : decode cX4_arrives 47 = .ok (.goto 18, 3) := by decide +kernel
theorem dX4_arrives_50 : decode cX4_arrives 50 = .ok (.aload_n 0, 1) := by decide +kernel
theorem dX4_arrives_51 : decode cX4_arrives 51 = .ok (.iload_n 1, 1) := by decide +kernel
theorem dX4_arrives_52 : decode cX4_arrives 52 = .ok (.aload_n 0, 1) := by decide +kernel
theorem dX4_arrives_53 : decode cX4_arrives 53 = .ok (.getfield 20, 3) := by decide +kernel
theorem dX4_arrives_56 : decode cX4_arrives 56 = .ok (.iload_n 2, 1) := by decide +kernel
theorem dX4_arrives_57 : decode cX4_arrives 57 = .ok (.iaload, 1) := by decide +kernel
theorem dX4_arrives_58 : decode cX4_arrives 58 = .ok (.iconst 2, 1) := by decide +kernel
theorem dX4_arrives_59 : decode cX4_arrives 59 = .ok (.iload_n 2, 1) := by decide +kernel
theorem dX4_arrives_60 : decode cX4_arrives 60 = .ok (.invokevirtual 137, 3) := by decide +kernel
theorem dX4_arrives_63 : decode cX4_arrives 63 = .ok (.istore 4, 2) := by decide +kernel
theorem dX4_arrives_65 : decode cX4_arrives 65 = .ok (.return_, 1) := by decide +kernel
set_option maxRecDepth 20000 in
theorem ggX4_asksUp_X4_asks : GoodIn wsX4_asksUp wsX4_asks := goodIn_r _ [23, 24, 25, 26, 27, 28, 29, 30, 22, 31, 32, 33, 5, 6, 7, 8, 9, 10, 11, 12, 13, 14, 15, 16, 17, 18, 19, 20, 21, 2, 3, 4, 0, 1, 34, 35, 36, 37, 38, 39, 40, 41, 42, 43, 44, 45, 46, 47, 48, 49, 50, 51, 52, 53, 54, 55, 56, 57, 58, 59, 60, 61, 62, 63, 64, 65, 66, 67, 68, 69, 70, 71, 72, 73, 74, 75, 76, 77, 78, 79] (by decide +kernel) (by decide +kernel)
set_option maxRecDepth 20000 in
theorem gX4_asksUp_X4_asks : GoodIn wsX4_asksUp (wsV RX4 137 RX4 yX4_asks wsX4_asks) := goodIn_app (goodIn_of _ (by decide +kernel)) ggX4_asksUp_X4_asks
theorem dX4_asksUp_0 : decode cX4_asksUp 0 = .ok (.iload_n 1, 1) := by decide +kernel
theorem dX4_asksUp_1 : decode cX4_asksUp 1 = .ok (.istore 4, 2) := by decide +kernel
theorem dX4_asksUp_3 : decode cX4_asksUp 3 = .ok (.iload 4, 2) := by decide +kernel
theorem dX4_asksUp_5 : decode cX4_asksUp 5 = .ok (.iload_n 3, 1) := by decide +kernel
theorem dX4_asksUp_6 : decode cX4_asksUp 6 = .ok (.if_icmp .eq 32, 3) := by decide +kernel
theorem dX4_asksUp_9 : decode cX4_asksUp 9 = .ok (.aload_n 0, 1) := by decide +kernel
theorem dX4_asksUp_10 : decode cX4_asksUp 10 = .ok (.aload_n 0, 1) := by decide +kernel
theorem dX4_asksUp_11 : decode cX4_asksUp 11 = .ok (.getfield 26, 3) := by decide +kernel
theorem dX4_asksUp_14 : decode cX4_asksUp 14 = .ok (.iload 4, 2) := by decide +kernel
theorem dX4_asksUp_16 : decode cX4_asksUp 16 = .ok (.iaload, 1) := by decide +kernel
theorem dX4_asksUp_17 : decode cX4_asksUp 17 = .ok (.iload_n 2, 1) := by decide +kernel
theorem dX4_asksUp_18 : decode cX4_asksUp 18 = .ok (.iconst 1, 1) := by decide +kernel
theorem dX4_asksUp_19 : decode cX4_asksUp 19 = .ok (.iload 4, 2) := by decide +kernel
theorem dX4_asksUp_21 : decode cX4_asksUp 21 = .ok (.invokevirtual 137, 3) := by decide +kernel
theorem dX4_asksUp_24 : decode cX4_asksUp 24 = .ok (.istore 5, 2) := by decide +kernel
theorem dX4_asksUp_26 : decode cX4_asksUp 26 = .ok (.aload_n 0, 1) := by decide +kernel
theorem dX4_asksUp_27 : decode cX4_asksUp 27 = .ok (.getfield 26, 3) := by decide +kernel
theorem dX4_asksUp_30 : decode cX4_asksUp 30 = .ok (.iload 4, 2) := by decide +kernel
theorem dX4_asksUp_32 : decode cX4_asksUp 32 = .ok (.iaload, 1) := by decide +kernel
theorem dX4_asksUp_33 : decode cX4_asksUp 33 = .ok (.istore 4, 2) := by decide +kernel
theorem dX4_asksUp_35 : decode cX4_asksUp 35 = .ok (.goto (-32), 3) := by decide +kernel
theorem dX4_asksUp_38 : decode cX4_asksUp 38 = .ok (.return_, 1) := by decide +kernel
set_option maxRecDepth 20000 in
theorem ggX4_fails_X4_isShelf : GoodIn wsX4_fails wsX4_isShelf := goodIn_r _ [12, 13, 14, 15, 11, 16, 67, 68, 69, 70, 71, 72, 73, 74, 75, 76, 77, 78, 79, 80, 81, 82, 83, 84, 85, 86, 87, 88, 89, 90, 91, 92, 93, 94, 95, 96] (by decide +kernel) (by decide +kernel)
set_option maxRecDepth 20000 in
theorem gX4_fails_X4_isShelf : GoodIn wsX4_fails (wsV RX4 100 RX4 yX4_isShelf wsX4_isShelf) := goodIn_app (goodIn_of _ (by decide +kernel)) ggX4_fails_X4_isShelf
set_option maxRecDepth 20000 in
theorem ggX4_fails_X4_isKind : GoodIn wsX4_fails wsX4_isKind := goodIn_r _ [20, 21, 14, 15, 11, 16, 67, 68, 69, 70, 71, 72, 73, 74, 75, 76, 77, 78, 79, 80, 81, 82, 83, 84, 85, 86, 87, 88, 89, 90, 91, 92, 93, 94, 95, 96] (by decide +kernel) (by decide +kernel)
set_option maxRecDepth 20000 in
theorem gX4_fails_X4_isKind : GoodIn wsX4_fails (wsV RX4 96 RX4 yX4_isKind wsX4_isKind) := goodIn_app (goodIn_of _ (by decide +kernel)) ggX4_fails_X4_isKind
set_option maxRecDepth 20000 in
theorem ggX4_fails_X4_in : GoodIn wsX4_fails wsX4_in := goodIn_r _ [16] (by decide +kernel) (by decide +kernel)
set_option maxRecDepth 20000 in
theorem gX4_fails_X4_in : GoodIn wsX4_fails (va_wsS RX4 92 yX4_in wsX4_in) := goodIn_app (goodIn_of _ (by decide +kernel)) ggX4_fails_X4_in
set_option maxRecDepth 20000 in
theorem ggX4_fails_X4_asks : GoodIn wsX4_fails wsX4_asks := goodIn_r _ [25, 26, 27, 2, 28, 29, 30, 31, 32, 33, 34, 35, 11, 36, 37, 1, 38, 39, 40, 41, 42, 43, 44, 45, 3, 46, 47, 48, 49, 22, 23, 24, 50, 51, 52, 53, 54, 55, 56, 57, 58, 59, 60, 61, 62, 63, 4, 64, 65, 66, 67, 68, 69, 70, 71, 72, 73, 74, 75, 76, 77, 78, 79, 80, 81, 82, 83, 84, 85, 86, 87, 88, 89, 90, 91, 92, 93, 94, 95, 96] (by decide +kernel) (by decide +kernel)
set_option maxRecDepth 20000 in
theorem gX4_fails_X4_asks : GoodIn wsX4_fails (wsV RX4 137 RX4 yX4_asks wsX4_asks) := goodIn_app (goodIn_of _ (by decide +kernel)) ggX4_fails_X4_asks
set_option maxRecDepth 20000 in
theorem ggX4_fails_X4_asksUp : GoodIn wsX4_fails wsX4_asksUp := goodIn_r _ [50, 51, 22, 23, 24, 11, 36, 37, 1, 38, 39, 40, 41, 42, 43, 44, 45, 3, 46, 47, 48, 49, 32, 25, 26, 27, 2, 28, 29, 30, 31, 33, 34, 35, 52, 53, 54, 55, 56, 57, 58, 59, 60, 61, 62, 63, 4, 64, 65, 66, 67, 68, 69, 70, 71, 72, 73, 74, 75, 76, 77, 78, 79, 80, 81, 82, 83, 84, 85, 86, 87, 88, 89, 90, 91, 92, 93, 94, 95, 96] (by decide +kernel) (by decide +kernel)
set_option maxRecDepth 20000 in
theorem gX4_fails_X4_asksUp : GoodIn wsX4_fails (wsV RX4 127 RX4 yX4_asksUp wsX4_asksUp) := goodIn_app (goodIn_of _ (by decide +kernel)) ggX4_fails_X4_asksUp
set_option maxRecDepth 20000 in
theorem ggX4_fails_X4_due : GoodIn wsX4_fails wsX4_due := goodIn_r _ [44, 45, 3, 46, 47, 48, 49, 32, 67, 68, 69, 70, 71, 72, 73, 74, 75, 76, 77, 78, 79, 80, 81, 82, 83, 84, 85, 86, 87, 88, 89, 90, 91, 92, 93, 94, 95, 96] (by decide +kernel) (by decide +kernel)
set_option maxRecDepth 20000 in
theorem gX4_fails_X4_due : GoodIn wsX4_fails (wsV RX4 119 RX4 yX4_due wsX4_due) := goodIn_app (goodIn_of _ (by decide +kernel)) ggX4_fails_X4_due
set_option maxRecDepth 20000 in
theorem ggX4_fails_X4_goesBack : GoodIn wsX4_fails wsX4_goesBack := goodIn_r _ [52, 53, 51, 54, 55, 56, 11, 57, 37, 58, 59, 60, 41, 42, 43, 44, 45, 3, 46, 47, 48, 49, 32, 36, 1, 38, 39, 40, 22, 23, 24, 25, 26, 27, 2, 28, 29, 30, 31, 33, 34, 35, 50, 61, 62, 63, 4, 64, 65, 66, 67, 68, 69, 70, 71, 72, 73, 74, 75, 76, 77, 78, 79, 80, 81, 82, 83, 84, 85, 86, 87, 88, 89, 90, 91, 92, 93, 94, 95, 96] (by decide +kernel) (by decide +kernel)
set_option maxRecDepth 20000 in
theorem gX4_fails_X4_goesBack : GoodIn wsX4_fails (wsV RX4 123 RX4 yX4_goesBack wsX4_goesBack) := goodIn_app (goodIn_of _ (by decide +kernel)) ggX4_fails_X4_goesBack
set_option maxRecDepth 20000 in
theorem ggX4_fails_X4_menderOf : GoodIn wsX4_fails wsX4_menderOf := goodIn_r _ [57, 37, 51, 67, 68, 69, 70, 71, 72, 73, 74, 75, 76, 77, 78, 79, 80, 81, 82, 83, 84, 85, 86, 87, 88, 89, 90, 91, 92, 93, 94, 95, 96] (by decide +kernel) (by decide +kernel)
set_option maxRecDepth 20000 in
theorem gX4_fails_X4_menderOf : GoodIn wsX4_fails (wsV RX4 107 RX4 yX4_menderOf wsX4_menderOf) := goodIn_app (goodIn_of _ (by decide +kernel)) ggX4_fails_X4_menderOf
theorem dX4_fails_0 : decode cX4_fails 0 = .ok (.aload_n 0, 1) := by decide +kernel
theorem dX4_fails_1 : decode cX4_fails 1 = .ok (.iload_n 1, 1) := by decide +kernel
theorem dX4_fails_2 : decode cX4_fails 2 = .ok (.invokevirtual 100, 3) := by decide +kernel
theorem dX4_fails_5 : decode cX4_fails 5 = .ok (.ifCond .eq 11, 3) := by decide +kernel
theorem dX4_fails_8 : decode cX4_fails 8 = .ok (.aload_n 0, 1) := by decide +kernel
theorem dX4_fails_9 : decode cX4_fails 9 = .ok (.iload_n 2, 1) := by decide +kernel
theorem dX4_fails_10 : decode cX4_fails 10 = .ok (.invokevirtual 96, 3) := by decide +kernel
theorem dX4_fails_13 : decode cX4_fails 13 = .ok (.ifCond .ne 5, 3) := by decide +kernel
theorem dX4_fails_16 : decode cX4_fails 16 = .ok (.iconst (-1), 1) := by decide +kernel
theorem dX4_fails_17 : decode cX4_fails 17 = .ok (.ireturn, 1) := by decide +kernel
theorem dX4_fails_18 : decode cX4_fails 18 = .ok (.iload_n 3, 1) := by decide +kernel
theorem dX4_fails_19 : decode cX4_fails 19 = .ok (.iconst 0, 1) := by decide +kernel
theorem dX4_fails_20 : decode cX4_fails 20 = .ok (.iconst 2, 1) := by decide +kernel
theorem dX4_fails_21 : decode cX4_fails 21 = .ok (.invokestatic 92, 3) := by decide +kernel
theorem dX4_fails_24 : decode cX4_fails 24 = .ok (.ifCond .ne 6, 3) := by decide +kernel
theorem dX4_fails_27 : decode cX4_fails 27 = .ok (.bipush (-2), 2) := by decide +kernel
theorem dX4_fails_29 : decode cX4_fails 29 = .ok (.ireturn, 1) := by decide +kernel
theorem dX4_fails_30 : decode cX4_fails 30 = .ok (.iload_n 3, 1) := by decide +kernel
theorem dX4_fails_31 : decode cX4_fails 31 = .ok (.iconst 1, 1) := by decide +kernel
theorem dX4_fails_32 : decode cX4_fails 32 = .ok (.if_icmp .ne 16, 3) := by decide +kernel
theorem dX4_fails_35 : decode cX4_fails 35 = .ok (.aload_n 0, 1) := by decide +kernel
theorem dX4_fails_36 : decode cX4_fails 36 = .ok (.getfield 20, 3) := by decide +kernel
theorem dX4_fails_39 : decode cX4_fails 39 = .ok (.iload_n 2, 1) := by decide +kernel
theorem dX4_fails_40 : decode cX4_fails 40 = .ok (.iaload, 1) := by decide +kernel
theorem dX4_fails_41 : decode cX4_fails 41 = .ok (.iconst (-1), 1) := by decide +kernel
theorem dX4_fails_42 : decode cX4_fails 42 = .ok (.if_icmp .ne 6, 3) := by decide +kernel
theorem dX4_fails_45 : decode cX4_fails 45 = .ok (.bipush (-3), 2) := by decide +kernel
theorem dX4_fails_47 : decode cX4_fails 47 = .ok (.ireturn, 1) := by decide +kernel
theorem dX4_fails_48 : decode cX4_fails 48 = .ok (.aload_n 0, 1) := by decide +kernel
theorem dX4_fails_49 : decode cX4_fails 49 = .ok (.getfield 110, 3) := by decide +kernel
theorem dX4_fails_52 : decode cX4_fails 52 = .ok (.bipush 100, 2) := by decide +kernel
theorem dX4_fails_54 : decode cX4_fails 54 = .ok (.if_icmp .gt 12, 3) := by decide +kernel
theorem dX4_fails_57 : decode cX4_fails 57 = .ok (.aload_n 0, 1) := by decide +kernel
theorem dX4_fails_58 : decode cX4_fails 58 = .ok (.getfield 113, 3) := by decide +kernel
theorem dX4_fails_61 : decode cX4_fails 61 = .ok (.bipush 100, 2) := by decide +kernel
theorem dX4_fails_63 : decode cX4_fails 63 = .ok (.if_icmp .le 6, 3) := by decide +kernel
theorem dX4_fails_66 : decode cX4_fails 66 = .ok (.bipush (-4), 2) := by decide +kernel
theorem dX4_fails_68 : decode cX4_fails 68 = .ok (.ireturn, 1) := by decide +kernel
theorem dX4_fails_69 : decode cX4_fails 69 = .ok (.aload_n 0, 1) := by decide +kernel
theorem dX4_fails_70 : decode cX4_fails 70 = .ok (.getfield 56, 3) := by decide +kernel
theorem dX4_fails_73 : decode cX4_fails 73 = .ok (.iload_n 2, 1) := by decide +kernel
theorem dX4_fails_74 : decode cX4_fails 74 = .ok (.dup2, 1) := by decide +kernel
theorem dX4_fails_75 : decode cX4_fails 75 = .ok (.iaload, 1) := by decide +kernel
theorem dX4_fails_76 : decode cX4_fails 76 = .ok (.iconst 1, 1) := by decide +kernel
theorem dX4_fails_77 : decode cX4_fails 77 = .ok (.iadd, 1) := by decide +kernel
theorem dX4_fails_78 : decode cX4_fails 78 = .ok (.iastore, 1) := by decide +kernel
theorem dX4_fails_79 : decode cX4_fails 79 = .ok (.aload_n 0, 1) := by decide +kernel
theorem dX4_fails_80 : decode cX4_fails 80 = .ok (.iload_n 1, 1) := by decide +kernel
theorem dX4_fails_81 : decode cX4_fails 81 = .ok (.iload_n 2, 1) := by decide +kernel
theorem dX4_fails_82 : decode cX4_fails 82 = .ok (.iconst 0, 1) := by decide +kernel
theorem dX4_fails_83 : decode cX4_fails 83 = .ok (.iconst (-1), 1) := by decide +kernel
theorem dX4_fails_84 : decode cX4_fails 84 = .ok (.invokevirtual 137, 3) := by decide +kernel
theorem dX4_fails_87 : decode cX4_fails 87 = .ok (.istore 4, 2) := by decide +kernel
theorem dX4_fails_89 : decode cX4_fails 89 = .ok (.iload_n 3, 1) := by decide +kernel
theorem dX4_fails_90 : decode cX4_fails 90 = .ok (.iconst 2, 1) := by decide +kernel
theorem dX4_fails_91 : decode cX4_fails 91 = .ok (.if_icmp .ne 47, 3) := by decide +kernel
theorem dX4_fails_94 : decode cX4_fails 94 = .ok (.aload_n 0, 1) := by decide +kernel
theorem dX4_fails_95 : decode cX4_fails 95 = .ok (.getfield 47, 3) := by decide +kernel
theorem dX4_fails_98 : decode cX4_fails 98 = .ok (.iload_n 2, 1) := by decide +kernel
theorem dX4_fails_99 : decode cX4_fails 99 = .ok (.dup2, 1) := by decide +kernel
theorem dX4_fails_100 : decode cX4_fails 100 = .ok (.iaload, 1) := by decide +kernel
theorem dX4_fails_101 : decode cX4_fails 101 = .ok (.iconst 1, 1) := by decide +kernel
theorem dX4_fails_102 : decode cX4_fails 102 = .ok (.iadd, 1) := by decide +kernel
theorem dX4_fails_103 : decode cX4_fails 103 = .ok (.iastore, 1) := by decide +kernel
theorem dX4_fails_104 : decode cX4_fails 104 = .ok (.aload_n 0, 1) := by decide +kernel
theorem dX4_fails_105 : decode cX4_fails 105 = .ok (.iload_n 1, 1) := by decide +kernel
theorem dX4_fails_106 : decode cX4_fails 106 = .ok (.iload_n 2, 1) := by decide +kernel
theorem dX4_fails_107 : decode cX4_fails 107 = .ok (.iconst 0, 1) := by decide +kernel
theorem dX4_fails_108 : decode cX4_fails 108 = .ok (.invokevirtual 127, 3) := by decide +kernel
theorem dX4_fails_111 : decode cX4_fails 111 = .ok (.aload_n 0, 1) := by decide +kernel
theorem dX4_fails_112 : decode cX4_fails 112 = .ok (.getfield 44, 3) := by decide +kernel
theorem dX4_fails_115 : decode cX4_fails 115 = .ok (.iload_n 2, 1) := by decide +kernel
theorem dX4_fails_116 : decode cX4_fails 116 = .ok (.dup2, 1) := by decide +kernel
theorem dX4_fails_117 : decode cX4_fails 117 = .ok (.iaload, 1) := by decide +kernel
theorem dX4_fails_118 : decode cX4_fails 118 = .ok (.iconst 1, 1) := by decide +kernel
theorem dX4_fails_119 : decode cX4_fails 119 = .ok (.iadd, 1) := by decide +kernel
theorem dX4_fails_120 : decode cX4_fails 120 = .ok (.iastore, 1) := by decide +kernel
theorem dX4_fails_121 : decode cX4_fails 121 = .ok (.aload_n 0, 1) := by decide +kernel
theorem dX4_fails_122 : decode cX4_fails 122 = .ok (.iconst 2, 1) := by decide +kernel
theorem dX4_fails_123 : decode cX4_fails 123 = .ok (.iconst 0, 1) := by decide +kernel
theorem dX4_fails_124 : decode cX4_fails 124 = .ok (.iload_n 2, 1) := by decide +kernel
theorem dX4_fails_125 : decode cX4_fails 125 = .ok (.iconst 0, 1) := by decide +kernel
theorem dX4_fails_126 : decode cX4_fails 126 = .ok (.aload_n 0, 1) := by decide +kernel
theorem dX4_fails_127 : decode cX4_fails 127 = .ok (.getfield 17, 3) := by decide +kernel
theorem dX4_fails_130 : decode cX4_fails 130 = .ok (.iload_n 2, 1) := by decide +kernel
theorem dX4_fails_131 : decode cX4_fails 131 = .ok (.iaload, 1) := by decide +kernel
theorem dX4_fails_132 : decode cX4_fails 132 = .ok (.invokevirtual 119, 3) := by decide +kernel
theorem dX4_fails_135 : decode cX4_fails 135 = .ok (.goto 22, 3) := by decide +kernel
theorem dX4_fails_138 : decode cX4_fails 138 = .ok (.aload_n 0, 1) := by decide +kernel
theorem dX4_fails_139 : decode cX4_fails 139 = .ok (.iload_n 1, 1) := by decide +kernel
theorem dX4_fails_140 : decode cX4_fails 140 = .ok (.iload_n 2, 1) := by decide +kernel
theorem dX4_fails_141 : decode cX4_fails 141 = .ok (.iload_n 3, 1) := by decide +kernel
theorem dX4_fails_142 : decode cX4_fails 142 = .ok (.invokevirtual 123, 3) := by decide +kernel
theorem dX4_fails_145 : decode cX4_fails 145 = .ok (.aload_n 0, 1) := by decide +kernel
theorem dX4_fails_146 : decode cX4_fails 146 = .ok (.iload_n 1, 1) := by decide +kernel
theorem dX4_fails_147 : decode cX4_fails 147 = .ok (.iload_n 2, 1) := by decide +kernel
theorem dX4_fails_148 : decode cX4_fails 148 = .ok (.aload_n 0, 1) := by decide +kernel
theorem dX4_fails_149 : decode cX4_fails 149 = .ok (.iload_n 1, 1) := by decide +kernel
theorem dX4_fails_150 : decode cX4_fails 150 = .ok (.iload_n 2, 1) := by decide +kernel
theorem dX4_fails_151 : decode cX4_fails 151 = .ok (.invokevirtual 107, 3) := by decide +kernel
theorem dX4_fails_154 : decode cX4_fails 154 = .ok (.invokevirtual 127, 3) := by decide +kernel
theorem dX4_fails_157 : decode cX4_fails 157 = .ok (.iload 4, 2) := by decide +kernel
theorem dX4_fails_159 : decode cX4_fails 159 = .ok (.ifCond .eq 7, 3) := by decide +kernel
theorem dX4_fails_162 : decode cX4_fails 162 = .ok (.iconst 1, 1) := by decide +kernel
theorem dX4_fails_163 : decode cX4_fails 163 = .ok (.goto 4, 3) := by decide +kernel
theorem dX4_fails_166 : decode cX4_fails 166 = .ok (.iconst 0, 1) := by decide +kernel
theorem dX4_fails_167 : decode cX4_fails 167 = .ok (.ireturn, 1) := by decide +kernel
set_option maxRecDepth 20000 in
theorem ggX4_isDone_X4_arrives : GoodIn wsX4_isDone wsX4_arrives := goodIn_r _ [12, 13, 14, 15, 16, 17, 11, 18, 19, 20, 21, 4, 1, 5, 6, 7, 2, 3, 22, 23, 24, 25, 26, 27, 28, 29, 30, 31, 32, 33, 34, 35, 36, 37, 38, 39, 40, 41, 42, 43, 8, 9, 10, 44, 45, 46, 47, 48, 49, 50, 55, 56, 57, 58, 59, 60, 61, 62, 63, 64, 65, 66, 67, 68, 69, 70, 71, 72, 73, 74, 75, 76, 77, 78, 79, 80, 81, 82, 83, 84] (by decide +kernel) (by decide +kernel)
set_option maxRecDepth 20000 in
theorem gX4_isDone_X4_arrives : GoodIn wsX4_isDone (wsV RX4 134 RX4 yX4_arrives wsX4_arrives) := goodIn_app (goodIn_of _ (by decide +kernel)) ggX4_isDone_X4_arrives
set_option maxRecDepth 20000 in
theorem ggX4_isDone_X4_lands : GoodIn wsX4_isDone wsX4_lands := goodIn_r _ [54, 28, 27, 29, 26, 30, 31, 32, 33, 34, 35, 11, 44, 45, 39, 46, 47, 13, 18, 19, 20, 21, 4, 1, 5, 6, 7, 2, 3, 15, 16, 17, 40, 41, 42, 43, 37, 48, 49, 50, 12, 14, 22, 23, 24, 25, 36, 38, 8, 9, 10, 55, 56, 57, 58, 59, 60, 61, 62, 63, 64, 65, 66, 67, 68, 69, 70, 71, 72, 73, 74, 75, 76, 77, 78, 79, 80, 81, 82, 83, 84] (by decide +kernel) (by decide +kernel)
set_option maxRecDepth 20000 in
theorem gX4_isDone_X4_lands : GoodIn wsX4_isDone (wsV RX4 140 RX4 yX4_lands wsX4_lands) := goodIn_app (goodIn_of _ (by decide +kernel)) ggX4_isDone_X4_lands
theorem dX4_isDone_0 : decode cX4_isDone 0 = .ok (.iconst 0, 1) := by decide +kernel
theorem dX4_isDone_1 : decode cX4_isDone 1 = .ok (.istore_n 1, 1) := by decide +kernel
theorem dX4_isDone_2 : decode cX4_isDone 2 = .ok (.iload_n 1, 1) := by decide +kernel
theorem dX4_isDone_3 : decode cX4_isDone 3 = .ok (.aload_n 0, 1) := by decide +kernel
theorem dX4_isDone_4 : decode cX4_isDone 4 = .ok (.getfield 113, 3) := by decide +kernel
theorem dX4_isDone_7 : decode cX4_isDone 7 = .ok (.if_icmp .ge 22, 3) := by decide +kernel
theorem dX4_isDone_10 : decode cX4_isDone 10 = .ok (.aload_n 0, 1) := by decide +kernel
theorem dX4_isDone_11 : decode cX4_isDone 11 = .ok (.getfield 86, 3) := by decide +kernel
theorem dX4_isDone_14 : decode cX4_isDone 14 = .ok (.iload_n 1, 1) := by decide +kernel
theorem dX4_isDone_15 : decode cX4_isDone 15 = .ok (.iaload, 1) := by decide +kernel
theorem dX4_isDone_16 : decode cX4_isDone 16 = .ok (.aload_n 0, 1) := by decide +kernel
theorem dX4_isDone_17 : decode cX4_isDone 17 = .ok (.getfield 116, 3) := by decide +kernel
theorem dX4_isDone_20 : decode cX4_isDone 20 = .ok (.if_icmp .eq 9, 3) := by decide +kernel
theorem dX4_isDone_23 : decode cX4_isDone 23 = .ok (.iinc 1 1, 3) := by decide +kernel
theorem dX4_isDone_26 : decode cX4_isDone 26 = .ok (.goto (-24), 3) := by decide +kernel
theorem dX4_isDone_29 : decode cX4_isDone 29 = .ok (.iload_n 1, 1) := by decide +kernel
theorem dX4_isDone_30 : decode cX4_isDone 30 = .ok (.aload_n 0, 1) := by decide +kernel
theorem dX4_isDone_31 : decode cX4_isDone 31 = .ok (.getfield 113, 3) := by decide +kernel
theorem dX4_isDone_34 : decode cX4_isDone 34 = .ok (.if_icmp .ne 5, 3) := by decide +kernel
theorem dX4_isDone_37 : decode cX4_isDone 37 = .ok (.iconst 0, 1) := by decide +kernel
theorem dX4_isDone_38 : decode cX4_isDone 38 = .ok (.ireturn, 1) := by decide +kernel
theorem dX4_isDone_39 : decode cX4_isDone 39 = .ok (.aload_n 0, 1) := by decide +kernel
theorem dX4_isDone_40 : decode cX4_isDone 40 = .ok (.getfield 74, 3) := by decide +kernel
theorem dX4_isDone_43 : decode cX4_isDone 43 = .ok (.iload_n 1, 1) := by decide +kernel
theorem dX4_isDone_44 : decode cX4_isDone 44 = .ok (.iaload, 1) := by decide +kernel
theorem dX4_isDone_45 : decode cX4_isDone 45 = .ok (.istore_n 2, 1) := by decide +kernel
theorem dX4_isDone_46 : decode cX4_isDone 46 = .ok (.aload_n 0, 1) := by decide +kernel
theorem dX4_isDone_47 : decode cX4_isDone 47 = .ok (.getfield 77, 3) := by decide +kernel
theorem dX4_isDone_50 : decode cX4_isDone 50 = .ok (.iload_n 1, 1) := by decide +kernel
theorem dX4_isDone_51 : decode cX4_isDone 51 = .ok (.iaload, 1) := by decide +kernel
