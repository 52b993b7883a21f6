theorem dX4_in_0 : decode cX4_in 0 = .ok (.iload_n 0, 1) := by decide +kernel
theorem dX4_in_1 : decode cX4_in 1 = .ok (.iload_n 1, 1) := by decide +kernel
theorem dX4_in_2 : decode cX4_in 2 = .ok (.if_icmp .lt 12, 3) := by decide +kernel
theorem dX4_in_5 : decode cX4_in 5 = .ok (.iload_n 0, 1) := by decide +kernel
theorem dX4_in_6 : decode cX4_in 6 = .ok (.iload_n 2, 1) := by decide +kernel
theorem dX4_in_7 : decode cX4_in 7 = .ok (.if_icmp .gt 7, 3) := by decide +kernel
theorem dX4_in_10 : decode cX4_in 10 = .ok (.iconst 1, 1) := by decide +kernel
theorem dX4_in_11 : decode cX4_in 11 = .ok (.goto 4, 3) := by decide +kernel
theorem dX4_in_14 : decode cX4_in 14 = .ok (.iconst 0, 1) := by decide +kernel
theorem dX4_in_15 : decode cX4_in 15 = .ok (.ireturn, 1) := by decide +kernel
theorem dX4_init_0 : decode cX4_init 0 = .ok (.aload_n 0, 1) := by decide +kernel
theorem dX4_init_1 : decode cX4_init 1 = .ok (.invokespecial 7, 3) := by decide +kernel
theorem dX4_init_4 : decode cX4_init 4 = .ok (.aload_n 0, 1) := by decide +kernel
theorem dX4_init_5 : decode cX4_init 5 = .ok (.bipush 8, 2) := by decide +kernel
theorem dX4_init_7 : decode cX4_init 7 = .ok (.newarray .int, 2) := by decide +kernel
theorem dX4_init_9 : decode cX4_init 9 = .ok (.putfield 13, 3) := by decide +kernel
theorem dX4_init_12 : decode cX4_init 12 = .ok (.aload_n 0, 1) := by decide +kernel
theorem dX4_init_13 : decode cX4_init 13 = .ok (.bipush 8, 2) := by decide +kernel
theorem dX4_init_15 : decode cX4_init 15 = .ok (.newarray .int, 2) := by decide +kernel
theorem dX4_init_17 : decode cX4_init 17 = .ok (.putfield 17, 3) := by decide +kernel
theorem dX4_init_20 : decode cX4_init 20 = .ok (.aload_n 0, 1) := by decide +kernel
theorem dX4_init_21 : decode cX4_init 21 = .ok (.bipush 8, 2) := by decide +kernel
theorem dX4_init_23 : decode cX4_init 23 = .ok (.newarray .int, 2) := by decide +kernel
theorem dX4_init_25 : decode cX4_init 25 = .ok (.putfield 20, 3) := by decide +kernel
theorem dX4_init_28 : decode cX4_init 28 = .ok (.aload_n 0, 1) := by decide +kernel
theorem dX4_init_29 : decode cX4_init 29 = .ok (.iconst 1, 1) := by decide +kernel
theorem dX4_init_30 : decode cX4_init 30 = .ok (.putfield 23, 3) := by decide +kernel
theorem dX4_init_33 : decode cX4_init 33 = .ok (.aload_n 0, 1) := by decide +kernel
theorem dX4_init_34 : decode cX4_init 34 = .ok (.bipush 8, 2) := by decide +kernel
theorem dX4_init_36 : decode cX4_init 36 = .ok (.newarray .int, 2) := by decide +kernel
theorem dX4_init_38 : decode cX4_init 38 = .ok (.putfield 26, 3) := by decide +kernel
theorem dX4_init_41 : decode cX4_init 41 = .ok (.aload_n 0, 1) := by decide +kernel
theorem dX4_init_42 : decode cX4_init 42 = .ok (.bipush 8, 2) := by decide +kernel
theorem dX4_init_44 : decode cX4_init 44 = .ok (.newarray .int, 2) := by decide +kernel
theorem dX4_init_46 : decode cX4_init 46 = .ok (.putfield 29, 3) := by decide +kernel
theorem dX4_init_49 : decode cX4_init 49 = .ok (.aload_n 0, 1) := by decide +kernel
theorem dX4_init_50 : decode cX4_init 50 = .ok (.bipush 8, 2) := by decide +kernel
theorem dX4_init_52 : decode cX4_init 52 = .ok (.newarray .int, 2) := by decide +kernel
theorem dX4_init_54 : decode cX4_init 54 = .ok (.putfield 32, 3) := by decide +kernel
theorem dX4_init_57 : decode cX4_init 57 = .ok (.aload_n 0, 1) := by decide +kernel
theorem dX4_init_58 : decode cX4_init 58 = .ok (.bipush 64, 2) := by decide +kernel
theorem dX4_init_60 : decode cX4_init 60 = .ok (.newarray .int, 2) := by decide +kernel
theorem dX4_init_62 : decode cX4_init 62 = .ok (.putfield 35, 3) := by decide +kernel
theorem dX4_init_65 : decode cX4_init 65 = .ok (.aload_n 0, 1) := by decide +kernel
theorem dX4_init_66 : decode cX4_init 66 = .ok (.bipush 64, 2) := by decide +kernel
theorem dX4_init_68 : decode cX4_init 68 = .ok (.newarray .int, 2) := by decide +kernel
theorem dX4_init_70 : decode cX4_init 70 = .ok (.putfield 38, 3) := by decide +kernel
theorem dX4_init_73 : decode cX4_init 73 = .ok (.aload_n 0, 1) := by decide +kernel
theorem dX4_init_74 : decode cX4_init 74 = .ok (.bipush 64, 2) := by decide +kernel
theorem dX4_init_76 : decode cX4_init 76 = .ok (.newarray .int, 2) := by decide +kernel
theorem dX4_init_78 : decode cX4_init 78 = .ok (.putfield 41, 3) := by decide +kernel
theorem dX4_init_81 : decode cX4_init 81 = .ok (.aload_n 0, 1) := by decide +kernel
theorem dX4_init_82 : decode cX4_init 82 = .ok (.bipush 8, 2) := by decide +kernel
theorem dX4_init_84 : decode cX4_init 84 = .ok (.newarray .int, 2) := by decide +kernel
theorem dX4_init_86 : decode cX4_init 86 = .ok (.putfield 44, 3) := by decide +kernel
theorem dX4_init_89 : decode cX4_init 89 = .ok (.aload_n 0, 1) := by decide +kernel
theorem dX4_init_90 : decode cX4_init 90 = .ok (.bipush 8, 2) := by decide +kernel
theorem dX4_init_92 : decode cX4_init 92 = .ok (.newarray .int, 2) := by decide +kernel
theorem dX4_init_94 : decode cX4_init 94 = .ok (.putfield 47, 3) := by decide +kernel
theorem dX4_init_97 : decode cX4_init 97 = .ok (.aload_n 0, 1) := by decide +kernel
theorem dX4_init_98 : decode cX4_init 98 = .ok (.bipush 8, 2) := by decide +kernel
theorem dX4_init_100 : decode cX4_init 100 = .ok (.newarray .int, 2) := by decide +kernel
theorem dX4_init_102 : decode cX4_init 102 = .ok (.putfield 50, 3) := by decide +kernel
theorem dX4_init_105 : decode cX4_init 105 = .ok (.aload_n 0, 1) := by decide +kernel
theorem dX4_init_106 : decode cX4_init 106 = .ok (.bipush 8, 2) := by decide +kernel
theorem dX4_init_108 : decode cX4_init 108 = .ok (.newarray .int, 2) := by decide +kernel
theorem dX4_init_110 : decode cX4_init 110 = .ok (.putfield 53, 3) := by decide +kernel
theorem dX4_init_113 : decode cX4_init 113 = .ok (.aload_n 0, 1) := by decide +kernel
theorem dX4_init_114 : decode cX4_init 114 = .ok (.bipush 8, 2) := by decide +kernel
theorem dX4_init_116 : decode cX4_init 116 = .ok (.newarray .int, 2) := by decide +kernel
theorem dX4_init_118 : decode cX4_init 118 = .ok (.putfield 56, 3) := by decide +kernel
theorem dX4_init_121 : decode cX4_init 121 = .ok (.aload_n 0, 1) := by decide +kernel
theorem dX4_init_122 : decode cX4_init 122 = .ok (.sipush 6000, 3) := by decide +kernel
theorem dX4_init_125 : decode cX4_init 125 = .ok (.newarray .int, 2) := by decide +kernel
theorem dX4_init_127 : decode cX4_init 127 = .ok (.putfield 59, 3) := by decide +kernel
theorem dX4_init_130 : decode cX4_init 130 = .ok (.aload_n 0, 1) := by decide +kernel
theorem dX4_init_131 : decode cX4_init 131 = .ok (.sipush 6000, 3) := by decide +kernel
theorem dX4_init_134 : decode cX4_init 134 = .ok (.newarray .int, 2) := by decide +kernel
theorem dX4_init_136 : decode cX4_init 136 = .ok (.putfield 62, 3) := by decide +kernel
theorem dX4_init_139 : decode cX4_init 139 = .ok (.aload_n 0, 1) := by decide +kernel
theorem dX4_init_140 : decode cX4_init 140 = .ok (.sipush 6000, 3) := by decide +kernel
theorem dX4_init_143 : decode cX4_init 143 = .ok (.newarray .int, 2) := by decide +kernel
theorem dX4_init_145 : decode cX4_init 145 = .ok (.putfield 65, 3) := by decide +kernel
theorem dX4_init_148 : decode cX4_init 148 = .ok (.aload_n 0, 1) := by decide +kernel
theorem dX4_init_149 : decode cX4_init 149 = .ok (.sipush 6000, 3) := by decide +kernel
theorem dX4_init_152 : decode cX4_init 152 = .ok (.newarray .int, 2) := by decide +kernel
theorem dX4_init_154 : decode cX4_init 154 = .ok (.putfield 68, 3) := by decide +kernel
theorem dX4_init_157 : decode cX4_init 157 = .ok (.aload_n 0, 1) := by decide +kernel
theorem dX4_init_158 : decode cX4_init 158 = .ok (.sipush 6000, 3) := by decide +kernel
theorem dX4_init_161 : decode cX4_init 161 = .ok (.newarray .int, 2) := by decide +kernel
theorem dX4_init_163 : decode cX4_init 163 = .ok (.putfield 71, 3) := by decide +kernel
theorem dX4_init_166 : decode cX4_init 166 = .ok (.aload_n 0, 1) := by decide +kernel
theorem dX4_init_167 : decode cX4_init 167 = .ok (.sipush 6000, 3) := by decide +kernel
theorem dX4_init_170 : decode cX4_init 170 = .ok (.newarray .int, 2) := by decide +kernel
theorem dX4_init_172 : decode cX4_init 172 = .ok (.putfield 74, 3) := by decide +kernel
theorem dX4_init_175 : decode cX4_init 175 = .ok (.aload_n 0, 1) := by decide +kernel
theorem dX4_init_176 : decode cX4_init 176 = .ok (.sipush 6000, 3) := by decide +kernel
theorem dX4_init_179 : decode cX4_init 179 = .ok (.newarray .int, 2) := by decide +kernel
theorem dX4_init_181 : decode cX4_init 181 = .ok (.putfield 77, 3) := by decide +kernel
theorem dX4_init_184 : decode cX4_init 184 = .ok (.aload_n 0, 1) := by decide +kernel
theorem dX4_init_185 : decode cX4_init 185 = .ok (.sipush 6000, 3) := by decide +kernel
theorem dX4_init_188 : decode cX4_init 188 = .ok (.newarray .int, 2) := by decide +kernel
theorem dX4_init_190 : decode cX4_init 190 = .ok (.putfield 80, 3) := by decide +kernel
theorem dX4_init_193 : decode cX4_init 193 = .ok (.aload_n 0, 1) := by decide +kernel
theorem dX4_init_194 : decode cX4_init 194 = .ok (.sipush 6000, 3) := by decide +kernel
theorem dX4_init_197 : decode cX4_init 197 = .ok (.newarray .int, 2) := by decide +kernel
theorem dX4_init_199 : decode cX4_init 199 = .ok (.putfield 83, 3) := by decide +kernel
theorem dX4_init_202 : decode cX4_init 202 = .ok (.aload_n 0, 1) := by decide +kernel
theorem dX4_init_203 : decode cX4_init 203 = .ok (.sipush 6000, 3) := by decide +kernel
theorem dX4_init_206 : decode cX4_init 206 = .ok (.newarray .int, 2) := by decide +kernel
theorem dX4_init_208 : decode cX4_init 208 = .ok (.putfield 86, 3) := by decide +kernel
theorem dX4_init_211 : decode cX4_init 211 = .ok (.aload_n 0, 1) := by decide +kernel
theorem dX4_init_212 : decode cX4_init 212 = .ok (.getfield 26, 3) := by decide +kernel
theorem dX4_init_215 : decode cX4_init 215 = .ok (.iconst 0, 1) := by decide +kernel
theorem dX4_init_216 : decode cX4_init 216 = .ok (.iconst (-1), 1) := by decide +kernel
theorem dX4_init_217 : decode cX4_init 217 = .ok (.iastore, 1) := by decide +kernel
theorem dX4_init_218 : decode cX4_init 218 = .ok (.return_, 1) := by decide +kernel
set_option maxRecDepth 20000 in
theorem ggX4_isKind_X4_in : GoodIn wsX4_isKind wsX4_in := goodIn_r _ [5] (by decide +kernel) (by decide +kernel)
set_option maxRecDepth 20000 in
theorem gX4_isKind_X4_in : GoodIn wsX4_isKind (va_wsS RX4 92 yX4_in wsX4_in) := goodIn_app (goodIn_of _ (by decide +kernel)) ggX4_isKind_X4_in
theorem dX4_isKind_0 : decode cX4_isKind 0 = .ok (.iload_n 1, 1) := by decide +kernel
theorem dX4_isKind_1 : decode cX4_isKind 1 = .ok (.iconst 0, 1) := by decide +kernel
theorem dX4_isKind_2 : decode cX4_isKind 2 = .ok (.aload_n 0, 1) := by decide +kernel
theorem dX4_isKind_3 : decode cX4_isKind 3 = .ok (.getfield 89, 3) := by decide +kernel
theorem dX4_isKind_6 : decode cX4_isKind 6 = .ok (.iconst 1, 1) := by decide +kernel
theorem dX4_isKind_7 : decode cX4_isKind 7 = .ok (.isub, 1) := by decide +kernel
theorem dX4_isKind_8 : decode cX4_isKind 8 = .ok (.invokestatic 92, 3) := by decide +kernel
theorem dX4_isKind_11 : decode cX4_isKind 11 = .ok (.ireturn, 1) := by decide +kernel
set_option maxRecDepth 20000 in
theorem ggX4_isShelf_X4_in : GoodIn wsX4_isShelf wsX4_in := goodIn_r _ [5] (by decide +kernel) (by decide +kernel)
set_option maxRecDepth 20000 in
theorem gX4_isShelf_X4_in : GoodIn wsX4_isShelf (va_wsS RX4 92 yX4_in wsX4_in) := goodIn_app (goodIn_of _ (by decide +kernel)) ggX4_isShelf_X4_in
theorem dX4_isShelf_0 : decode cX4_isShelf 0 = .ok (.iload_n 1, 1) := by decide +kernel
theorem dX4_isShelf_1 : decode cX4_isShelf 1 = .ok (.iconst 0, 1) := by decide +kernel
theorem dX4_isShelf_2 : decode cX4_isShelf 2 = .ok (.aload_n 0, 1) := by decide +kernel
theorem dX4_isShelf_3 : decode cX4_isShelf 3 = .ok (.getfield 23, 3) := by decide +kernel
theorem dX4_isShelf_6 : decode cX4_isShelf 6 = .ok (.iconst 1, 1) := by decide +kernel
theorem dX4_isShelf_7 : decode cX4_isShelf 7 = .ok (.isub, 1) := by decide +kernel
theorem dX4_isShelf_8 : decode cX4_isShelf 8 = .ok (.invokestatic 92, 3) := by decide +kernel
theorem dX4_isShelf_11 : decode cX4_isShelf 11 = .ok (.ireturn, 1) := by decide +kernel
set_option maxRecDepth 20000 in
theorem ggX4_kind_X4_in : GoodIn wsX4_kind wsX4_in := goodIn_r _ [9] (by decide +kernel) (by decide +kernel)
set_option maxRecDepth 20000 in
theorem gX4_kind_X4_in : GoodIn wsX4_kind (va_wsS RX4 92 yX4_in wsX4_in) := goodIn_app (goodIn_of _ (by decide +kernel)) ggX4_kind_X4_in
set_option maxRecDepth 20000 in
theorem ggX4_kind_X4_isKind : GoodIn wsX4_kind wsX4_isKind := goodIn_r _ [13, 1, 6, 7, 8, 9, 14, 15, 16, 17, 18, 19, 20, 21, 22, 23, 24, 25, 26, 27, 28, 29, 30, 31, 32, 33, 34, 35, 36, 37, 38, 39, 40, 41, 42, 43] (by decide +kernel) (by decide +kernel)
set_option maxRecDepth 20000 in
theorem gX4_kind_X4_isKind : GoodIn wsX4_kind (wsV RX4 96 RX4 yX4_isKind wsX4_isKind) := goodIn_app (goodIn_of _ (by decide +kernel)) ggX4_kind_X4_isKind
theorem dX4_kind_0 : decode cX4_kind 0 = .ok (.iload_n 1, 1) := by decide +kernel
theorem dX4_kind_1 : decode cX4_kind 1 = .ok (.iconst 1, 1) := by decide +kernel
theorem dX4_kind_2 : decode cX4_kind 2 = .ok (.sipush 1000, 3) := by decide +kernel
theorem dX4_kind_5 : decode cX4_kind 5 = .ok (.invokestatic 92, 3) := by decide +kernel
theorem dX4_kind_8 : decode cX4_kind 8 = .ok (.ifCond .eq 13, 3) := by decide +kernel
theorem dX4_kind_11 : decode cX4_kind 11 = .ok (.iload_n 2, 1) := by decide +kernel
theorem dX4_kind_12 : decode cX4_kind 12 = .ok (.iconst 1, 1) := by decide +kernel
theorem dX4_kind_13 : decode cX4_kind 13 = .ok (.bipush 50, 2) := by decide +kernel
theorem dX4_kind_15 : decode cX4_kind 15 = .ok (.invokestatic 92, 3) := by decide +kernel
theorem dX4_kind_18 : decode cX4_kind 18 = .ok (.ifCond .ne 6, 3) := by decide +kernel
theorem dX4_kind_21 : decode cX4_kind 21 = .ok (.bipush (-2), 2) := by decide +kernel
theorem dX4_kind_23 : decode cX4_kind 23 = .ok (.ireturn, 1) := by decide +kernel
theorem dX4_kind_24 : decode cX4_kind 24 = .ok (.iload_n 3, 1) := by decide +kernel
theorem dX4_kind_25 : decode cX4_kind 25 = .ok (.iconst (-1), 1) := by decide +kernel
theorem dX4_kind_26 : decode cX4_kind 26 = .ok (.if_icmp .eq 13, 3) := by decide +kernel
theorem dX4_kind_29 : decode cX4_kind 29 = .ok (.aload_n 0, 1) := by decide +kernel
theorem dX4_kind_30 : decode cX4_kind 30 = .ok (.iload_n 3, 1) := by decide +kernel
theorem dX4_kind_31 : decode cX4_kind 31 = .ok (.invokevirtual 96, 3) := by decide +kernel
theorem dX4_kind_34 : decode cX4_kind 34 = .ok (.ifCond .ne 5, 3) := by decide +kernel
theorem dX4_kind_37 : decode cX4_kind 37 = .ok (.iconst (-1), 1) := by decide +kernel
theorem dX4_kind_38 : decode cX4_kind 38 = .ok (.ireturn, 1) := by decide +kernel
theorem dX4_kind_39 : decode cX4_kind 39 = .ok (.aload_n 0, 1) := by decide +kernel
theorem dX4_kind_40 : decode cX4_kind 40 = .ok (.getfield 89, 3) := by decide +kernel
theorem dX4_kind_43 : decode cX4_kind 43 = .ok (.bipush 8, 2) := by decide +kernel
theorem dX4_kind_45 : decode cX4_kind 45 = .ok (.if_icmp .ne 6, 3) := by decide +kernel
theorem dX4_kind_48 : decode cX4_kind 48 = .ok (.bipush (-4), 2) := by decide +kernel
theorem dX4_kind_50 : decode cX4_kind 50 = .ok (.ireturn, 1) := by decide +kernel
theorem dX4_kind_51 : decode cX4_kind 51 = .ok (.aload_n 0, 1) := by decide +kernel
theorem dX4_kind_52 : decode cX4_kind 52 = .ok (.getfield 13, 3) := by decide +kernel
theorem dX4_kind_55 : decode cX4_kind 55 = .ok (.aload_n 0, 1) := by decide +kernel
theorem dX4_kind_56 : decode cX4_kind 56 = .ok (.getfield 89, 3) := by decide +kernel
theorem dX4_kind_59 : decode cX4_kind 59 = .ok (.iload_n 1, 1) := by decide +kernel
theorem dX4_kind_60 : decode cX4_kind 60 = .ok (.iastore, 1) := by decide +kernel
theorem dX4_kind_61 : decode cX4_kind 61 = .ok (.aload_n 0, 1) := by decide +kernel
theorem dX4_kind_62 : decode cX4_kind 62 = .ok (.getfield 17, 3) := by decide +kernel
theorem dX4_kind_65 : decode cX4_kind 65 = .ok (.aload_n 0, 1) := by decide +kernel
theorem dX4_kind_66 : decode cX4_kind 66 = .ok (.getfield 89, 3) := by decide +kernel
theorem dX4_kind_69 : decode cX4_kind 69 = .ok (.iload_n 2, 1) := by decide +kernel
theorem dX4_kind_70 : decode cX4_kind 70 = .ok (.iastore, 1) := by decide +kernel
theorem dX4_kind_71 : decode cX4_kind 71 = .ok (.aload_n 0, 1) := by decide +kernel
theorem dX4_kind_72 : decode cX4_kind 72 = .ok (.getfield 20, 3) := by decide +kernel
theorem dX4_kind_75 : decode cX4_kind 75 = .ok (.aload_n 0, 1) := by decide +kernel
theorem dX4_kind_76 : decode cX4_kind 76 = .ok (.getfield 89, 3) := by decide +kernel
theorem dX4_kind_79 : decode cX4_kind 79 = .ok (.iload_n 3, 1) := by decide +kernel
theorem dX4_kind_80 : decode cX4_kind 80 = .ok (.iastore, 1) := by decide +kernel
theorem dX4_kind_81 : decode cX4_kind 81 = .ok (.aload_n 0, 1) := by decide +kernel
theorem dX4_kind_82 : decode cX4_kind 82 = .ok (.getfield 35, 3) := by decide +kernel
theorem dX4_kind_85 : decode cX4_kind 85 = .ok (.aload_n 0, 1) := by decide +kernel
theorem dX4_kind_86 : decode cX4_kind 86 = .ok (.getfield 89, 3) := by decide +kernel
theorem dX4_kind_89 : decode cX4_kind 89 = .ok (.bipush 10, 2) := by decide +kernel
theorem dX4_kind_91 : decode cX4_kind 91 = .ok (.iastore, 1) := by decide +kernel
theorem dX4_kind_92 : decode cX4_kind 92 = .ok (.aload_n 0, 1) := by decide +kernel
theorem dX4_kind_93 : decode cX4_kind 93 = .ok (.dup, 1) := by decide +kernel
theorem dX4_kind_94 : decode cX4_kind 94 = .ok (.getfield 89, 3) := by decide +kernel
theorem dX4_kind_97 : decode cX4_kind 97 = .ok (.iconst 1, 1) := by decide +kernel
theorem dX4_kind_98 : decode cX4_kind 98 = .ok (.iadd, 1) := by decide +kernel
theorem dX4_kind_99 : decode cX4_kind 99 = .ok (.putfield 89, 3) := by decide +kernel
theorem dX4_kind_102 : decode cX4_kind 102 = .ok (.aload_n 0, 1) := by decide +kernel
theorem dX4_kind_103 : decode cX4_kind 103 = .ok (.getfield 89, 3) := by decide +kernel
theorem dX4_kind_106 : decode cX4_kind 106 = .ok (.iconst 1, 1) := by decide +kernel
theorem dX4_kind_107 : decode cX4_kind 107 = .ok (.isub, 1) := by decide +kernel
theorem dX4_kind_108 : decode cX4_kind 108 = .ok (.ireturn, 1) := by decide +kernel
set_option maxRecDepth 20000 in
theorem ggX4_shelf_X4_isShelf : GoodIn wsX4_shelf wsX4_isShelf := goodIn_r _ [8, 1, 9, 10, 7, 11, 12, 13, 14, 15, 16, 17, 18, 19, 20, 21, 22, 23, 24, 25, 26, 27, 28, 29, 30, 31, 32, 33, 34, 35, 36, 37, 38, 39, 40, 41] (by decide +kernel) (by decide +kernel)
set_option maxRecDepth 20000 in
theorem gX4_shelf_X4_isShelf : GoodIn wsX4_shelf (wsV RX4 100 RX4 yX4_isShelf wsX4_isShelf) := goodIn_app (goodIn_of _ (by decide +kernel)) ggX4_shelf_X4_isShelf
set_option maxRecDepth 20000 in
theorem ggX4_shelf_X4_in : GoodIn wsX4_shelf wsX4_in := goodIn_r _ [11] (by decide +kernel) (by decide +kernel)
set_option maxRecDepth 20000 in
theorem gX4_shelf_X4_in : GoodIn wsX4_shelf (va_wsS RX4 92 yX4_in wsX4_in) := goodIn_app (goodIn_of _ (by decide +kernel)) ggX4_shelf_X4_in
theorem dX4_shelf_0 : decode cX4_shelf 0 = .ok (.aload_n 0, 1) := by decide +kernel
theorem dX4_shelf_1 : decode cX4_shelf 1 = .ok (.iload_n 1, 1) := by decide +kernel
theorem dX4_shelf_2 : decode cX4_shelf 2 = .ok (.invokevirtual 100, 3) := by decide +kernel
theorem dX4_shelf_5 : decode cX4_shelf 5 = .ok (.ifCond .ne 5, 3) := by decide +kernel
theorem dX4_shelf_8 : decode cX4_shelf 8 = .ok (.iconst (-1), 1) := by decide +kernel
theorem dX4_shelf_9 : decode cX4_shelf 9 = .ok (.ireturn, 1) := by decide +kernel
theorem dX4_shelf_10 : decode cX4_shelf 10 = .ok (.iload_n 2, 1) := by decide +kernel
theorem dX4_shelf_11 : decode cX4_shelf 11 = .ok (.iconst 1, 1) := by decide +kernel
theorem dX4_shelf_12 : decode cX4_shelf 12 = .ok (.bipush 20, 2) := by decide +kernel
theorem dX4_shelf_14 : decode cX4_shelf 14 = .ok (.invokestatic 92, 3) := by decide +kernel
theorem dX4_shelf_17 : decode cX4_shelf 17 = .ok (.ifCond .ne 6, 3) := by decide +kernel
theorem dX4_shelf_20 : decode cX4_shelf 20 = .ok (.bipush (-2), 2) := by decide +kernel
theorem dX4_shelf_22 : decode cX4_shelf 22 = .ok (.ireturn, 1) := by decide +kernel
theorem dX4_shelf_23 : decode cX4_shelf 23 = .ok (.aload_n 0, 1) := by decide +kernel
theorem dX4_shelf_24 : decode cX4_shelf 24 = .ok (.getfield 23, 3) := by decide +kernel
theorem dX4_shelf_27 : decode cX4_shelf 27 = .ok (.bipush 8, 2) := by decide +kernel
theorem dX4_shelf_29 : decode cX4_shelf 29 = .ok (.if_icmp .ne 6, 3) := by decide +kernel
theorem dX4_shelf_32 : decode cX4_shelf 32 = .ok (.bipush (-4), 2) := by decide +kernel
theorem dX4_shelf_34 : decode cX4_shelf 34 = .ok (.ireturn, 1) := by decide +kernel
theorem dX4_shelf_35 : decode cX4_shelf 35 = .ok (.aload_n 0, 1) := by decide +kernel
theorem dX4_shelf_36 : decode cX4_shelf 36 = .ok (.getfield 26, 3) := by decide +kernel
theorem dX4_shelf_39 : decode cX4_shelf 39 = .ok (.aload_n 0, 1) := by decide +kernel
theorem dX4_shelf_40 : decode cX4_shelf 40 = .ok (.getfield 23, 3) := by decide +kernel
theorem dX4_shelf_43 : decode cX4_shelf 43 = .ok (.iload_n 1, 1) := by decide +kernel
theorem dX4_shelf_44 : decode cX4_shelf 44 = .ok (.iastore, 1) := by decide +kernel
theorem dX4_shelf_45 : decode cX4_shelf 45 = .ok (.aload_n 0, 1) := by decide +kernel
theorem dX4_shelf_46 : decode cX4_shelf 46 = .ok (.getfield 29, 3) := by decide +kernel
theorem dX4_shelf_49 : decode cX4_shelf 49 = .ok (.aload_n 0, 1) := by decide +kernel
theorem dX4_shelf_50 : decode cX4_shelf 50 = .ok (.getfield 23, 3) := by decide +kernel
theorem dX4_shelf_53 : decode cX4_shelf 53 = .ok (.iload_n 2, 1) := by decide +kernel
theorem dX4_shelf_54 : decode cX4_shelf 54 = .ok (.iastore, 1) := by decide +kernel
theorem dX4_shelf_55 : decode cX4_shelf 55 = .ok (.aload_n 0, 1) := by decide +kernel
theorem dX4_shelf_56 : decode cX4_shelf 56 = .ok (.dup, 1) := by decide +kernel
theorem dX4_shelf_57 : decode cX4_shelf 57 = .ok (.getfield 23, 3) := by decide +kernel
theorem dX4_shelf_60 : decode cX4_shelf 60 = .ok (.iconst 1, 1) := by decide +kernel
theorem dX4_shelf_61 : decode cX4_shelf 61 = .ok (.iadd, 1) := by decide +kernel
theorem dX4_shelf_62 : decode cX4_shelf 62 = .ok (.putfield 23, 3) := by decide +kernel
theorem dX4_shelf_65 : decode cX4_shelf 65 = .ok (.aload_n 0, 1) := by decide +kernel
theorem dX4_shelf_66 : decode cX4_shelf 66 = .ok (.getfield 23, 3) := by decide +kernel
theorem dX4_shelf_69 : decode cX4_shelf 69 = .ok (.iconst 1, 1) := by decide +kernel
theorem dX4_shelf_70 : decode cX4_shelf 70 = .ok (.isub, 1) := by decide +kernel
theorem dX4_shelf_71 : decode cX4_shelf 71 = .ok (.ireturn, 1) := by decide +kernel
set_option maxRecDepth 20000 in
theorem ggX4_mend_X4_isShelf : GoodIn wsX4_mend wsX4_isShelf := goodIn_r _ [6, 7, 8, 9, 5, 10, 24, 25, 26, 27, 28, 29, 30, 31, 32, 33, 34, 35, 36, 37, 38, 39, 40, 41, 42, 43, 44, 45, 46, 47, 48, 49, 50, 51, 52, 53] (by decide +kernel) (by decide +kernel)
set_option maxRecDepth 20000 in
theorem gX4_mend_X4_isShelf : GoodIn wsX4_mend (wsV RX4 100 RX4 yX4_isShelf wsX4_isShelf) := goodIn_app (goodIn_of _ (by decide +kernel)) ggX4_mend_X4_isShelf
set_option maxRecDepth 20000 in
theorem ggX4_mend_X4_isKind : GoodIn wsX4_mend wsX4_isKind := goodIn_r _ [14, 15, 8, 9, 5, 10, 24, 25, 26, 27, 28, 29, 30, 31, 32, 33, 34, 35, 36, 37, 38, 39, 40, 41, 42, 43, 44, 45, 46, 47, 48, 49, 50, 51, 52, 53] (by decide +kernel) (by decide +kernel)
set_option maxRecDepth 20000 in
theorem gX4_mend_X4_isKind : GoodIn wsX4_mend (wsV RX4 96 RX4 yX4_isKind wsX4_isKind) := goodIn_app (goodIn_of _ (by decide +kernel)) ggX4_mend_X4_isKind
set_option maxRecDepth 20000 in
theorem ggX4_mend_X4_in : GoodIn wsX4_mend wsX4_in := goodIn_r _ [10] (by decide +kernel) (by decide +kernel)
set_option maxRecDepth 20000 in
theorem gX4_mend_X4_in : GoodIn wsX4_mend (va_wsS RX4 92 yX4_in wsX4_in) := goodIn_app (goodIn_of _ (by decide +kernel)) ggX4_mend_X4_in
set_option maxRecDepth 20000 in
theorem ggX4_mend_X4_waiting : GoodIn wsX4_mend wsX4_waiting := goodIn_r _ [19, 20, 21, 22, 23, 24, 25, 26, 27, 28, 29, 30, 31, 32, 33, 34, 35, 36, 37, 38, 39, 40, 41, 42, 43, 44, 45, 46, 47, 48, 49, 50, 51, 52, 53] (by decide +kernel) (by decide +kernel)
set_option maxRecDepth 20000 in
theorem gX4_mend_X4_waiting : GoodIn wsX4_mend (wsV RX4 103 RX4 yX4_waiting wsX4_waiting) := goodIn_app (goodIn_of _ (by decide +kernel)) ggX4_mend_X4_waiting
theorem dX4_mend_0 : decode cX4_mend 0 = .ok (.aload_n 0, 1) := by decide +kernel
theorem dX4_mend_1 : decode cX4_mend 1 = .ok (.iload_n 1, 1) := by decide +kernel
theorem dX4_mend_2 : decode cX4_mend 2 = .ok (.invokevirtual 100, 3) := by decide +kernel
theorem dX4_mend_5 : decode cX4_mend 5 = .ok (.ifCond .eq 11, 3) := by decide +kernel
theorem dX4_mend_8 : decode cX4_mend 8 = .ok (.aload_n 0, 1) := by decide +kernel
theorem dX4_mend_9 : decode cX4_mend 9 = .ok (.iload_n 2, 1) := by decide +kernel
theorem dX4_mend_10 : decode cX4_mend 10 = .ok (.invokevirtual 96, 3) := by decide +kernel
theorem dX4_mend_13 : decode cX4_mend 13 = .ok (.ifCond .ne 5, 3) := by decide +kernel
theorem dX4_mend_16 : decode cX4_mend 16 = .ok (.iconst (-1), 1) := by decide +kernel
theorem dX4_mend_17 : decode cX4_mend 17 = .ok (.ireturn, 1) := by decide +kernel
theorem dX4_mend_18 : decode cX4_mend 18 = .ok (.iload_n 3, 1) := by decide +kernel
theorem dX4_mend_19 : decode cX4_mend 19 = .ok (.iconst 0, 1) := by decide +kernel
theorem dX4_mend_20 : decode cX4_mend 20 = .ok (.bipush 30, 2) := by decide +kernel
theorem dX4_mend_22 : decode cX4_mend 22 = .ok (.invokestatic 92, 3) := by decide +kernel
theorem dX4_mend_25 : decode cX4_mend 25 = .ok (.ifCond .eq 11, 3) := by decide +kernel
theorem dX4_mend_28 : decode cX4_mend 28 = .ok (.iload_n 1, 1) := by decide +kernel
theorem dX4_mend_29 : decode cX4_mend 29 = .ok (.ifCond .ne 10, 3) := by decide +kernel
theorem dX4_mend_32 : decode cX4_mend 32 = .ok (.iload_n 3, 1) := by decide +kernel
theorem dX4_mend_33 : decode cX4_mend 33 = .ok (.ifCond .ne 6, 3) := by decide +kernel
theorem dX4_mend_36 : decode cX4_mend 36 = .ok (.bipush (-2), 2) := by decide +kernel
theorem dX4_mend_38 : decode cX4_mend 38 = .ok (.ireturn, 1) := by decide +kernel
theorem dX4_mend_39 : decode cX4_mend 39 = .ok (.iload_n 3, 1) := by decide +kernel
theorem dX4_mend_40 : decode cX4_mend 40 = .ok (.ifCond .ne 15, 3) := by decide +kernel
theorem dX4_mend_43 : decode cX4_mend 43 = .ok (.aload_n 0, 1) := by decide +kernel
theorem dX4_mend_44 : decode cX4_mend 44 = .ok (.iload_n 1, 1) := by decide +kernel
theorem dX4_mend_45 : decode cX4_mend 45 = .ok (.iload_n 2, 1) := by decide +kernel
theorem dX4_mend_46 : decode cX4_mend 46 = .ok (.invokevirtual 103, 3) := by decide +kernel
theorem dX4_mend_49 : decode cX4_mend 49 = .ok (.ifCond .le 6, 3) := by decide +kernel
theorem dX4_mend_52 : decode cX4_mend 52 = .ok (.bipush (-3), 2) := by decide +kernel
theorem dX4_mend_54 : decode cX4_mend 54 = .ok (.ireturn, 1) := by decide +kernel
theorem dX4_mend_55 : decode cX4_mend 55 = .ok (.aload_n 0, 1) := by decide +kernel
theorem dX4_mend_56 : decode cX4_mend 56 = .ok (.getfield 35, 3) := by decide +kernel
theorem dX4_mend_59 : decode cX4_mend 59 = .ok (.bipush 8, 2) := by decide +kernel
theorem dX4_mend_61 : decode cX4_mend 61 = .ok (.iload_n 1, 1) := by decide +kernel
theorem dX4_mend_62 : decode cX4_mend 62 = .ok (.imul, 1) := by decide +kernel
theorem dX4_mend_63 : decode cX4_mend 63 = .ok (.iload_n 2, 1) := by decide +kernel
theorem dX4_mend_64 : decode cX4_mend 64 = .ok (.iadd, 1) := by decide +kernel
theorem dX4_mend_65 : decode cX4_mend 65 = .ok (.iaload, 1) := by decide +kernel
theorem dX4_mend_66 : decode cX4_mend 66 = .ok (.istore 4, 2) := by decide +kernel
theorem dX4_mend_68 : decode cX4_mend 68 = .ok (.aload_n 0, 1) := by decide +kernel
theorem dX4_mend_69 : decode cX4_mend 69 = .ok (.getfield 35, 3) := by decide +kernel
theorem dX4_mend_72 : decode cX4_mend 72 = .ok (.bipush 8, 2) := by decide +kernel
theorem dX4_mend_74 : decode cX4_mend 74 = .ok (.iload_n 1, 1) := by decide +kernel
theorem dX4_mend_75 : decode cX4_mend 75 = .ok (.imul, 1) := by decide +kernel
theorem dX4_mend_76 : decode cX4_mend 76 = .ok (.iload_n 2, 1) := by decide +kernel
theorem dX4_mend_77 : decode cX4_mend 77 = .ok (.iadd, 1) := by decide +kernel
theorem dX4_mend_78 : decode cX4_mend 78 = .ok (.iload_n 3, 1) := by decide +kernel
theorem dX4_mend_79 : decode cX4_mend 79 = .ok (.iastore, 1) := by decide +kernel
theorem dX4_mend_80 : decode cX4_mend 80 = .ok (.iload 4, 2) := by decide +kernel
theorem dX4_mend_82 : decode cX4_mend 82 = .ok (.ireturn, 1) := by decide +kernel
theorem dX4_menderOf_0 : decode cX4_menderOf 0 = .ok (.iload_n 1, 1) := by decide +kernel
theorem dX4_menderOf_1 : decode cX4_menderOf 1 = .ok (.istore_n 3, 1) := by decide +kernel
theorem dX4_menderOf_2 : decode cX4_menderOf 2 = .ok (.aload_n 0, 1) := by decide +kernel
theorem dX4_menderOf_3 : decode cX4_menderOf 3 = .ok (.getfield 35, 3) := by decide +kernel
theorem dX4_menderOf_6 : decode cX4_menderOf 6 = .ok (.bipush 8, 2) := by decide +kernel
theorem dX4_menderOf_8 : decode cX4_menderOf 8 = .ok (.iload_n 3, 1) := by decide +kernel
theorem dX4_menderOf_9 : decode cX4_menderOf 9 = .ok (.imul, 1) := by decide +kernel
theorem dX4_menderOf_10 : decode cX4_menderOf 10 = .ok (.iload_n 2, 1) := by decide +kernel
theorem dX4_menderOf_11 : decode cX4_menderOf 11 = .ok (.iadd, 1) := by decide +kernel
theorem dX4_menderOf_12 : decode cX4_menderOf 12 = .ok (.iaload, 1) := by decide +kernel
theorem dX4_menderOf_13 : decode cX4_menderOf 13 = .ok (.ifCond .ne 13, 3) := by decide +kernel
theorem dX4_menderOf_16 : decode cX4_menderOf 16 = .ok (.aload_n 0, 1) := by decide +kernel
theorem dX4_menderOf_17 : decode cX4_menderOf 17 = .ok (.getfield 26, 3) := by decide +kernel
theorem dX4_menderOf_20 : decode cX4_menderOf 20 = .ok (.iload_n 3, 1) := by decide +kernel
theorem dX4_menderOf_21 : decode cX4_menderOf 21 = .ok (.iaload, 1) := by decide +kernel
theorem dX4_menderOf_22 : decode cX4_menderOf 22 = .ok (.istore_n 3, 1) := by decide +kernel
theorem dX4_menderOf_23 : decode cX4_menderOf 23 = .ok (.goto (-21), 3) := by decide +kernel
theorem dX4_menderOf_26 : decode cX4_menderOf 26 = .ok (.iload_n 3, 1) := by decide +kernel
theorem dX4_menderOf_27 : decode cX4_menderOf 27 = .ok (.ireturn, 1) := by decide +kernel
set_option maxRecDepth 20000 in
theorem ggX4_mender_X4_isShelf : GoodIn wsX4_mender wsX4_isShelf := goodIn_r _ [5, 6, 7, 8, 4, 9, 21, 22, 23, 24, 25, 26, 27, 28, 29, 30, 31, 32, 33, 34, 35, 36, 37, 38, 39, 40, 41, 42, 43, 44, 45, 46, 47, 48, 49, 50] (by decide +kernel) (by decide +kernel)
set_option maxRecDepth 20000 in
theorem gX4_mender_X4_isShelf : GoodIn wsX4_mender (wsV RX4 100 RX4 yX4_isShelf wsX4_isShelf) := goodIn_app (goodIn_of _ (by decide +kernel)) ggX4_mender_X4_isShelf
set_option maxRecDepth 20000 in
theorem ggX4_mender_X4_isKind : GoodIn wsX4_mender wsX4_isKind := goodIn_r _ [13, 14, 7, 8, 4, 9, 21, 22, 23, 24, 25, 26, 27, 28, 29, 30, 31, 32, 33, 34, 35, 36, 37, 38, 39, 40, 41, 42, 43, 44, 45, 46, 47, 48, 49, 50] (by decide +kernel) (by decide +kernel)
set_option maxRecDepth 20000 in
theorem gX4_mender_X4_isKind : GoodIn wsX4_mender (wsV RX4 96 RX4 yX4_isKind wsX4_isKind) := goodIn_app (goodIn_of _ (by decide +kernel)) ggX4_mender_X4_isKind
set_option maxRecDepth 20000 in
theorem ggX4_mender_X4_menderOf : GoodIn wsX4_mender wsX4_menderOf := goodIn_r _ [18, 19, 20, 21, 22, 23, 24, 25, 26, 27, 28, 29, 30, 31, 32, 33, 34, 35, 36, 37, 38, 39, 40, 41, 42, 43, 44, 45, 46, 47, 48, 49, 50] (by decide +kernel) (by decide +kernel)
set_option maxRecDepth 20000 in
theorem gX4_mender_X4_menderOf : GoodIn wsX4_mender (wsV RX4 107 RX4 yX4_menderOf wsX4_menderOf) := goodIn_app (goodIn_of _ (by decide +kernel)) ggX4_mender_X4_menderOf
theorem dX4_mender_0 : decode cX4_mender 0 = .ok (.aload_n 0, 1) := by decide +kernel
theorem dX4_mender_1 : decode cX4_mender 1 = .ok (.iload_n 1, 1) := by decide +kernel
theorem dX4_mender_2 : decode cX4_mender 2 = .ok (.invokevirtual 100, 3) := by decide +kernel
theorem dX4_mender_5 : decode cX4_mender 5 = .ok (.ifCond .eq 20, 3) := by decide +kernel
theorem dX4_mender_8 : decode cX4_mender 8 = .ok (.aload_n 0, 1) := by decide +kernel
theorem dX4_mender_9 : decode cX4_mender 9 = .ok (.iload_n 2, 1) := by decide +kernel
theorem dX4_mender_10 : decode cX4_mender 10 = .ok (.invokevirtual 96, 3) := by decide +kernel
theorem dX4_mender_13 : decode cX4_mender 13 = .ok (.ifCond .eq 12, 3) := by decide +kernel
theorem dX4_mender_16 : decode cX4_mender 16 = .ok (.aload_n 0, 1) := by decide +kernel
theorem dX4_mender_17 : decode cX4_mender 17 = .ok (.iload_n 1, 1) := by decide +kernel
theorem dX4_mender_18 : decode cX4_mender 18 = .ok (.iload_n 2, 1) := by decide +kernel
theorem dX4_mender_19 : decode cX4_mender 19 = .ok (.invokevirtual 107, 3) := by decide +kernel
theorem dX4_mender_22 : decode cX4_mender 22 = .ok (.goto 4, 3) := by decide +kernel
theorem dX4_mender_25 : decode cX4_mender 25 = .ok (.iconst (-1), 1) := by decide +kernel
theorem dX4_mender_26 : decode cX4_mender 26 = .ok (.ireturn, 1) := by decide +kernel
theorem dX4_waiting_0 : decode cX4_waiting 0 = .ok (.iconst 0, 1) := by decide +kernel
theorem dX4_waiting_1 : decode cX4_waiting 1 = .ok (.istore_n 3, 1) := by decide +kernel
theorem dX4_waiting_2 : decode cX4_waiting 2 = .ok (.iconst 0, 1) := by decide +kernel
theorem dX4_waiting_3 : decode cX4_waiting 3 = .ok (.istore 4, 2) := by decide +kernel
theorem dX4_waiting_5 : decode cX4_waiting 5 = .ok (.iload 4, 2) := by decide +kernel
theorem dX4_waiting_7 : decode cX4_waiting 7 = .ok (.aload_n 0, 1) := by decide +kernel
theorem dX4_waiting_8 : decode cX4_waiting 8 = .ok (.getfield 110, 3) := by decide +kernel
theorem dX4_waiting_11 : decode cX4_waiting 11 = .ok (.if_icmp .ge 50, 3) := by decide +kernel
theorem dX4_waiting_14 : decode cX4_waiting 14 = .ok (.iload_n 3, 1) := by decide +kernel
theorem dX4_waiting_15 : decode cX4_waiting 15 = .ok (.aload_n 0, 1) := by decide +kernel
theorem dX4_waiting_16 : decode cX4_waiting 16 = .ok (.getfield 59, 3) := by decide +kernel
theorem dX4_waiting_19 : decode cX4_waiting 19 = .ok (.iload 4, 2) := by decide +kernel
theorem dX4_waiting_21 : decode cX4_waiting 21 = .ok (.iaload, 1) := by decide +kernel
theorem dX4_waiting_22 : decode cX4_waiting 22 = .ok (.iload_n 1, 1) := by decide +kernel
theorem dX4_waiting_23 : decode cX4_waiting 23 = .ok (.if_icmp .ne 29, 3) := by decide +kernel
theorem dX4_waiting_26 : decode cX4_waiting 26 = .ok (.aload_n 0, 1) := by decide +kernel
theorem dX4_waiting_27 : decode cX4_waiting 27 = .ok (.getfield 65, 3) := by decide +kernel
theorem dX4_waiting_30 : decode cX4_waiting 30 = .ok (.iload 4, 2) := by decide +kernel
theorem dX4_waiting_32 : decode cX4_waiting 32 = .ok (.iaload, 1) := by decide +kernel
theorem dX4_waiting_33 : decode cX4_waiting 33 = .ok (.iconst 2, 1) := by decide +kernel
theorem dX4_waiting_34 : decode cX4_waiting 34 = .ok (.if_icmp .ne 18, 3) := by decide +kernel
theorem dX4_waiting_37 : decode cX4_waiting 37 = .ok (.aload_n 0, 1) := by decide +kernel
theorem dX4_waiting_38 : decode cX4_waiting 38 = .ok (.getfield 68, 3) := by decide +kernel
theorem dX4_waiting_41 : decode cX4_waiting 41 = .ok (.iload 4, 2) := by decide +kernel
theorem dX4_waiting_43 : decode cX4_waiting 43 = .ok (.iaload, 1) := by decide +kernel
theorem dX4_waiting_44 : decode cX4_waiting 44 = .ok (.iload_n 2, 1) := by decide +kernel
theorem dX4_waiting_45 : decode cX4_waiting 45 = .ok (.if_icmp .ne 7, 3) := by decide +kernel
theorem dX4_waiting_48 : decode cX4_waiting 48 = .ok (.iconst 1, 1) := by decide +kernel
theorem dX4_waiting_49 : decode cX4_waiting 49 = .ok (.goto 4, 3) := by decide +kernel
theorem dX4_waiting_52 : decode cX4_waiting 52 = .ok (.iconst 0, 1) := by decide +kernel
theorem dX4_waiting_53 : decode cX4_waiting 53 = .ok (.iadd, 1) := by decide +kernel
theorem dX4_waiting_54 : decode cX4_waiting 54 = .ok (.istore_n 3, 1) := by decide +kernel
theorem dX4_waiting_55 : decode cX4_waiting 55 = .ok (.iinc 4 1, 3) := by decide +kernel
theorem dX4_waiting_58 : decode cX4_waiting 58 = .ok (.goto (-53), 3) := by decide +kernel
theorem dX4_waiting_61 : decode cX4_waiting 61 = .ok (.iload_n 3, 1) := by decide +kernel
theorem dX4_waiting_62 : decode cX4_waiting 62 = .ok (.ireturn, 1) := by decide +kernel
theorem dX4_due_0 : decode cX4_due 0 = .ok (.aload_n 0, 1) := by decide +kernel
theorem dX4_due_1 : decode cX4_due 1 = .ok (.getfield 74, 3) := by decide +kernel
theorem dX4_due_4 : decode cX4_due 4 = .ok (.aload_n 0, 1) := by decide +kernel
theorem dX4_due_5 : decode cX4_due 5 = .ok (.getfield 113, 3) := by decide +kernel
theorem dX4_due_8 : decode cX4_due 8 = .ok (.iload_n 1, 1) := by decide +kernel
theorem dX4_due_9 : decode cX4_due 9 = .ok (.iastore, 1) := by decide +kernel
theorem dX4_due_10 : decode cX4_due 10 = .ok (.aload_n 0, 1) := by decide +kernel
theorem dX4_due_11 : decode cX4_due 11 = .ok (.getfield 77, 3) := by decide +kernel
theorem dX4_due_14 : decode cX4_due 14 = .ok (.aload_n 0, 1) := by decide +kernel
theorem dX4_due_15 : decode cX4_due 15 = .ok (.getfield 113, 3) := by decide +kernel
theorem dX4_due_18 : decode cX4_due 18 = .ok (.iload_n 2, 1) := by decide +kernel
theorem dX4_due_19 : decode cX4_due 19 = .ok (.iastore, 1) := by decide +kernel
theorem dX4_due_20 : decode cX4_due 20 = .ok (.aload_n 0, 1) := by decide +kernel
theorem dX4_due_21 : decode cX4_due 21 = .ok (.getfield 80, 3) := by decide +kernel
theorem dX4_due_24 : decode cX4_due 24 = .ok (.aload_n 0, 1) := by decide +kernel
theorem dX4_due_25 : decode cX4_due 25 = .ok (.getfield 113, 3) := by decide +kernel
theorem dX4_due_28 : decode cX4_due 28 = .ok (.iload_n 3, 1) := by decide +kernel
theorem dX4_due_29 : decode cX4_due 29 = .ok (.iastore, 1) := by decide +kernel
theorem dX4_due_30 : decode cX4_due 30 = .ok (.aload_n 0, 1) := by decide +kernel
theorem dX4_due_31 : decode cX4_due 31 = .ok (.getfield 83, 3) := by decide +kernel
theorem dX4_due_34 : decode cX4_due 34 = .ok (.aload_n 0, 1) := by decide +kernel
theorem dX4_due_35 : decode cX4_due 35 = .ok (.getfield 113, 3) := by decide +kernel
theorem dX4_due_38 : decode cX4_due 38 = .ok (.iload 4, 2) := by decide +kernel
theorem dX4_due_40 : decode cX4_due 40 = .ok (.iastore, 1) := by decide +kernel
theorem dX4_due_41 : decode cX4_due 41 = .ok (.aload_n 0, 1) := by decide +kernel
theorem dX4_due_42 : decode cX4_due 42 = .ok (.getfield 86, 3) := by decide +kernel
theorem dX4_due_45 : decode cX4_due 45 = .ok (.aload_n 0, 1) := by decide +kernel
theorem dX4_due_46 : decode cX4_due 46 = .ok (.getfield 113, 3) := by decide +kernel
theorem dX4_due_49 : decode cX4_due 49 = .ok (.aload_n 0, 1) := by decide +kernel
theorem dX4_due_50 : decode cX4_due 50 = .ok (.getfield 116, 3) := by decide +kernel
theorem dX4_due_53 : decode cX4_due 53 = .ok (.iload 5, 2) := by decide +kernel
theorem dX4_due_55 : decode cX4_due 55 = .ok (.iadd, 1) := by decide +kernel
theorem dX4_due_56 : decode cX4_due 56 = .ok (.iastore, 1) := by decide +kernel
theorem dX4_due_57 : decode cX4_due 57 = .ok (.aload_n 0, 1) := by decide +kernel
theorem dX4_due_58 : decode cX4_due 58 = .ok (.dup, 1) := by decide +kernel
theorem dX4_due_59 : decode cX4_due 59 = .ok (.getfield 113, 3) := by decide +kernel
theorem dX4_due_62 : decode cX4_due 62 = .ok (.iconst 1, 1) := by decide +kernel
theorem dX4_due_63 : decode cX4_due 63 = .ok (.iadd, 1) := by decide +kernel
theorem dX4_due_64 : decode cX4_due 64 = .ok (.putfield 113, 3) := by decide +kernel
theorem dX4_due_67 : decode cX4_due 67 = .ok (.return_, 1) := by decide +kernel
set_option maxRecDepth 20000 in
theorem ggX4_serves_X4_due : GoodIn wsX4_serves wsX4_due := goodIn_r _ [10, 11, 12, 13, 14, 15, 16, 17, 50, 51, 52, 53, 54, 55, 56, 57, 58, 59, 60, 61, 62, 63, 64, 65, 66, 67, 68, 69, 70, 71, 72, 73, 74, 75, 76, 77, 78, 79] (by decide +kernel) (by decide +kernel)
set_option maxRecDepth 20000 in
theorem gX4_serves_X4_due : GoodIn wsX4_serves (wsV RX4 119 RX4 yX4_due wsX4_due) := goodIn_app (goodIn_of _ (by decide +kernel)) ggX4_serves_X4_due
set_option maxRecDepth 20000 in
theorem ggX4_serves_X4_goesBack : GoodIn wsX4_serves wsX4_goesBack := goodIn_r _ [46, 2, 25, 21, 22, 23, 9, 24, 5, 47, 48, 49, 6, 7, 8, 10, 11, 12, 13, 14, 15, 16, 17, 29, 30, 18, 19, 20, 31, 32, 33, 34, 35, 36, 37, 38, 39, 40, 41, 42, 43, 44, 45, 0, 1, 3, 4, 26, 27, 28, 50, 51, 52, 53, 54, 55, 56, 57, 58, 59, 60, 61, 62, 63, 64, 65, 66, 67, 68, 69, 70, 71, 72, 73, 74, 75, 76, 77, 78, 79] (by decide +kernel) (by decide +kernel)
set_option maxRecDepth 20000 in
theorem gX4_serves_X4_goesBack : GoodIn wsX4_serves (wsV RX4 123 RX4 yX4_goesBack wsX4_goesBack) := goodIn_app (goodIn_of _ (by decide +kernel)) ggX4_serves_X4_goesBack
set_option maxRecDepth 20000 in
theorem ggX4_serves_X4_menderOf : GoodIn wsX4_serves wsX4_menderOf := goodIn_r _ [24, 5, 25, 50, 51, 52, 53, 54, 55, 56, 57, 58, 59, 60, 61, 62, 63, 64, 65, 66, 67, 68, 69, 70, 71, 72, 73, 74, 75, 76, 77, 78, 79] (by decide +kernel) (by decide +kernel)
set_option maxRecDepth 20000 in
theorem gX4_serves_X4_menderOf : GoodIn wsX4_serves (wsV RX4 107 RX4 yX4_menderOf wsX4_menderOf) := goodIn_app (goodIn_of _ (by decide +kernel)) ggX4_serves_X4_menderOf
set_option maxRecDepth 20000 in
theorem ggX4_serves_X4_asksUp : GoodIn wsX4_serves wsX4_asksUp := goodIn_r _ [45, 25, 31, 32, 33, 9, 29, 5, 30, 18, 19, 20, 6, 7, 8, 10, 11, 12, 13, 14, 15, 16, 17, 34, 35, 36, 37, 38, 39, 40, 41, 42, 43, 44, 46, 2, 21, 22, 23, 24, 47, 48, 49, 0, 1, 3, 4, 26, 27, 28, 50, 51, 52, 53, 54, 55, 56, 57, 58, 59, 60, 61, 62, 63, 64, 65, 66, 67, 68, 69, 70, 71, 72, 73, 74, 75, 76, 77, 78, 79] (by decide +kernel) (by decide +kernel)
set_option maxRecDepth 20000 in
theorem gX4_serves_X4_asksUp : GoodIn wsX4_serves (wsV RX4 127 RX4 yX4_asksUp wsX4_asksUp) := goodIn_app (goodIn_of _ (by decide +kernel)) ggX4_serves_X4_asksUp
theorem dX4_serves_0 : decode cX4_serves 0 = .ok (.iload_n 3, 1) := by decide +kernel
theorem dX4_serves_1 : decode cX4_serves 1 = .ok (.ifCond .ne 16, 3) := by decide +kernel
theorem dX4_serves_4 : decode cX4_serves 4 = .ok (.aload_n 0, 1) := by decide +kernel
theorem dX4_serves_5 : decode cX4_serves 5 = .ok (.getfield 50, 3) := by decide +kernel
theorem dX4_serves_8 : decode cX4_serves 8 = .ok (.iload_n 2, 1) := by decide +kernel
theorem dX4_serves_9 : decode cX4_serves 9 = .ok (.dup2, 1) := by decide +kernel
theorem dX4_serves_10 : decode cX4_serves 10 = .ok (.iaload, 1) := by decide +kernel
theorem dX4_serves_11 : decode cX4_serves 11 = .ok (.iconst 1, 1) := by decide +kernel
theorem dX4_serves_12 : decode cX4_serves 12 = .ok (.iadd, 1) := by decide +kernel
theorem dX4_serves_13 : decode cX4_serves 13 = .ok (.iastore, 1) := by decide +kernel
theorem dX4_serves_14 : decode cX4_serves 14 = .ok (.goto 87, 3) := by decide +kernel
theorem dX4_serves_17 : decode cX4_serves 17 = .ok (.iload_n 3, 1) := by decide +kernel
theorem dX4_serves_18 : decode cX4_serves 18 = .ok (.iconst 1, 1) := by decide +kernel
theorem dX4_serves_19 : decode cX4_serves 19 = .ok (.if_icmp .ne 22, 3) := by decide +kernel
theorem dX4_serves_22 : decode cX4_serves 22 = .ok (.aload_n 0, 1) := by decide +kernel
theorem dX4_serves_23 : decode cX4_serves 23 = .ok (.iconst 0, 1) := by decide +kernel
theorem dX4_serves_24 : decode cX4_serves 24 = .ok (.iload 4, 2) := by decide +kernel
theorem dX4_serves_26 : decode cX4_serves 26 = .ok (.iload_n 2, 1) := by decide +kernel
theorem dX4_serves_27 : decode cX4_serves 27 = .ok (.iconst 0, 1) := by decide +kernel
theorem dX4_serves_28 : decode cX4_serves 28 = .ok (.aload_n 0, 1) := by decide +kernel
theorem dX4_serves_29 : decode cX4_serves 29 = .ok (.getfield 29, 3) := by decide +kernel
theorem dX4_serves_32 : decode cX4_serves 32 = .ok (.iload 4, 2) := by decide +kernel
theorem dX4_serves_34 : decode cX4_serves 34 = .ok (.iaload, 1) := by decide +kernel
theorem dX4_serves_35 : decode cX4_serves 35 = .ok (.invokevirtual 119, 3) := by decide +kernel
theorem dX4_serves_38 : decode cX4_serves 38 = .ok (.goto 63, 3) := by decide +kernel
theorem dX4_serves_41 : decode cX4_serves 41 = .ok (.aload_n 0, 1) := by decide +kernel
theorem dX4_serves_42 : decode cX4_serves 42 = .ok (.getfield 53, 3) := by decide +kernel
theorem dX4_serves_45 : decode cX4_serves 45 = .ok (.iload_n 2, 1) := by decide +kernel
theorem dX4_serves_46 : decode cX4_serves 46 = .ok (.dup2, 1) := by decide +kernel
theorem dX4_serves_47 : decode cX4_serves 47 = .ok (.iaload, 1) := by decide +kernel
theorem dX4_serves_48 : decode cX4_serves 48 = .ok (.iconst 1, 1) := by decide +kernel
theorem dX4_serves_49 : decode cX4_serves 49 = .ok (.iadd, 1) := by decide +kernel
theorem dX4_serves_50 : decode cX4_serves 50 = .ok (.iastore, 1) := by decide +kernel
theorem dX4_serves_51 : decode cX4_serves 51 = .ok (.aload_n 0, 1) := by decide +kernel
theorem dX4_serves_52 : decode cX4_serves 52 = .ok (.getfield 56, 3) := by decide +kernel
theorem dX4_serves_55 : decode cX4_serves 55 = .ok (.iload_n 2, 1) := by decide +kernel
theorem dX4_serves_56 : decode cX4_serves 56 = .ok (.dup2, 1) := by decide +kernel
theorem dX4_serves_57 : decode cX4_serves 57 = .ok (.iaload, 1) := by decide +kernel
theorem dX4_serves_58 : decode cX4_serves 58 = .ok (.iconst 1, 1) := by decide +kernel
theorem dX4_serves_59 : decode cX4_serves 59 = .ok (.iadd, 1) := by decide +kernel
theorem dX4_serves_60 : decode cX4_serves 60 = .ok (.iastore, 1) := by decide +kernel
theorem dX4_serves_61 : decode cX4_serves 61 = .ok (.aload_n 0, 1) := by decide +kernel
theorem dX4_serves_62 : decode cX4_serves 62 = .ok (.iload_n 1, 1) := by decide +kernel
theorem dX4_serves_63 : decode cX4_serves 63 = .ok (.iload_n 2, 1) := by decide +kernel
theorem dX4_serves_64 : decode cX4_serves 64 = .ok (.iconst 0, 1) := by decide +kernel
theorem dX4_serves_65 : decode cX4_serves 65 = .ok (.invokevirtual 123, 3) := by decide +kernel
theorem dX4_serves_68 : decode cX4_serves 68 = .ok (.aload_n 0, 1) := by decide +kernel
theorem dX4_serves_69 : decode cX4_serves 69 = .ok (.iload_n 1, 1) := by decide +kernel
theorem dX4_serves_70 : decode cX4_serves 70 = .ok (.iload_n 2, 1) := by decide +kernel
theorem dX4_serves_71 : decode cX4_serves 71 = .ok (.aload_n 0, 1) := by decide +kernel
theorem dX4_serves_72 : decode cX4_serves 72 = .ok (.iload_n 1, 1) := by decide +kernel
theorem dX4_serves_73 : decode cX4_serves 73 = .ok (.iload_n 2, 1) := by decide +kernel
theorem dX4_serves_74 : decode cX4_serves 74 = .ok (.invokevirtual 107, 3) := by decide +kernel
theorem dX4_serves_77 : decode cX4_serves 77 = .ok (.invokevirtual 127, 3) := by decide +kernel
theorem dX4_serves_80 : decode cX4_serves 80 = .ok (.aload_n 0, 1) := by decide +kernel
