set_option maxRecDepth 20000 in
theorem ggX3_init_X0_init : GoodIn wsX3_init wsX0_init := goodIn_r _ [25, 26, 2, 3, 13, 27, 28, 29, 30, 31, 32, 33, 34, 35, 50, 51, 52, 53, 54, 55, 56, 57, 58] (by decide +kernel) (by decide +kernel)
set_option maxRecDepth 20000 in
theorem gX3_init_X0_init_n9 : GoodIn wsX3_init (wsX0_init) := ggX3_init_X0_init
set_option maxRecDepth 20000 in
theorem ggX3_init_X2_init : GoodIn wsX3_init wsX2_init := goodIn_r _ [38, 39, 2, 3, 13, 40, 41, 42, 43, 44, 68, 69, 70, 71] (by decide +kernel) (by decide +kernel)
set_option maxRecDepth 20000 in
theorem gX3_init_X2_init : GoodIn wsX3_init (wsX2_init) := ggX3_init_X2_init
set_option maxRecDepth 20000 in
theorem ggX3_init_X1_init : GoodIn wsX3_init wsX1_init := goodIn_r _ [46, 47, 2, 3, 13, 48, 49, 72, 73] (by decide +kernel) (by decide +kernel)
set_option maxRecDepth 20000 in
theorem gX3_init_X1_init_n40 : GoodIn wsX3_init (wsX1_init) := ggX3_init_X1_init
theorem dX3_init_0 : decode cX3_init 0 = .ok (.aload_n 0, 1) := by decide +kernel
theorem dX3_init_1 : decode cX3_init 1 = .ok (.invokespecial 1, 3) := by decide +kernel
theorem dX3_init_4 : decode cX3_init 4 = .ok (.aload_n 0, 1) := by decide +kernel
theorem dX3_init_5 : decode cX3_init 5 = .ok (.new 7, 3) := by decide +kernel
theorem dX3_init_8 : decode cX3_init 8 = .ok (.dup, 1) := by decide +kernel
theorem dX3_init_9 : decode cX3_init 9 = .ok (.invokespecial 9, 3) := by decide +kernel
theorem dX3_init_12 : decode cX3_init 12 = .ok (.putfield 10, 3) := by decide +kernel
theorem dX3_init_15 : decode cX3_init 15 = .ok (.aload_n 0, 1) := by decide +kernel
theorem dX3_init_16 : decode cX3_init 16 = .ok (.new 16, 3) := by decide +kernel
theorem dX3_init_19 : decode cX3_init 19 = .ok (.dup, 1) := by decide +kernel
theorem dX3_init_20 : decode cX3_init 20 = .ok (.invokespecial 18, 3) := by decide +kernel
theorem dX3_init_23 : decode cX3_init 23 = .ok (.putfield 19, 3) := by decide +kernel
theorem dX3_init_26 : decode cX3_init 26 = .ok (.aload_n 0, 1) := by decide +kernel
theorem dX3_init_27 : decode cX3_init 27 = .ok (.bipush 8, 2) := by decide +kernel
theorem dX3_init_29 : decode cX3_init 29 = .ok (.bipush 8, 2) := by decide +kernel
theorem dX3_init_31 : decode cX3_init 31 = .ok (.multianewarray 23 2, 4) := by decide +kernel
theorem dX3_init_35 : decode cX3_init 35 = .ok (.putfield 25, 3) := by decide +kernel
theorem dX3_init_38 : decode cX3_init 38 = .ok (.aload_n 0, 1) := by decide +kernel
theorem dX3_init_39 : decode cX3_init 39 = .ok (.bipush 8, 2) := by decide +kernel
theorem dX3_init_41 : decode cX3_init 41 = .ok (.bipush 8, 2) := by decide +kernel
theorem dX3_init_43 : decode cX3_init 43 = .ok (.multianewarray 23 2, 4) := by decide +kernel
theorem dX3_init_47 : decode cX3_init 47 = .ok (.putfield 28, 3) := by decide +kernel
theorem dX3_init_50 : decode cX3_init 50 = .ok (.aload_n 0, 1) := by decide +kernel
theorem dX3_init_51 : decode cX3_init 51 = .ok (.bipush 8, 2) := by decide +kernel
theorem dX3_init_53 : decode cX3_init 53 = .ok (.newarray .int, 2) := by decide +kernel
theorem dX3_init_55 : decode cX3_init 55 = .ok (.putfield 31, 3) := by decide +kernel
theorem dX3_init_58 : decode cX3_init 58 = .ok (.aload_n 0, 1) := by decide +kernel
theorem dX3_init_59 : decode cX3_init 59 = .ok (.bipush 8, 2) := by decide +kernel
theorem dX3_init_61 : decode cX3_init 61 = .ok (.newarray .int, 2) := by decide +kernel
theorem dX3_init_63 : decode cX3_init 63 = .ok (.putfield 35, 3) := by decide +kernel
theorem dX3_init_66 : decode cX3_init 66 = .ok (.aload_n 0, 1) := by decide +kernel
theorem dX3_init_67 : decode cX3_init 67 = .ok (.new 38, 3) := by decide +kernel
theorem dX3_init_70 : decode cX3_init 70 = .ok (.dup, 1) := by decide +kernel
theorem dX3_init_71 : decode cX3_init 71 = .ok (.invokespecial 40, 3) := by decide +kernel
theorem dX3_init_74 : decode cX3_init 74 = .ok (.putfield 41, 3) := by decide +kernel
theorem dX3_init_77 : decode cX3_init 77 = .ok (.aload_n 0, 1) := by decide +kernel
theorem dX3_init_78 : decode cX3_init 78 = .ok (.new 38, 3) := by decide +kernel
theorem dX3_init_81 : decode cX3_init 81 = .ok (.dup, 1) := by decide +kernel
theorem dX3_init_82 : decode cX3_init 82 = .ok (.invokespecial 40, 3) := by decide +kernel
theorem dX3_init_85 : decode cX3_init 85 = .ok (.putfield 45, 3) := by decide +kernel
theorem dX3_init_88 : decode cX3_init 88 = .ok (.aload_n 0, 1) := by decide +kernel
theorem dX3_init_89 : decode cX3_init 89 = .ok (.iconst 0, 1) := by decide +kernel
theorem dX3_init_90 : decode cX3_init 90 = .ok (.putfield 48, 3) := by decide +kernel
theorem dX3_init_93 : decode cX3_init 93 = .ok (.return_, 1) := by decide +kernel
set_option maxRecDepth 20000 in
theorem ggX3_kind_X3_isOutside : GoodIn wsX3_kind wsX3_isOutside := goodIn_r _ [11] (by decide +kernel) (by decide +kernel)
set_option maxRecDepth 20000 in
theorem gX3_kind_X3_isOutside : GoodIn wsX3_kind (va_wsS RX3 52 yX3_isOutside wsX3_isOutside) := goodIn_app (goodIn_of _ (by decide +kernel)) ggX3_kind_X3_isOutside
set_option maxRecDepth 20000 in
theorem ggX3_kind_X0_has : GoodIn wsX3_kind wsX0_has := goodIn_r _ [16, 17, 27, 28, 29, 30, 31, 32, 33, 34, 35] (by decide +kernel) (by decide +kernel)
set_option maxRecDepth 20000 in
theorem gX3_kind_X0_has : GoodIn wsX3_kind (wsV RX3 56 RX0 yX0_has wsX0_has) := goodIn_app (goodIn_of _ (by decide +kernel)) ggX3_kind_X0_has
theorem dX3_kind_0 : decode cX3_kind 0 = .ok (.iload_n 1, 1) := by decide +kernel
theorem dX3_kind_1 : decode cX3_kind 1 = .ok (.iconst 1, 1) := by decide +kernel
theorem dX3_kind_2 : decode cX3_kind 2 = .ok (.sipush 1000, 3) := by decide +kernel
theorem dX3_kind_5 : decode cX3_kind 5 = .ok (.invokestatic 52, 3) := by decide +kernel
theorem dX3_kind_8 : decode cX3_kind 8 = .ok (.ifCond .ne 13, 3) := by decide +kernel
theorem dX3_kind_11 : decode cX3_kind 11 = .ok (.iload_n 2, 1) := by decide +kernel
theorem dX3_kind_12 : decode cX3_kind 12 = .ok (.iconst 1, 1) := by decide +kernel
theorem dX3_kind_13 : decode cX3_kind 13 = .ok (.bipush 50, 2) := by decide +kernel
theorem dX3_kind_15 : decode cX3_kind 15 = .ok (.invokestatic 52, 3) := by decide +kernel
theorem dX3_kind_18 : decode cX3_kind 18 = .ok (.ifCond .eq 6, 3) := by decide +kernel
theorem dX3_kind_21 : decode cX3_kind 21 = .ok (.bipush (-2), 2) := by decide +kernel
theorem dX3_kind_23 : decode cX3_kind 23 = .ok (.ireturn, 1) := by decide +kernel
theorem dX3_kind_24 : decode cX3_kind 24 = .ok (.iload_n 3, 1) := by decide +kernel
theorem dX3_kind_25 : decode cX3_kind 25 = .ok (.iconst (-1), 1) := by decide +kernel
theorem dX3_kind_26 : decode cX3_kind 26 = .ok (.if_icmp .eq 16, 3) := by decide +kernel
theorem dX3_kind_29 : decode cX3_kind 29 = .ok (.aload_n 0, 1) := by decide +kernel
theorem dX3_kind_30 : decode cX3_kind 30 = .ok (.getfield 10, 3) := by decide +kernel
theorem dX3_kind_33 : decode cX3_kind 33 = .ok (.iload_n 3, 1) := by decide +kernel
theorem dX3_kind_34 : decode cX3_kind 34 = .ok (.invokevirtual 56, 3) := by decide +kernel
theorem dX3_kind_37 : decode cX3_kind 37 = .ok (.ifCond .ne 5, 3) := by decide +kernel
theorem dX3_kind_40 : decode cX3_kind 40 = .ok (.iconst (-1), 1) := by decide +kernel
theorem dX3_kind_41 : decode cX3_kind 41 = .ok (.ireturn, 1) := by decide +kernel
theorem dX3_kind_42 : decode cX3_kind 42 = .ok (.aload_n 0, 1) := by decide +kernel
theorem dX3_kind_43 : decode cX3_kind 43 = .ok (.getfield 10, 3) := by decide +kernel
theorem dX3_kind_46 : decode cX3_kind 46 = .ok (.getfield 60, 3) := by decide +kernel
theorem dX3_kind_49 : decode cX3_kind 49 = .ok (.bipush 8, 2) := by decide +kernel
theorem dX3_kind_51 : decode cX3_kind 51 = .ok (.if_icmp .lt 6, 3) := by decide +kernel
theorem dX3_kind_54 : decode cX3_kind 54 = .ok (.bipush (-4), 2) := by decide +kernel
theorem dX3_kind_56 : decode cX3_kind 56 = .ok (.ireturn, 1) := by decide +kernel
theorem dX3_kind_57 : decode cX3_kind 57 = .ok (.aload_n 0, 1) := by decide +kernel
theorem dX3_kind_58 : decode cX3_kind 58 = .ok (.getfield 10, 3) := by decide +kernel
theorem dX3_kind_61 : decode cX3_kind 61 = .ok (.getfield 60, 3) := by decide +kernel
theorem dX3_kind_64 : decode cX3_kind 64 = .ok (.istore 4, 2) := by decide +kernel
theorem dX3_kind_66 : decode cX3_kind 66 = .ok (.aload_n 0, 1) := by decide +kernel
theorem dX3_kind_67 : decode cX3_kind 67 = .ok (.getfield 10, 3) := by decide +kernel
theorem dX3_kind_70 : decode cX3_kind 70 = .ok (.getfield 63, 3) := by decide +kernel
theorem dX3_kind_73 : decode cX3_kind 73 = .ok (.iload 4, 2) := by decide +kernel
theorem dX3_kind_75 : decode cX3_kind 75 = .ok (.iload_n 1, 1) := by decide +kernel
theorem dX3_kind_76 : decode cX3_kind 76 = .ok (.iastore, 1) := by decide +kernel
theorem dX3_kind_77 : decode cX3_kind 77 = .ok (.aload_n 0, 1) := by decide +kernel
theorem dX3_kind_78 : decode cX3_kind 78 = .ok (.getfield 10, 3) := by decide +kernel
theorem dX3_kind_81 : decode cX3_kind 81 = .ok (.getfield 66, 3) := by decide +kernel
theorem dX3_kind_84 : decode cX3_kind 84 = .ok (.iload 4, 2) := by decide +kernel
theorem dX3_kind_86 : decode cX3_kind 86 = .ok (.iload_n 2, 1) := by decide +kernel
theorem dX3_kind_87 : decode cX3_kind 87 = .ok (.iastore, 1) := by decide +kernel
theorem dX3_kind_88 : decode cX3_kind 88 = .ok (.aload_n 0, 1) := by decide +kernel
theorem dX3_kind_89 : decode cX3_kind 89 = .ok (.getfield 10, 3) := by decide +kernel
theorem dX3_kind_92 : decode cX3_kind 92 = .ok (.getfield 69, 3) := by decide +kernel
theorem dX3_kind_95 : decode cX3_kind 95 = .ok (.iload 4, 2) := by decide +kernel
theorem dX3_kind_97 : decode cX3_kind 97 = .ok (.iload_n 3, 1) := by decide +kernel
theorem dX3_kind_98 : decode cX3_kind 98 = .ok (.iastore, 1) := by decide +kernel
theorem dX3_kind_99 : decode cX3_kind 99 = .ok (.aload_n 0, 1) := by decide +kernel
theorem dX3_kind_100 : decode cX3_kind 100 = .ok (.getfield 10, 3) := by decide +kernel
theorem dX3_kind_103 : decode cX3_kind 103 = .ok (.dup, 1) := by decide +kernel
theorem dX3_kind_104 : decode cX3_kind 104 = .ok (.getfield 60, 3) := by decide +kernel
theorem dX3_kind_107 : decode cX3_kind 107 = .ok (.iconst 1, 1) := by decide +kernel
theorem dX3_kind_108 : decode cX3_kind 108 = .ok (.iadd, 1) := by decide +kernel
theorem dX3_kind_109 : decode cX3_kind 109 = .ok (.putfield 60, 3) := by decide +kernel
theorem dX3_kind_112 : decode cX3_kind 112 = .ok (.aload_n 0, 1) := by decide +kernel
theorem dX3_kind_113 : decode cX3_kind 113 = .ok (.getfield 19, 3) := by decide +kernel
theorem dX3_kind_116 : decode cX3_kind 116 = .ok (.getfield 72, 3) := by decide +kernel
theorem dX3_kind_119 : decode cX3_kind 119 = .ok (.iconst 0, 1) := by decide +kernel
theorem dX3_kind_120 : decode cX3_kind 120 = .ok (.aaload, 1) := by decide +kernel
theorem dX3_kind_121 : decode cX3_kind 121 = .ok (.iload 4, 2) := by decide +kernel
theorem dX3_kind_123 : decode cX3_kind 123 = .ok (.bipush 10, 2) := by decide +kernel
theorem dX3_kind_125 : decode cX3_kind 125 = .ok (.iastore, 1) := by decide +kernel
theorem dX3_kind_126 : decode cX3_kind 126 = .ok (.iload 4, 2) := by decide +kernel
theorem dX3_kind_128 : decode cX3_kind 128 = .ok (.ireturn, 1) := by decide +kernel
set_option maxRecDepth 20000 in
theorem ggX3_shelf_X2_has : GoodIn wsX3_shelf wsX2_has := goodIn_r _ [9, 10, 24, 25, 26, 27] (by decide +kernel) (by decide +kernel)
set_option maxRecDepth 20000 in
theorem gX3_shelf_X2_has : GoodIn wsX3_shelf (wsV RX3 75 RX2 yX2_has wsX2_has) := goodIn_app (goodIn_of _ (by decide +kernel)) ggX3_shelf_X2_has
set_option maxRecDepth 20000 in
theorem ggX3_shelf_X3_isOutside : GoodIn wsX3_shelf wsX3_isOutside := goodIn_r _ [14] (by decide +kernel) (by decide +kernel)
set_option maxRecDepth 20000 in
theorem gX3_shelf_X3_isOutside : GoodIn wsX3_shelf (va_wsS RX3 52 yX3_isOutside wsX3_isOutside) := goodIn_app (goodIn_of _ (by decide +kernel)) ggX3_shelf_X3_isOutside
theorem dX3_shelf_0 : decode cX3_shelf 0 = .ok (.aload_n 0, 1) := by decide +kernel
theorem dX3_shelf_1 : decode cX3_shelf 1 = .ok (.getfield 19, 3) := by decide +kernel
theorem dX3_shelf_4 : decode cX3_shelf 4 = .ok (.iload_n 1, 1) := by decide +kernel
theorem dX3_shelf_5 : decode cX3_shelf 5 = .ok (.invokevirtual 75, 3) := by decide +kernel
theorem dX3_shelf_8 : decode cX3_shelf 8 = .ok (.ifCond .ne 5, 3) := by decide +kernel
theorem dX3_shelf_11 : decode cX3_shelf 11 = .ok (.iconst (-1), 1) := by decide +kernel
theorem dX3_shelf_12 : decode cX3_shelf 12 = .ok (.ireturn, 1) := by decide +kernel
theorem dX3_shelf_13 : decode cX3_shelf 13 = .ok (.iload_n 2, 1) := by decide +kernel
theorem dX3_shelf_14 : decode cX3_shelf 14 = .ok (.iconst 1, 1) := by decide +kernel
theorem dX3_shelf_15 : decode cX3_shelf 15 = .ok (.bipush 20, 2) := by decide +kernel
theorem dX3_shelf_17 : decode cX3_shelf 17 = .ok (.invokestatic 52, 3) := by decide +kernel
theorem dX3_shelf_20 : decode cX3_shelf 20 = .ok (.ifCond .eq 6, 3) := by decide +kernel
theorem dX3_shelf_23 : decode cX3_shelf 23 = .ok (.bipush (-2), 2) := by decide +kernel
theorem dX3_shelf_25 : decode cX3_shelf 25 = .ok (.ireturn, 1) := by decide +kernel
theorem dX3_shelf_26 : decode cX3_shelf 26 = .ok (.aload_n 0, 1) := by decide +kernel
theorem dX3_shelf_27 : decode cX3_shelf 27 = .ok (.getfield 19, 3) := by decide +kernel
theorem dX3_shelf_30 : decode cX3_shelf 30 = .ok (.getfield 76, 3) := by decide +kernel
theorem dX3_shelf_33 : decode cX3_shelf 33 = .ok (.bipush 8, 2) := by decide +kernel
theorem dX3_shelf_35 : decode cX3_shelf 35 = .ok (.if_icmp .lt 6, 3) := by decide +kernel
theorem dX3_shelf_38 : decode cX3_shelf 38 = .ok (.bipush (-4), 2) := by decide +kernel
theorem dX3_shelf_40 : decode cX3_shelf 40 = .ok (.ireturn, 1) := by decide +kernel
theorem dX3_shelf_41 : decode cX3_shelf 41 = .ok (.aload_n 0, 1) := by decide +kernel
theorem dX3_shelf_42 : decode cX3_shelf 42 = .ok (.getfield 19, 3) := by decide +kernel
theorem dX3_shelf_45 : decode cX3_shelf 45 = .ok (.getfield 76, 3) := by decide +kernel
theorem dX3_shelf_48 : decode cX3_shelf 48 = .ok (.istore_n 3, 1) := by decide +kernel
theorem dX3_shelf_49 : decode cX3_shelf 49 = .ok (.aload_n 0, 1) := by decide +kernel
theorem dX3_shelf_50 : decode cX3_shelf 50 = .ok (.getfield 19, 3) := by decide +kernel
theorem dX3_shelf_53 : decode cX3_shelf 53 = .ok (.getfield 77, 3) := by decide +kernel
theorem dX3_shelf_56 : decode cX3_shelf 56 = .ok (.iload_n 3, 1) := by decide +kernel
theorem dX3_shelf_57 : decode cX3_shelf 57 = .ok (.iload_n 1, 1) := by decide +kernel
theorem dX3_shelf_58 : decode cX3_shelf 58 = .ok (.iastore, 1) := by decide +kernel
theorem dX3_shelf_59 : decode cX3_shelf 59 = .ok (.aload_n 0, 1) := by decide +kernel
theorem dX3_shelf_60 : decode cX3_shelf 60 = .ok (.getfield 19, 3) := by decide +kernel
theorem dX3_shelf_63 : decode cX3_shelf 63 = .ok (.getfield 80, 3) := by decide +kernel
theorem dX3_shelf_66 : decode cX3_shelf 66 = .ok (.iload_n 3, 1) := by decide +kernel
theorem dX3_shelf_67 : decode cX3_shelf 67 = .ok (.iload_n 2, 1) := by decide +kernel
theorem dX3_shelf_68 : decode cX3_shelf 68 = .ok (.iastore, 1) := by decide +kernel
theorem dX3_shelf_69 : decode cX3_shelf 69 = .ok (.aload_n 0, 1) := by decide +kernel
theorem dX3_shelf_70 : decode cX3_shelf 70 = .ok (.getfield 19, 3) := by decide +kernel
theorem dX3_shelf_73 : decode cX3_shelf 73 = .ok (.dup, 1) := by decide +kernel
theorem dX3_shelf_74 : decode cX3_shelf 74 = .ok (.getfield 76, 3) := by decide +kernel
theorem dX3_shelf_77 : decode cX3_shelf 77 = .ok (.iconst 1, 1) := by decide +kernel
theorem dX3_shelf_78 : decode cX3_shelf 78 = .ok (.iadd, 1) := by decide +kernel
theorem dX3_shelf_79 : decode cX3_shelf 79 = .ok (.putfield 76, 3) := by decide +kernel
theorem dX3_shelf_82 : decode cX3_shelf 82 = .ok (.iload_n 3, 1) := by decide +kernel
theorem dX3_shelf_83 : decode cX3_shelf 83 = .ok (.ireturn, 1) := by decide +kernel
set_option maxRecDepth 20000 in
theorem ggX3_mend_X3_isNoPlace : GoodIn wsX3_mend wsX3_isNoPlace := goodIn_r _ [7, 1, 8, 9, 10, 11, 12, 13, 14, 15, 16, 17, 18, 19, 20, 40, 41, 42, 43, 44, 45, 46, 47, 48, 49, 50, 51, 52, 53, 54, 55, 56, 57, 58, 59, 60, 61] (by decide +kernel) (by decide +kernel)
set_option maxRecDepth 20000 in
theorem gX3_mend_X3_isNoPlace : GoodIn wsX3_mend (wsV RX3 83 RX3 yX3_isNoPlace wsX3_isNoPlace) := goodIn_app (goodIn_of _ (by decide +kernel)) ggX3_mend_X3_isNoPlace
set_option maxRecDepth 20000 in
theorem ggX3_mend_X3_isOutside : GoodIn wsX3_mend wsX3_isOutside := goodIn_r _ [23] (by decide +kernel) (by decide +kernel)
set_option maxRecDepth 20000 in
theorem gX3_mend_X3_isOutside : GoodIn wsX3_mend (va_wsS RX3 52 yX3_isOutside wsX3_isOutside) := goodIn_app (goodIn_of _ (by decide +kernel)) ggX3_mend_X3_isOutside
set_option maxRecDepth 20000 in
theorem ggX3_mend_X3_mendsThatWait : GoodIn wsX3_mend wsX3_mendsThatWait := goodIn_r _ [27, 28, 29, 30, 31, 32, 33, 34, 35, 36, 37, 38, 39, 40, 41, 42, 43, 44, 45, 46, 47, 48, 62, 63] (by decide +kernel) (by decide +kernel)
set_option maxRecDepth 20000 in
theorem gX3_mend_X3_mendsThatWait : GoodIn wsX3_mend (wsV RX3 87 RX3 yX3_mendsThatWait wsX3_mendsThatWait) := goodIn_app (goodIn_of _ (by decide +kernel)) ggX3_mend_X3_mendsThatWait
theorem dX3_mend_0 : decode cX3_mend 0 = .ok (.aload_n 0, 1) := by decide +kernel
theorem dX3_mend_1 : decode cX3_mend 1 = .ok (.iload_n 1, 1) := by decide +kernel
theorem dX3_mend_2 : decode cX3_mend 2 = .ok (.iload_n 2, 1) := by decide +kernel
theorem dX3_mend_3 : decode cX3_mend 3 = .ok (.invokevirtual 83, 3) := by decide +kernel
theorem dX3_mend_6 : decode cX3_mend 6 = .ok (.ifCond .eq 5, 3) := by decide +kernel
theorem dX3_mend_9 : decode cX3_mend 9 = .ok (.iconst (-1), 1) := by decide +kernel
theorem dX3_mend_10 : decode cX3_mend 10 = .ok (.ireturn, 1) := by decide +kernel
theorem dX3_mend_11 : decode cX3_mend 11 = .ok (.iload_n 3, 1) := by decide +kernel
theorem dX3_mend_12 : decode cX3_mend 12 = .ok (.iconst 0, 1) := by decide +kernel
theorem dX3_mend_13 : decode cX3_mend 13 = .ok (.bipush 30, 2) := by decide +kernel
theorem dX3_mend_15 : decode cX3_mend 15 = .ok (.invokestatic 52, 3) := by decide +kernel
theorem dX3_mend_18 : decode cX3_mend 18 = .ok (.ifCond .ne 11, 3) := by decide +kernel
theorem dX3_mend_21 : decode cX3_mend 21 = .ok (.iload_n 1, 1) := by decide +kernel
theorem dX3_mend_22 : decode cX3_mend 22 = .ok (.ifCond .ne 10, 3) := by decide +kernel
theorem dX3_mend_25 : decode cX3_mend 25 = .ok (.iload_n 3, 1) := by decide +kernel
theorem dX3_mend_26 : decode cX3_mend 26 = .ok (.ifCond .ne 6, 3) := by decide +kernel
theorem dX3_mend_29 : decode cX3_mend 29 = .ok (.bipush (-2), 2) := by decide +kernel
theorem dX3_mend_31 : decode cX3_mend 31 = .ok (.ireturn, 1) := by decide +kernel
theorem dX3_mend_32 : decode cX3_mend 32 = .ok (.iload_n 3, 1) := by decide +kernel
theorem dX3_mend_33 : decode cX3_mend 33 = .ok (.ifCond .ne 15, 3) := by decide +kernel
theorem dX3_mend_36 : decode cX3_mend 36 = .ok (.aload_n 0, 1) := by decide +kernel
theorem dX3_mend_37 : decode cX3_mend 37 = .ok (.iload_n 1, 1) := by decide +kernel
theorem dX3_mend_38 : decode cX3_mend 38 = .ok (.iload_n 2, 1) := by decide +kernel
theorem dX3_mend_39 : decode cX3_mend 39 = .ok (.invokevirtual 87, 3) := by decide +kernel
theorem dX3_mend_42 : decode cX3_mend 42 = .ok (.ifCond .le 6, 3) := by decide +kernel
theorem dX3_mend_45 : decode cX3_mend 45 = .ok (.bipush (-3), 2) := by decide +kernel
theorem dX3_mend_47 : decode cX3_mend 47 = .ok (.ireturn, 1) := by decide +kernel
theorem dX3_mend_48 : decode cX3_mend 48 = .ok (.aload_n 0, 1) := by decide +kernel
theorem dX3_mend_49 : decode cX3_mend 49 = .ok (.getfield 19, 3) := by decide +kernel
theorem dX3_mend_52 : decode cX3_mend 52 = .ok (.getfield 72, 3) := by decide +kernel
theorem dX3_mend_55 : decode cX3_mend 55 = .ok (.iload_n 1, 1) := by decide +kernel
theorem dX3_mend_56 : decode cX3_mend 56 = .ok (.aaload, 1) := by decide +kernel
theorem dX3_mend_57 : decode cX3_mend 57 = .ok (.iload_n 2, 1) := by decide +kernel
theorem dX3_mend_58 : decode cX3_mend 58 = .ok (.iaload, 1) := by decide +kernel
theorem dX3_mend_59 : decode cX3_mend 59 = .ok (.istore 4, 2) := by decide +kernel
theorem dX3_mend_61 : decode cX3_mend 61 = .ok (.aload_n 0, 1) := by decide +kernel
theorem dX3_mend_62 : decode cX3_mend 62 = .ok (.getfield 19, 3) := by decide +kernel
theorem dX3_mend_65 : decode cX3_mend 65 = .ok (.getfield 72, 3) := by decide +kernel
theorem dX3_mend_68 : decode cX3_mend 68 = .ok (.iload_n 1, 1) := by decide +kernel
theorem dX3_mend_69 : decode cX3_mend 69 = .ok (.aaload, 1) := by decide +kernel
theorem dX3_mend_70 : decode cX3_mend 70 = .ok (.iload_n 2, 1) := by decide +kernel
theorem dX3_mend_71 : decode cX3_mend 71 = .ok (.iload_n 3, 1) := by decide +kernel
theorem dX3_mend_72 : decode cX3_mend 72 = .ok (.iastore, 1) := by decide +kernel
theorem dX3_mend_73 : decode cX3_mend 73 = .ok (.iload 4, 2) := by decide +kernel
theorem dX3_mend_75 : decode cX3_mend 75 = .ok (.ireturn, 1) := by decide +kernel
set_option maxRecDepth 20000 in
theorem ggX3_stock_X3_isNoPlace : GoodIn wsX3_stock wsX3_isNoPlace := goodIn_r _ [8, 9, 1, 10, 11, 12, 13, 14, 15, 16, 17, 18, 19, 20, 21, 116, 117, 118, 119, 120, 121, 122, 123, 124, 134, 135, 136, 137, 125, 126, 127, 128, 129, 130, 131, 132, 133] (by decide +kernel) (by decide +kernel)
set_option maxRecDepth 20000 in
theorem gX3_stock_X3_isNoPlace : GoodIn wsX3_stock (wsV RX3 83 RX3 yX3_isNoPlace wsX3_isNoPlace) := goodIn_app (goodIn_of _ (by decide +kernel)) ggX3_stock_X3_isNoPlace
set_option maxRecDepth 20000 in
theorem ggX3_stock_X3_isOutside : GoodIn wsX3_stock wsX3_isOutside := goodIn_r _ [24] (by decide +kernel) (by decide +kernel)
set_option maxRecDepth 20000 in
theorem gX3_stock_X3_isOutside : GoodIn wsX3_stock (va_wsS RX3 52 yX3_isOutside wsX3_isOutside) := goodIn_app (goodIn_of _ (by decide +kernel)) ggX3_stock_X3_isOutside
set_option maxRecDepth 20000 in
theorem ggX3_stock_X3_lands : GoodIn wsX3_stock wsX3_lands := goodIn_r _ [28, 29, 3, 1, 30, 31, 32, 33, 34, 35, 36, 37, 38, 39, 40, 41, 42, 43, 44, 45, 46, 47, 48, 49, 50, 51, 52, 53, 54, 55, 56, 7, 57, 58, 59, 9, 60, 61, 62, 63, 64, 65, 66, 67, 68, 69, 70, 71, 72, 73, 74, 75, 76, 77, 78, 79, 80, 81, 82, 83, 84, 85, 86, 87, 88, 89, 13, 90, 91, 92, 93, 94, 95, 96, 97, 98, 99, 100, 101, 102, 103, 104, 105, 106, 107, 108, 109, 110, 111, 112, 113, 114, 115, 116, 117, 118, 119, 120, 121, 122, 123, 124, 125, 126, 127, 128, 129, 130, 131, 132, 133, 138, 139, 134, 135, 136, 137] (by decide +kernel) (by decide +kernel)
set_option maxRecDepth 20000 in
theorem gX3_stock_X3_lands : GoodIn wsX3_stock (wsV RX3 94 RX3 yX3_lands wsX3_lands) := goodIn_app (goodIn_of _ (by decide +kernel)) ggX3_stock_X3_lands
theorem dX3_stock_0 : decode cX3_stock 0 = .ok (.aload_n 0, 1) := by decide +kernel
theorem dX3_stock_1 : decode cX3_stock 1 = .ok (.iload_n 1, 1) := by decide +kernel
theorem dX3_stock_2 : decode cX3_stock 2 = .ok (.iload_n 2, 1) := by decide +kernel
theorem dX3_stock_3 : decode cX3_stock 3 = .ok (.invokevirtual 83, 3) := by decide +kernel
theorem dX3_stock_6 : decode cX3_stock 6 = .ok (.ifCond .eq 5, 3) := by decide +kernel
theorem dX3_stock_9 : decode cX3_stock 9 = .ok (.iconst (-1), 1) := by decide +kernel
theorem dX3_stock_10 : decode cX3_stock 10 = .ok (.ireturn, 1) := by decide +kernel
theorem dX3_stock_11 : decode cX3_stock 11 = .ok (.iload_n 3, 1) := by decide +kernel
theorem dX3_stock_12 : decode cX3_stock 12 = .ok (.iconst 1, 1) := by decide +kernel
theorem dX3_stock_13 : decode cX3_stock 13 = .ok (.bipush 9, 2) := by decide +kernel
theorem dX3_stock_15 : decode cX3_stock 15 = .ok (.invokestatic 52, 3) := by decide +kernel
theorem dX3_stock_18 : decode cX3_stock 18 = .ok (.ifCond .eq 6, 3) := by decide +kernel
theorem dX3_stock_21 : decode cX3_stock 21 = .ok (.bipush (-2), 2) := by decide +kernel
theorem dX3_stock_23 : decode cX3_stock 23 = .ok (.ireturn, 1) := by decide +kernel
theorem dX3_stock_24 : decode cX3_stock 24 = .ok (.aload_n 0, 1) := by decide +kernel
theorem dX3_stock_25 : decode cX3_stock 25 = .ok (.getfield 10, 3) := by decide +kernel
theorem dX3_stock_28 : decode cX3_stock 28 = .ok (.getfield 91, 3) := by decide +kernel
theorem dX3_stock_31 : decode cX3_stock 31 = .ok (.iload_n 2, 1) := by decide +kernel
theorem dX3_stock_32 : decode cX3_stock 32 = .ok (.iaload, 1) := by decide +kernel
theorem dX3_stock_33 : decode cX3_stock 33 = .ok (.iload_n 3, 1) := by decide +kernel
theorem dX3_stock_34 : decode cX3_stock 34 = .ok (.iadd, 1) := by decide +kernel
theorem dX3_stock_35 : decode cX3_stock 35 = .ok (.sipush 200, 3) := by decide +kernel
theorem dX3_stock_38 : decode cX3_stock 38 = .ok (.if_icmp .le 6, 3) := by decide +kernel
theorem dX3_stock_41 : decode cX3_stock 41 = .ok (.bipush (-4), 2) := by decide +kernel
theorem dX3_stock_43 : decode cX3_stock 43 = .ok (.ireturn, 1) := by decide +kernel
theorem dX3_stock_44 : decode cX3_stock 44 = .ok (.iconst 0, 1) := by decide +kernel
theorem dX3_stock_45 : decode cX3_stock 45 = .ok (.istore 4, 2) := by decide +kernel
theorem dX3_stock_47 : decode cX3_stock 47 = .ok (.iload 4, 2) := by decide +kernel
theorem dX3_stock_49 : decode cX3_stock 49 = .ok (.iload_n 3, 1) := by decide +kernel
theorem dX3_stock_50 : decode cX3_stock 50 = .ok (.if_icmp .ge 28, 3) := by decide +kernel
theorem dX3_stock_53 : decode cX3_stock 53 = .ok (.aload_n 0, 1) := by decide +kernel
theorem dX3_stock_54 : decode cX3_stock 54 = .ok (.getfield 10, 3) := by decide +kernel
theorem dX3_stock_57 : decode cX3_stock 57 = .ok (.getfield 91, 3) := by decide +kernel
theorem dX3_stock_60 : decode cX3_stock 60 = .ok (.iload_n 2, 1) := by decide +kernel
theorem dX3_stock_61 : decode cX3_stock 61 = .ok (.dup2, 1) := by decide +kernel
theorem dX3_stock_62 : decode cX3_stock 62 = .ok (.iaload, 1) := by decide +kernel
theorem dX3_stock_63 : decode cX3_stock 63 = .ok (.iconst 1, 1) := by decide +kernel
theorem dX3_stock_64 : decode cX3_stock 64 = .ok (.iadd, 1) := by decide +kernel
theorem dX3_stock_65 : decode cX3_stock 65 = .ok (.iastore, 1) := by decide +kernel
theorem dX3_stock_66 : decode cX3_stock 66 = .ok (.aload_n 0, 1) := by decide +kernel
theorem dX3_stock_67 : decode cX3_stock 67 = .ok (.iload_n 1, 1) := by decide +kernel
theorem dX3_stock_68 : decode cX3_stock 68 = .ok (.iload_n 2, 1) := by decide +kernel
theorem dX3_stock_69 : decode cX3_stock 69 = .ok (.invokevirtual 94, 3) := by decide +kernel
theorem dX3_stock_72 : decode cX3_stock 72 = .ok (.iinc 4 1, 3) := by decide +kernel
theorem dX3_stock_75 : decode cX3_stock 75 = .ok (.goto (-28), 3) := by decide +kernel
theorem dX3_stock_78 : decode cX3_stock 78 = .ok (.aload_n 0, 1) := by decide +kernel
theorem dX3_stock_79 : decode cX3_stock 79 = .ok (.getfield 25, 3) := by decide +kernel
theorem dX3_stock_82 : decode cX3_stock 82 = .ok (.iload_n 1, 1) := by decide +kernel
theorem dX3_stock_83 : decode cX3_stock 83 = .ok (.aaload, 1) := by decide +kernel
theorem dX3_stock_84 : decode cX3_stock 84 = .ok (.iload_n 2, 1) := by decide +kernel
theorem dX3_stock_85 : decode cX3_stock 85 = .ok (.iaload, 1) := by decide +kernel
theorem dX3_stock_86 : decode cX3_stock 86 = .ok (.ireturn, 1) := by decide +kernel
set_option maxRecDepth 20000 in
theorem ggX3_rate_X3_isNoPlace : GoodIn wsX3_rate wsX3_isNoPlace := goodIn_r _ [6, 7, 8, 9, 10, 11, 12, 13, 14, 15, 16, 17, 18, 19, 20, 24, 25, 26, 27, 28, 29, 30, 31, 32, 33, 34, 35, 36, 37, 38, 39, 40, 41, 42, 43, 44, 45] (by decide +kernel) (by decide +kernel)
set_option maxRecDepth 20000 in
theorem gX3_rate_X3_isNoPlace : GoodIn wsX3_rate (wsV RX3 83 RX3 yX3_isNoPlace wsX3_isNoPlace) := goodIn_app (goodIn_of _ (by decide +kernel)) ggX3_rate_X3_isNoPlace
set_option maxRecDepth 20000 in
theorem ggX3_rate_X3_isOutside : GoodIn wsX3_rate wsX3_isOutside := goodIn_r _ [23] (by decide +kernel) (by decide +kernel)
set_option maxRecDepth 20000 in
theorem gX3_rate_X3_isOutside : GoodIn wsX3_rate (va_wsS RX3 52 yX3_isOutside wsX3_isOutside) := goodIn_app (goodIn_of _ (by decide +kernel)) ggX3_rate_X3_isOutside
theorem dX3_rate_0 : decode cX3_rate 0 = .ok (.aload_n 0, 1) := by decide +kernel
theorem dX3_rate_1 : decode cX3_rate 1 = .ok (.iload_n 1, 1) := by decide +kernel
theorem dX3_rate_2 : decode cX3_rate 2 = .ok (.iload_n 2, 1) := by decide +kernel
theorem dX3_rate_3 : decode cX3_rate 3 = .ok (.invokevirtual 83, 3) := by decide +kernel
theorem dX3_rate_6 : decode cX3_rate 6 = .ok (.ifCond .eq 5, 3) := by decide +kernel
theorem dX3_rate_9 : decode cX3_rate 9 = .ok (.iconst (-1), 1) := by decide +kernel
theorem dX3_rate_10 : decode cX3_rate 10 = .ok (.ireturn, 1) := by decide +kernel
theorem dX3_rate_11 : decode cX3_rate 11 = .ok (.iload_n 3, 1) := by decide +kernel
theorem dX3_rate_12 : decode cX3_rate 12 = .ok (.iconst 0, 1) := by decide +kernel
theorem dX3_rate_13 : decode cX3_rate 13 = .ok (.sipush 10000, 3) := by decide +kernel
theorem dX3_rate_16 : decode cX3_rate 16 = .ok (.invokestatic 52, 3) := by decide +kernel
theorem dX3_rate_19 : decode cX3_rate 19 = .ok (.ifCond .eq 6, 3) := by decide +kernel
theorem dX3_rate_22 : decode cX3_rate 22 = .ok (.bipush (-2), 2) := by decide +kernel
theorem dX3_rate_24 : decode cX3_rate 24 = .ok (.ireturn, 1) := by decide +kernel
theorem dX3_rate_25 : decode cX3_rate 25 = .ok (.aload_n 0, 1) := by decide +kernel
theorem dX3_rate_26 : decode cX3_rate 26 = .ok (.getfield 28, 3) := by decide +kernel
theorem dX3_rate_29 : decode cX3_rate 29 = .ok (.iload_n 1, 1) := by decide +kernel
theorem dX3_rate_30 : decode cX3_rate 30 = .ok (.aaload, 1) := by decide +kernel
theorem dX3_rate_31 : decode cX3_rate 31 = .ok (.iload_n 2, 1) := by decide +kernel
theorem dX3_rate_32 : decode cX3_rate 32 = .ok (.iaload, 1) := by decide +kernel
theorem dX3_rate_33 : decode cX3_rate 33 = .ok (.istore 4, 2) := by decide +kernel
theorem dX3_rate_35 : decode cX3_rate 35 = .ok (.aload_n 0, 1) := by decide +kernel
theorem dX3_rate_36 : decode cX3_rate 36 = .ok (.getfield 28, 3) := by decide +kernel
theorem dX3_rate_39 : decode cX3_rate 39 = .ok (.iload_n 1, 1) := by decide +kernel
theorem dX3_rate_40 : decode cX3_rate 40 = .ok (.aaload, 1) := by decide +kernel
theorem dX3_rate_41 : decode cX3_rate 41 = .ok (.iload_n 2, 1) := by decide +kernel
theorem dX3_rate_42 : decode cX3_rate 42 = .ok (.iload_n 3, 1) := by decide +kernel
theorem dX3_rate_43 : decode cX3_rate 43 = .ok (.iastore, 1) := by decide +kernel
theorem dX3_rate_44 : decode cX3_rate 44 = .ok (.iload 4, 2) := by decide +kernel
theorem dX3_rate_46 : decode cX3_rate 46 = .ok (.ireturn, 1) := by decide +kernel
set_option maxRecDepth 20000 in
theorem ggX3_fails_X3_isNoPlace : GoodIn wsX3_fails wsX3_isNoPlace := goodIn_r _ [16, 11, 1, 17, 18, 19, 20, 21, 22, 23, 24, 25, 26, 27, 28, 107, 108, 109, 110, 111, 112, 113, 114, 115, 127, 128, 129, 130, 116, 117, 118, 119, 120, 121, 122, 123, 124] (by decide +kernel) (by decide +kernel)
set_option maxRecDepth 20000 in
theorem gX3_fails_X3_isNoPlace : GoodIn wsX3_fails (wsV RX3 83 RX3 yX3_isNoPlace wsX3_isNoPlace) := goodIn_app (goodIn_of _ (by decide +kernel)) ggX3_fails_X3_isNoPlace
set_option maxRecDepth 20000 in
theorem ggX3_fails_X3_isOutside : GoodIn wsX3_fails wsX3_isOutside := goodIn_r _ [31] (by decide +kernel) (by decide +kernel)
set_option maxRecDepth 20000 in
theorem gX3_fails_X3_isOutside : GoodIn wsX3_fails (va_wsS RX3 52 yX3_isOutside wsX3_isOutside) := goodIn_app (goodIn_of _ (by decide +kernel)) ggX3_fails_X3_isOutside
set_option maxRecDepth 20000 in
theorem ggX3_fails_X3_servesMachine : GoodIn wsX3_fails wsX3_servesMachine := goodIn_r _ [35, 1, 36, 3, 9, 37, 38, 39, 15, 40, 41, 42, 43, 44, 45, 46, 47, 48, 49, 50, 51, 52, 53, 54, 55, 56, 57, 58, 59, 60, 61, 62, 63, 64, 65, 66, 67, 107, 108, 109, 110, 111, 112, 113, 114, 115, 116, 117, 118, 119, 120, 121, 122, 123, 124, 125, 126] (by decide +kernel) (by decide +kernel)
set_option maxRecDepth 20000 in
theorem gX3_fails_X3_servesMachine : GoodIn wsX3_fails (wsV RX3 99 RX3 yX3_servesMachine wsX3_servesMachine) := goodIn_app (goodIn_of _ (by decide +kernel)) ggX3_fails_X3_servesMachine
set_option maxRecDepth 20000 in
theorem ggX3_fails_X3_asksGoUp : GoodIn wsX3_fails wsX3_asksGoUp := goodIn_r _ [71, 11, 72, 3, 9, 37, 38, 39, 15, 40, 41, 73, 74, 75, 76, 5, 77, 42, 43, 44, 45, 46, 47, 48, 49, 50, 51, 52, 53, 54, 55, 56, 57, 58, 59, 60, 61, 62, 63, 64, 65, 66, 67, 107, 108, 109, 110, 111, 112, 113, 114, 115, 127, 128, 129, 130, 125, 126] (by decide +kernel) (by decide +kernel)
set_option maxRecDepth 20000 in
theorem gX3_fails_X3_asksGoUp : GoodIn wsX3_fails (wsV RX3 108 RX3 yX3_asksGoUp wsX3_asksGoUp) := goodIn_app (goodIn_of _ (by decide +kernel)) ggX3_fails_X3_asksGoUp
set_option maxRecDepth 20000 in
theorem ggX3_fails_X1_add : GoodIn wsX3_fails wsX1_add := goodIn_r _ [46, 47, 48, 49, 50, 51, 52, 53, 54, 55, 56, 57, 58, 59, 60, 61, 62, 63, 64, 65, 66, 67, 125, 126] (by decide +kernel) (by decide +kernel)
set_option maxRecDepth 20000 in
theorem gX3_fails_X1_add : GoodIn wsX3_fails (wsV RX3 112 RX1 yX1_add wsX1_add) := goodIn_app (goodIn_of _ (by decide +kernel)) ggX3_fails_X1_add
set_option maxRecDepth 20000 in
theorem ggX3_fails_X3_goesBack : GoodIn wsX3_fails wsX3_goesBack := goodIn_r _ [81, 11, 1, 2, 3, 9, 82, 83, 84, 20, 85, 86, 87, 88, 89, 90, 15, 91, 5, 92, 93, 94, 95, 96, 42, 43, 44, 45, 46, 47, 48, 49, 50, 51, 52, 53, 54, 55, 56, 57, 58, 59, 60, 61, 62, 63, 64, 65, 66, 67, 97, 98, 99, 100, 101, 37, 38, 39, 40, 41, 102, 103, 104, 105, 106, 6, 68, 69, 70, 71, 72, 73, 74, 75, 76, 77, 107, 108, 109, 110, 111, 112, 113, 114, 115, 116, 117, 118, 119, 120, 121, 122, 123, 124, 127, 128, 129, 130, 125, 126] (by decide +kernel) (by decide +kernel)
set_option maxRecDepth 20000 in
theorem gX3_fails_X3_goesBack : GoodIn wsX3_fails (wsV RX3 116 RX3 yX3_goesBack wsX3_goesBack) := goodIn_app (goodIn_of _ (by decide +kernel)) ggX3_fails_X3_goesBack
set_option maxRecDepth 20000 in
theorem ggX3_fails_X2_firstThatMends : GoodIn wsX3_fails wsX2_firstThatMends := goodIn_r _ [85, 86, 87, 127, 128, 129, 130] (by decide +kernel) (by decide +kernel)
set_option maxRecDepth 20000 in
theorem gX3_fails_X2_firstThatMends : GoodIn wsX3_fails (wsV RX3 119 RX2 yX2_firstThatMends wsX2_firstThatMends) := goodIn_app (goodIn_of _ (by decide +kernel)) ggX3_fails_X2_firstThatMends
theorem dX3_fails_0 : decode cX3_fails 0 = .ok (.aload_n 0, 1) := by decide +kernel
theorem dX3_fails_1 : decode cX3_fails 1 = .ok (.iload_n 1, 1) := by decide +kernel
theorem dX3_fails_2 : decode cX3_fails 2 = .ok (.iload_n 2, 1) := by decide +kernel
theorem dX3_fails_3 : decode cX3_fails 3 = .ok (.invokevirtual 83, 3) := by decide +kernel
theorem dX3_fails_6 : decode cX3_fails 6 = .ok (.ifCond .eq 5, 3) := by decide +kernel
theorem dX3_fails_9 : decode cX3_fails 9 = .ok (.iconst (-1), 1) := by decide +kernel
theorem dX3_fails_10 : decode cX3_fails 10 = .ok (.ireturn, 1) := by decide +kernel
theorem dX3_fails_11 : decode cX3_fails 11 = .ok (.iload_n 3, 1) := by decide +kernel
theorem dX3_fails_12 : decode cX3_fails 12 = .ok (.iconst 0, 1) := by decide +kernel
theorem dX3_fails_13 : decode cX3_fails 13 = .ok (.iconst 2, 1) := by decide +kernel
theorem dX3_fails_14 : decode cX3_fails 14 = .ok (.invokestatic 52, 3) := by decide +kernel
theorem dX3_fails_17 : decode cX3_fails 17 = .ok (.ifCond .eq 6, 3) := by decide +kernel
theorem dX3_fails_20 : decode cX3_fails 20 = .ok (.bipush (-2), 2) := by decide +kernel
theorem dX3_fails_22 : decode cX3_fails 22 = .ok (.ireturn, 1) := by decide +kernel
theorem dX3_fails_23 : decode cX3_fails 23 = .ok (.iload_n 3, 1) := by decide +kernel
theorem dX3_fails_24 : decode cX3_fails 24 = .ok (.iconst 1, 1) := by decide +kernel
theorem dX3_fails_25 : decode cX3_fails 25 = .ok (.if_icmp .ne 19, 3) := by decide +kernel
theorem dX3_fails_28 : decode cX3_fails 28 = .ok (.aload_n 0, 1) := by decide +kernel
theorem dX3_fails_29 : decode cX3_fails 29 = .ok (.getfield 10, 3) := by decide +kernel
theorem dX3_fails_32 : decode cX3_fails 32 = .ok (.getfield 69, 3) := by decide +kernel
theorem dX3_fails_35 : decode cX3_fails 35 = .ok (.iload_n 2, 1) := by decide +kernel
theorem dX3_fails_36 : decode cX3_fails 36 = .ok (.iaload, 1) := by decide +kernel
theorem dX3_fails_37 : decode cX3_fails 37 = .ok (.iconst (-1), 1) := by decide +kernel
theorem dX3_fails_38 : decode cX3_fails 38 = .ok (.if_icmp .ne 6, 3) := by decide +kernel
theorem dX3_fails_41 : decode cX3_fails 41 = .ok (.bipush (-3), 2) := by decide +kernel
theorem dX3_fails_43 : decode cX3_fails 43 = .ok (.ireturn, 1) := by decide +kernel
theorem dX3_fails_44 : decode cX3_fails 44 = .ok (.aload_n 0, 1) := by decide +kernel
theorem dX3_fails_45 : decode cX3_fails 45 = .ok (.getfield 41, 3) := by decide +kernel
theorem dX3_fails_48 : decode cX3_fails 48 = .ok (.getfield 98, 3) := by decide +kernel
theorem dX3_fails_51 : decode cX3_fails 51 = .ok (.bipush 100, 2) := by decide +kernel
theorem dX3_fails_53 : decode cX3_fails 53 = .ok (.if_icmp .gt 15, 3) := by decide +kernel
theorem dX3_fails_56 : decode cX3_fails 56 = .ok (.aload_n 0, 1) := by decide +kernel
theorem dX3_fails_57 : decode cX3_fails 57 = .ok (.getfield 45, 3) := by decide +kernel
theorem dX3_fails_60 : decode cX3_fails 60 = .ok (.getfield 98, 3) := by decide +kernel
theorem dX3_fails_63 : decode cX3_fails 63 = .ok (.bipush 100, 2) := by decide +kernel
theorem dX3_fails_65 : decode cX3_fails 65 = .ok (.if_icmp .le 6, 3) := by decide +kernel
theorem dX3_fails_68 : decode cX3_fails 68 = .ok (.bipush (-4), 2) := by decide +kernel
theorem dX3_fails_70 : decode cX3_fails 70 = .ok (.ireturn, 1) := by decide +kernel
theorem dX3_fails_71 : decode cX3_fails 71 = .ok (.aload_n 0, 1) := by decide +kernel
theorem dX3_fails_72 : decode cX3_fails 72 = .ok (.iload_n 1, 1) := by decide +kernel
theorem dX3_fails_73 : decode cX3_fails 73 = .ok (.iload_n 2, 1) := by decide +kernel
theorem dX3_fails_74 : decode cX3_fails 74 = .ok (.invokevirtual 99, 3) := by decide +kernel
theorem dX3_fails_77 : decode cX3_fails 77 = .ok (.istore 4, 2) := by decide +kernel
theorem dX3_fails_79 : decode cX3_fails 79 = .ok (.aload_n 0, 1) := by decide +kernel
theorem dX3_fails_80 : decode cX3_fails 80 = .ok (.getfield 10, 3) := by decide +kernel
theorem dX3_fails_83 : decode cX3_fails 83 = .ok (.getfield 102, 3) := by decide +kernel
theorem dX3_fails_86 : decode cX3_fails 86 = .ok (.iload_n 2, 1) := by decide +kernel
theorem dX3_fails_87 : decode cX3_fails 87 = .ok (.dup2, 1) := by decide +kernel
theorem dX3_fails_88 : decode cX3_fails 88 = .ok (.iaload, 1) := by decide +kernel
theorem dX3_fails_89 : decode cX3_fails 89 = .ok (.iconst 1, 1) := by decide +kernel
theorem dX3_fails_90 : decode cX3_fails 90 = .ok (.iadd, 1) := by decide +kernel
theorem dX3_fails_91 : decode cX3_fails 91 = .ok (.iastore, 1) := by decide +kernel
theorem dX3_fails_92 : decode cX3_fails 92 = .ok (.iload_n 3, 1) := by decide +kernel
theorem dX3_fails_93 : decode cX3_fails 93 = .ok (.iconst 2, 1) := by decide +kernel
theorem dX3_fails_94 : decode cX3_fails 94 = .ok (.if_icmp .ne 64, 3) := by decide +kernel
theorem dX3_fails_97 : decode cX3_fails 97 = .ok (.aload_n 0, 1) := by decide +kernel
theorem dX3_fails_98 : decode cX3_fails 98 = .ok (.getfield 10, 3) := by decide +kernel
theorem dX3_fails_101 : decode cX3_fails 101 = .ok (.getfield 105, 3) := by decide +kernel
theorem dX3_fails_104 : decode cX3_fails 104 = .ok (.iload_n 2, 1) := by decide +kernel
theorem dX3_fails_105 : decode cX3_fails 105 = .ok (.dup2, 1) := by decide +kernel
theorem dX3_fails_106 : decode cX3_fails 106 = .ok (.iaload, 1) := by decide +kernel
theorem dX3_fails_107 : decode cX3_fails 107 = .ok (.iconst 1, 1) := by decide +kernel
theorem dX3_fails_108 : decode cX3_fails 108 = .ok (.iadd, 1) := by decide +kernel
theorem dX3_fails_109 : decode cX3_fails 109 = .ok (.iastore, 1) := by decide +kernel
theorem dX3_fails_110 : decode cX3_fails 110 = .ok (.aload_n 0, 1) := by decide +kernel
theorem dX3_fails_111 : decode cX3_fails 111 = .ok (.iload_n 1, 1) := by decide +kernel
theorem dX3_fails_112 : decode cX3_fails 112 = .ok (.iload_n 2, 1) := by decide +kernel
theorem dX3_fails_113 : decode cX3_fails 113 = .ok (.iconst 0, 1) := by decide +kernel
theorem dX3_fails_114 : decode cX3_fails 114 = .ok (.invokevirtual 108, 3) := by decide +kernel
theorem dX3_fails_117 : decode cX3_fails 117 = .ok (.aload_n 0, 1) := by decide +kernel
theorem dX3_fails_118 : decode cX3_fails 118 = .ok (.getfield 10, 3) := by decide +kernel
theorem dX3_fails_121 : decode cX3_fails 121 = .ok (.getfield 91, 3) := by decide +kernel
theorem dX3_fails_124 : decode cX3_fails 124 = .ok (.iload_n 2, 1) := by decide +kernel
theorem dX3_fails_125 : decode cX3_fails 125 = .ok (.dup2, 1) := by decide +kernel
theorem dX3_fails_126 : decode cX3_fails 126 = .ok (.iaload, 1) := by decide +kernel
theorem dX3_fails_127 : decode cX3_fails 127 = .ok (.iconst 1, 1) := by decide +kernel
theorem dX3_fails_128 : decode cX3_fails 128 = .ok (.iadd, 1) := by decide +kernel
theorem dX3_fails_129 : decode cX3_fails 129 = .ok (.iastore, 1) := by decide +kernel
theorem dX3_fails_130 : decode cX3_fails 130 = .ok (.aload_n 0, 1) := by decide +kernel
theorem dX3_fails_131 : decode cX3_fails 131 = .ok (.getfield 45, 3) := by decide +kernel
theorem dX3_fails_134 : decode cX3_fails 134 = .ok (.iconst 0, 1) := by decide +kernel
theorem dX3_fails_135 : decode cX3_fails 135 = .ok (.iload_n 2, 1) := by decide +kernel
theorem dX3_fails_136 : decode cX3_fails 136 = .ok (.iconst 3, 1) := by decide +kernel
theorem dX3_fails_137 : decode cX3_fails 137 = .ok (.aload_n 0, 1) := by decide +kernel
theorem dX3_fails_138 : decode cX3_fails 138 = .ok (.getfield 48, 3) := by decide +kernel
theorem dX3_fails_141 : decode cX3_fails 141 = .ok (.aload_n 0, 1) := by decide +kernel
theorem dX3_fails_142 : decode cX3_fails 142 = .ok (.getfield 10, 3) := by decide +kernel
theorem dX3_fails_145 : decode cX3_fails 145 = .ok (.getfield 66, 3) := by decide +kernel
theorem dX3_fails_148 : decode cX3_fails 148 = .ok (.iload_n 2, 1) := by decide +kernel
theorem dX3_fails_149 : decode cX3_fails 149 = .ok (.iaload, 1) := by decide +kernel
theorem dX3_fails_150 : decode cX3_fails 150 = .ok (.iadd, 1) := by decide +kernel
theorem dX3_fails_151 : decode cX3_fails 151 = .ok (.iconst (-1), 1) := by decide +kernel
theorem dX3_fails_152 : decode cX3_fails 152 = .ok (.invokevirtual 112, 3) := by decide +kernel
theorem dX3_fails_155 : decode cX3_fails 155 = .ok (.goto 25, 3) := by decide +kernel
theorem dX3_fails_158 : decode cX3_fails 158 = .ok (.aload_n 0, 1) := by decide +kernel
theorem dX3_fails_159 : decode cX3_fails 159 = .ok (.iload_n 1, 1) := by decide +kernel
theorem dX3_fails_160 : decode cX3_fails 160 = .ok (.iload_n 2, 1) := by decide +kernel
theorem dX3_fails_161 : decode cX3_fails 161 = .ok (.iload_n 3, 1) := by decide +kernel
theorem dX3_fails_162 : decode cX3_fails 162 = .ok (.invokevirtual 116, 3) := by decide +kernel
theorem dX3_fails_165 : decode cX3_fails 165 = .ok (.aload_n 0, 1) := by decide +kernel
theorem dX3_fails_166 : decode cX3_fails 166 = .ok (.iload_n 1, 1) := by decide +kernel
theorem dX3_fails_167 : decode cX3_fails 167 = .ok (.iload_n 2, 1) := by decide +kernel
theorem dX3_fails_168 : decode cX3_fails 168 = .ok (.aload_n 0, 1) := by decide +kernel
theorem dX3_fails_169 : decode cX3_fails 169 = .ok (.getfield 19, 3) := by decide +kernel
theorem dX3_fails_172 : decode cX3_fails 172 = .ok (.iload_n 1, 1) := by decide +kernel
theorem dX3_fails_173 : decode cX3_fails 173 = .ok (.iload_n 2, 1) := by decide +kernel
theorem dX3_fails_174 : decode cX3_fails 174 = .ok (.invokevirtual 119, 3) := by decide +kernel
theorem dX3_fails_177 : decode cX3_fails 177 = .ok (.invokevirtual 108, 3) := by decide +kernel
theorem dX3_fails_180 : decode cX3_fails 180 = .ok (.iload 4, 2) := by decide +kernel
theorem dX3_fails_182 : decode cX3_fails 182 = .ok (.ifCond .eq 7, 3) := by decide +kernel
theorem dX3_fails_185 : decode cX3_fails 185 = .ok (.iconst 1, 1) := by decide +kernel
theorem dX3_fails_186 : decode cX3_fails 186 = .ok (.goto 4, 3) := by decide +kernel
theorem dX3_fails_189 : decode cX3_fails 189 = .ok (.iconst 0, 1) := by decide +kernel
theorem dX3_fails_190 : decode cX3_fails 190 = .ok (.ireturn, 1) := by decide +kernel
set_option maxRecDepth 20000 in
theorem ggX3_days_X3_isOutside : GoodIn wsX3_days wsX3_isOutside := goodIn_r _ [5] (by decide +kernel) (by decide +kernel)
set_option maxRecDepth 20000 in
theorem gX3_days_X3_isOutside : GoodIn wsX3_days (va_wsS RX3 52 yX3_isOutside wsX3_isOutside) := goodIn_app (goodIn_of _ (by decide +kernel)) ggX3_days_X3_isOutside
set_option maxRecDepth 20000 in
theorem ggX3_days_X3_doWhatIsDue : GoodIn wsX3_days wsX3_doWhatIsDue := goodIn_r _ [9, 10, 11, 1, 12, 13, 14, 15, 16, 17, 18, 19, 20, 21, 22, 23, 24, 25, 26, 27, 28, 29, 4, 30, 31, 32, 33, 34, 35, 36, 37, 38, 39, 40, 41, 42, 43, 44, 45, 46, 47, 48, 49, 50, 51, 52, 53, 54, 55, 56, 57, 58, 59, 60, 61, 62, 63, 64, 65, 66, 67, 68, 69, 70, 71, 72, 73, 74, 75, 76, 77, 78, 79, 80, 81, 82, 83, 84, 85, 86, 87, 88, 89, 90, 91, 92, 93, 94, 95, 96, 97, 98, 99, 100, 101, 102, 103, 104, 105, 106, 107, 108, 109, 115, 116, 117, 118, 119, 120, 121, 122, 123, 124, 125, 126, 127, 128, 129, 130, 131, 132, 133, 134, 135, 136, 137, 138] (by decide +kernel) (by decide +kernel)
set_option maxRecDepth 20000 in
theorem gX3_days_X3_doWhatIsDue : GoodIn wsX3_days (wsV RX3 122 RX3 yX3_doWhatIsDue wsX3_doWhatIsDue) := goodIn_app (goodIn_of _ (by decide +kernel)) ggX3_days_X3_doWhatIsDue
set_option maxRecDepth 20000 in
theorem ggX3_days_X3_countStanding : GoodIn wsX3_days wsX3_countStanding := goodIn_r _ [113, 34, 11, 114, 12, 13, 14, 15, 16, 17, 18, 115, 116, 117, 118, 119, 120, 121, 122, 123, 124, 125] (by decide +kernel) (by decide +kernel)
set_option maxRecDepth 20000 in
theorem gX3_days_X3_countStanding : GoodIn wsX3_days (wsV RX3 125 RX3 yX3_countStanding wsX3_countStanding) := goodIn_app (goodIn_of _ (by decide +kernel)) ggX3_days_X3_countStanding
theorem dX3_days_0 : decode cX3_days 0 = .ok (.iload_n 1, 1) := by decide +kernel
theorem dX3_days_1 : decode cX3_days 1 = .ok (.iconst 1, 1) := by decide +kernel
theorem dX3_days_2 : decode cX3_days 2 = .ok (.bipush 60, 2) := by decide +kernel
theorem dX3_days_4 : decode cX3_days 4 = .ok (.invokestatic 52, 3) := by decide +kernel
theorem dX3_days_7 : decode cX3_days 7 = .ok (.ifCond .eq 6, 3) := by decide +kernel
theorem dX3_days_10 : decode cX3_days 10 = .ok (.bipush (-2), 2) := by decide +kernel
theorem dX3_days_12 : decode cX3_days 12 = .ok (.ireturn, 1) := by decide +kernel
theorem dX3_days_13 : decode cX3_days 13 = .ok (.aload_n 0, 1) := by decide +kernel
theorem dX3_days_14 : decode cX3_days 14 = .ok (.getfield 48, 3) := by decide +kernel
theorem dX3_days_17 : decode cX3_days 17 = .ok (.iload_n 1, 1) := by decide +kernel
theorem dX3_days_18 : decode cX3_days 18 = .ok (.iadd, 1) := by decide +kernel
theorem dX3_days_19 : decode cX3_days 19 = .ok (.sipush 5000, 3) := by decide +kernel
theorem dX3_days_22 : decode cX3_days 22 = .ok (.if_icmp .le 6, 3) := by decide +kernel
theorem dX3_days_25 : decode cX3_days 25 = .ok (.bipush (-4), 2) := by decide +kernel
theorem dX3_days_27 : decode cX3_days 27 = .ok (.ireturn, 1) := by decide +kernel
theorem dX3_days_28 : decode cX3_days 28 = .ok (.iconst 0, 1) := by decide +kernel
theorem dX3_days_29 : decode cX3_days 29 = .ok (.istore_n 2, 1) := by decide +kernel
theorem dX3_days_30 : decode cX3_days 30 = .ok (.iload_n 2, 1) := by decide +kernel
theorem dX3_days_31 : decode cX3_days 31 = .ok (.iload_n 1, 1) := by decide +kernel
theorem dX3_days_32 : decode cX3_days 32 = .ok (.if_icmp .ge 27, 3) := by decide +kernel
theorem dX3_days_35 : decode cX3_days 35 = .ok (.aload_n 0, 1) := by decide +kernel
