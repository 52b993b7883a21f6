set_option maxRecDepth 20000 in
theorem gX3_count_X3_stoodOfAll : GoodIn wsX3_count (wsV RX3 157 RX3 yX3_stoodOfAll wsX3_stoodOfAll) := goodIn_app (goodIn_of _ (by decide +kernel)) ggX3_count_X3_stoodOfAll
theorem dX3_count_0 : decode cX3_count 0 = .ok (.iload_n 1, 1) := by decide +kernel
theorem dX3_count_1 : decode cX3_count 1 = .ok (.tableswitch 97 0 6 #[43, 51, 59, 64, 72, 80, 92], 43) := by decide +kernel
theorem dX3_count_44 : decode cX3_count 44 = .ok (.aload_n 0, 1) := by decide +kernel
theorem dX3_count_45 : decode cX3_count 45 = .ok (.getfield 10, 3) := by decide +kernel
theorem dX3_count_48 : decode cX3_count 48 = .ok (.getfield 60, 3) := by decide +kernel
theorem dX3_count_51 : decode cX3_count 51 = .ok (.ireturn, 1) := by decide +kernel
theorem dX3_count_52 : decode cX3_count 52 = .ok (.aload_n 0, 1) := by decide +kernel
theorem dX3_count_53 : decode cX3_count 53 = .ok (.getfield 19, 3) := by decide +kernel
theorem dX3_count_56 : decode cX3_count 56 = .ok (.getfield 76, 3) := by decide +kernel
theorem dX3_count_59 : decode cX3_count 59 = .ok (.ireturn, 1) := by decide +kernel
theorem dX3_count_60 : decode cX3_count 60 = .ok (.aload_n 0, 1) := by decide +kernel
theorem dX3_count_61 : decode cX3_count 61 = .ok (.getfield 48, 3) := by decide +kernel
theorem dX3_count_64 : decode cX3_count 64 = .ok (.ireturn, 1) := by decide +kernel
theorem dX3_count_65 : decode cX3_count 65 = .ok (.aload_n 0, 1) := by decide +kernel
theorem dX3_count_66 : decode cX3_count 66 = .ok (.getfield 41, 3) := by decide +kernel
theorem dX3_count_69 : decode cX3_count 69 = .ok (.getfield 98, 3) := by decide +kernel
theorem dX3_count_72 : decode cX3_count 72 = .ok (.ireturn, 1) := by decide +kernel
theorem dX3_count_73 : decode cX3_count 73 = .ok (.aload_n 0, 1) := by decide +kernel
theorem dX3_count_74 : decode cX3_count 74 = .ok (.getfield 45, 3) := by decide +kernel
theorem dX3_count_77 : decode cX3_count 77 = .ok (.getfield 98, 3) := by decide +kernel
theorem dX3_count_80 : decode cX3_count 80 = .ok (.ireturn, 1) := by decide +kernel
theorem dX3_count_81 : decode cX3_count 81 = .ok (.aload_n 0, 1) := by decide +kernel
theorem dX3_count_82 : decode cX3_count 82 = .ok (.getfield 41, 3) := by decide +kernel
theorem dX3_count_85 : decode cX3_count 85 = .ok (.iconst (-1), 1) := by decide +kernel
theorem dX3_count_86 : decode cX3_count 86 = .ok (.iconst (-1), 1) := by decide +kernel
theorem dX3_count_87 : decode cX3_count 87 = .ok (.iconst 0, 1) := by decide +kernel
theorem dX3_count_88 : decode cX3_count 88 = .ok (.iconst (-1), 1) := by decide +kernel
theorem dX3_count_89 : decode cX3_count 89 = .ok (.invokevirtual 131, 3) := by decide +kernel
theorem dX3_count_92 : decode cX3_count 92 = .ok (.ireturn, 1) := by decide +kernel
theorem dX3_count_93 : decode cX3_count 93 = .ok (.aload_n 0, 1) := by decide +kernel
theorem dX3_count_94 : decode cX3_count 94 = .ok (.invokevirtual 157, 3) := by decide +kernel
theorem dX3_count_97 : decode cX3_count 97 = .ok (.ireturn, 1) := by decide +kernel
theorem dX3_count_98 : decode cX3_count 98 = .ok (.iconst (-1), 1) := by decide +kernel
theorem dX3_count_99 : decode cX3_count 99 = .ok (.ireturn, 1) := by decide +kernel
theorem dX3_isOutside_0 : decode cX3_isOutside 0 = .ok (.iload_n 0, 1) := by decide +kernel
theorem dX3_isOutside_1 : decode cX3_isOutside 1 = .ok (.iload_n 1, 1) := by decide +kernel
theorem dX3_isOutside_2 : decode cX3_isOutside 2 = .ok (.if_icmp .lt 8, 3) := by decide +kernel
theorem dX3_isOutside_5 : decode cX3_isOutside 5 = .ok (.iload_n 0, 1) := by decide +kernel
theorem dX3_isOutside_6 : decode cX3_isOutside 6 = .ok (.iload_n 2, 1) := by decide +kernel
theorem dX3_isOutside_7 : decode cX3_isOutside 7 = .ok (.if_icmp .le 7, 3) := by decide +kernel
theorem dX3_isOutside_10 : decode cX3_isOutside 10 = .ok (.iconst 1, 1) := by decide +kernel
theorem dX3_isOutside_11 : decode cX3_isOutside 11 = .ok (.goto 4, 3) := by decide +kernel
theorem dX3_isOutside_14 : decode cX3_isOutside 14 = .ok (.iconst 0, 1) := by decide +kernel
theorem dX3_isOutside_15 : decode cX3_isOutside 15 = .ok (.ireturn, 1) := by decide +kernel
set_option maxRecDepth 20000 in
theorem ggX3_isNoPlace_X2_has : GoodIn wsX3_isNoPlace wsX2_has := goodIn_r _ [7, 8, 24, 25, 26, 27] (by decide +kernel) (by decide +kernel)
set_option maxRecDepth 20000 in
theorem gX3_isNoPlace_X2_has : GoodIn wsX3_isNoPlace (wsV RX3 75 RX2 yX2_has wsX2_has) := goodIn_app (goodIn_of _ (by decide +kernel)) ggX3_isNoPlace_X2_has
set_option maxRecDepth 20000 in
theorem ggX3_isNoPlace_X0_has : GoodIn wsX3_isNoPlace wsX0_has := goodIn_r _ [13, 14, 28, 29, 30, 31, 32, 33, 34, 35, 36] (by decide +kernel) (by decide +kernel)
set_option maxRecDepth 20000 in
theorem gX3_isNoPlace_X0_has : GoodIn wsX3_isNoPlace (wsV RX3 56 RX0 yX0_has wsX0_has) := goodIn_app (goodIn_of _ (by decide +kernel)) ggX3_isNoPlace_X0_has
theorem dX3_isNoPlace_0 : decode cX3_isNoPlace 0 = .ok (.aload_n 0, 1) := by decide +kernel
theorem dX3_isNoPlace_1 : decode cX3_isNoPlace 1 = .ok (.getfield 19, 3) := by decide +kernel
theorem dX3_isNoPlace_4 : decode cX3_isNoPlace 4 = .ok (.iload_n 1, 1) := by decide +kernel
theorem dX3_isNoPlace_5 : decode cX3_isNoPlace 5 = .ok (.invokevirtual 75, 3) := by decide +kernel
theorem dX3_isNoPlace_8 : decode cX3_isNoPlace 8 = .ok (.ifCond .eq 14, 3) := by decide +kernel
theorem dX3_isNoPlace_11 : decode cX3_isNoPlace 11 = .ok (.aload_n 0, 1) := by decide +kernel
theorem dX3_isNoPlace_12 : decode cX3_isNoPlace 12 = .ok (.getfield 10, 3) := by decide +kernel
theorem dX3_isNoPlace_15 : decode cX3_isNoPlace 15 = .ok (.iload_n 2, 1) := by decide +kernel
theorem dX3_isNoPlace_16 : decode cX3_isNoPlace 16 = .ok (.invokevirtual 56, 3) := by decide +kernel
theorem dX3_isNoPlace_19 : decode cX3_isNoPlace 19 = .ok (.ifCond .ne 7, 3) := by decide +kernel
theorem dX3_isNoPlace_22 : decode cX3_isNoPlace 22 = .ok (.iconst 1, 1) := by decide +kernel
theorem dX3_isNoPlace_23 : decode cX3_isNoPlace 23 = .ok (.goto 4, 3) := by decide +kernel
theorem dX3_isNoPlace_26 : decode cX3_isNoPlace 26 = .ok (.iconst 0, 1) := by decide +kernel
theorem dX3_isNoPlace_27 : decode cX3_isNoPlace 27 = .ok (.ireturn, 1) := by decide +kernel
set_option maxRecDepth 20000 in
theorem ggX3_mendsThatWait_X1_tally : GoodIn wsX3_mendsThatWait wsX1_tally := goodIn_r _ [6, 7, 8, 9, 10, 5, 11, 12, 22, 23] (by decide +kernel) (by decide +kernel)
set_option maxRecDepth 20000 in
theorem gX3_mendsThatWait_X1_tally : GoodIn wsX3_mendsThatWait (wsV RX3 131 RX1 yX1_tally wsX1_tally) := goodIn_app (goodIn_of _ (by decide +kernel)) ggX3_mendsThatWait_X1_tally
theorem dX3_mendsThatWait_0 : decode cX3_mendsThatWait 0 = .ok (.aload_n 0, 1) := by decide +kernel
theorem dX3_mendsThatWait_1 : decode cX3_mendsThatWait 1 = .ok (.getfield 41, 3) := by decide +kernel
theorem dX3_mendsThatWait_4 : decode cX3_mendsThatWait 4 = .ok (.iload_n 1, 1) := by decide +kernel
theorem dX3_mendsThatWait_5 : decode cX3_mendsThatWait 5 = .ok (.iconst (-1), 1) := by decide +kernel
theorem dX3_mendsThatWait_6 : decode cX3_mendsThatWait 6 = .ok (.iconst 2, 1) := by decide +kernel
theorem dX3_mendsThatWait_7 : decode cX3_mendsThatWait 7 = .ok (.iload_n 2, 1) := by decide +kernel
theorem dX3_mendsThatWait_8 : decode cX3_mendsThatWait 8 = .ok (.invokevirtual 131, 3) := by decide +kernel
theorem dX3_mendsThatWait_11 : decode cX3_mendsThatWait 11 = .ok (.ireturn, 1) := by decide +kernel
theorem dX3_takesGood_0 : decode cX3_takesGood 0 = .ok (.aload_n 0, 1) := by decide +kernel
theorem dX3_takesGood_1 : decode cX3_takesGood 1 = .ok (.getfield 25, 3) := by decide +kernel
theorem dX3_takesGood_4 : decode cX3_takesGood 4 = .ok (.iload_n 1, 1) := by decide +kernel
theorem dX3_takesGood_5 : decode cX3_takesGood 5 = .ok (.aaload, 1) := by decide +kernel
theorem dX3_takesGood_6 : decode cX3_takesGood 6 = .ok (.iload_n 2, 1) := by decide +kernel
theorem dX3_takesGood_7 : decode cX3_takesGood 7 = .ok (.iaload, 1) := by decide +kernel
theorem dX3_takesGood_8 : decode cX3_takesGood 8 = .ok (.ifCond .ne 5, 3) := by decide +kernel
theorem dX3_takesGood_11 : decode cX3_takesGood 11 = .ok (.iconst 0, 1) := by decide +kernel
theorem dX3_takesGood_12 : decode cX3_takesGood 12 = .ok (.ireturn, 1) := by decide +kernel
theorem dX3_takesGood_13 : decode cX3_takesGood 13 = .ok (.aload_n 0, 1) := by decide +kernel
theorem dX3_takesGood_14 : decode cX3_takesGood 14 = .ok (.getfield 25, 3) := by decide +kernel
theorem dX3_takesGood_17 : decode cX3_takesGood 17 = .ok (.iload_n 1, 1) := by decide +kernel
theorem dX3_takesGood_18 : decode cX3_takesGood 18 = .ok (.aaload, 1) := by decide +kernel
theorem dX3_takesGood_19 : decode cX3_takesGood 19 = .ok (.iload_n 2, 1) := by decide +kernel
theorem dX3_takesGood_20 : decode cX3_takesGood 20 = .ok (.dup2, 1) := by decide +kernel
theorem dX3_takesGood_21 : decode cX3_takesGood 21 = .ok (.iaload, 1) := by decide +kernel
theorem dX3_takesGood_22 : decode cX3_takesGood 22 = .ok (.iconst 1, 1) := by decide +kernel
theorem dX3_takesGood_23 : decode cX3_takesGood 23 = .ok (.isub, 1) := by decide +kernel
theorem dX3_takesGood_24 : decode cX3_takesGood 24 = .ok (.iastore, 1) := by decide +kernel
theorem dX3_takesGood_25 : decode cX3_takesGood 25 = .ok (.iconst 1, 1) := by decide +kernel
theorem dX3_takesGood_26 : decode cX3_takesGood 26 = .ok (.ireturn, 1) := by decide +kernel
set_option maxRecDepth 20000 in
theorem ggX3_servesMachine_X3_takesGood : GoodIn wsX3_servesMachine wsX3_takesGood := goodIn_r _ [9, 10, 37, 38, 39, 40, 41, 42, 43, 44, 45] (by decide +kernel) (by decide +kernel)
set_option maxRecDepth 20000 in
theorem gX3_servesMachine_X3_takesGood : GoodIn wsX3_servesMachine (wsV RX3 161 RX3 yX3_takesGood wsX3_takesGood) := goodIn_app (goodIn_of _ (by decide +kernel)) ggX3_servesMachine_X3_takesGood
set_option maxRecDepth 20000 in
theorem ggX3_servesMachine_X1_add : GoodIn wsX3_servesMachine wsX1_add := goodIn_r _ [15, 16, 17, 18, 19, 20, 21, 22, 23, 24, 25, 26, 27, 28, 29, 30, 31, 32, 33, 34, 35, 36, 55, 56] (by decide +kernel) (by decide +kernel)
set_option maxRecDepth 20000 in
theorem gX3_servesMachine_X1_add : GoodIn wsX3_servesMachine (wsV RX3 112 RX1 yX1_add wsX1_add) := goodIn_app (goodIn_of _ (by decide +kernel)) ggX3_servesMachine_X1_add
theorem dX3_servesMachine_0 : decode cX3_servesMachine 0 = .ok (.aload_n 0, 1) := by decide +kernel
theorem dX3_servesMachine_1 : decode cX3_servesMachine 1 = .ok (.iload_n 1, 1) := by decide +kernel
theorem dX3_servesMachine_2 : decode cX3_servesMachine 2 = .ok (.iload_n 2, 1) := by decide +kernel
theorem dX3_servesMachine_3 : decode cX3_servesMachine 3 = .ok (.invokevirtual 161, 3) := by decide +kernel
theorem dX3_servesMachine_6 : decode cX3_servesMachine 6 = .ok (.ifCond .eq 18, 3) := by decide +kernel
theorem dX3_servesMachine_9 : decode cX3_servesMachine 9 = .ok (.aload_n 0, 1) := by decide +kernel
theorem dX3_servesMachine_10 : decode cX3_servesMachine 10 = .ok (.getfield 10, 3) := by decide +kernel
theorem dX3_servesMachine_13 : decode cX3_servesMachine 13 = .ok (.getfield 145, 3) := by decide +kernel
theorem dX3_servesMachine_16 : decode cX3_servesMachine 16 = .ok (.iload_n 2, 1) := by decide +kernel
theorem dX3_servesMachine_17 : decode cX3_servesMachine 17 = .ok (.dup2, 1) := by decide +kernel
theorem dX3_servesMachine_18 : decode cX3_servesMachine 18 = .ok (.iaload, 1) := by decide +kernel
theorem dX3_servesMachine_19 : decode cX3_servesMachine 19 = .ok (.iconst 1, 1) := by decide +kernel
theorem dX3_servesMachine_20 : decode cX3_servesMachine 20 = .ok (.iadd, 1) := by decide +kernel
theorem dX3_servesMachine_21 : decode cX3_servesMachine 21 = .ok (.iastore, 1) := by decide +kernel
theorem dX3_servesMachine_22 : decode cX3_servesMachine 22 = .ok (.iconst 1, 1) := by decide +kernel
theorem dX3_servesMachine_23 : decode cX3_servesMachine 23 = .ok (.ireturn, 1) := by decide +kernel
theorem dX3_servesMachine_24 : decode cX3_servesMachine 24 = .ok (.aload_n 0, 1) := by decide +kernel
theorem dX3_servesMachine_25 : decode cX3_servesMachine 25 = .ok (.getfield 41, 3) := by decide +kernel
theorem dX3_servesMachine_28 : decode cX3_servesMachine 28 = .ok (.iload_n 1, 1) := by decide +kernel
theorem dX3_servesMachine_29 : decode cX3_servesMachine 29 = .ok (.iload_n 2, 1) := by decide +kernel
theorem dX3_servesMachine_30 : decode cX3_servesMachine 30 = .ok (.iconst 0, 1) := by decide +kernel
theorem dX3_servesMachine_31 : decode cX3_servesMachine 31 = .ok (.aload_n 0, 1) := by decide +kernel
theorem dX3_servesMachine_32 : decode cX3_servesMachine 32 = .ok (.getfield 48, 3) := by decide +kernel
theorem dX3_servesMachine_35 : decode cX3_servesMachine 35 = .ok (.iconst (-1), 1) := by decide +kernel
theorem dX3_servesMachine_36 : decode cX3_servesMachine 36 = .ok (.invokevirtual 112, 3) := by decide +kernel
theorem dX3_servesMachine_39 : decode cX3_servesMachine 39 = .ok (.iconst 0, 1) := by decide +kernel
theorem dX3_servesMachine_40 : decode cX3_servesMachine 40 = .ok (.ireturn, 1) := by decide +kernel
set_option maxRecDepth 20000 in
theorem ggX3_lands_X1_find : GoodIn wsX3_lands wsX1_find := goodIn_r _ [9, 10, 11, 12, 13, 8, 14, 15, 111, 112] (by decide +kernel) (by decide +kernel)
set_option maxRecDepth 20000 in
theorem gX3_lands_X1_find : GoodIn wsX3_lands (wsV RX3 135 RX1 yX1_find wsX1_find) := goodIn_app (goodIn_of _ (by decide +kernel)) ggX3_lands_X1_find
set_option maxRecDepth 20000 in
theorem ggX3_lands_X1_read : GoodIn wsX3_lands wsX1_read := goodIn_r _ [19, 10, 15, 111, 112] (by decide +kernel) (by decide +kernel)
set_option maxRecDepth 20000 in
theorem gX3_lands_X1_read : GoodIn wsX3_lands (wsV RX3 138 RX1 yX1_read wsX1_read) := goodIn_app (goodIn_of _ (by decide +kernel)) ggX3_lands_X1_read
set_option maxRecDepth 20000 in
theorem ggX3_lands_X1_drop : GoodIn wsX3_lands wsX1_drop := goodIn_r _ [23, 10, 15, 24, 25, 26, 27, 111, 112] (by decide +kernel) (by decide +kernel)
set_option maxRecDepth 20000 in
theorem gX3_lands_X1_drop : GoodIn wsX3_lands (wsV RX3 164 RX1 yX1_drop wsX1_drop) := goodIn_app (goodIn_of _ (by decide +kernel)) ggX3_lands_X1_drop
set_option maxRecDepth 20000 in
theorem ggX3_lands_X3_goesDown : GoodIn wsX3_lands wsX3_goesDown := goodIn_r _ [32, 33, 34, 35, 36, 37, 38, 39, 8, 40, 10, 15, 41, 42, 43, 44, 45, 46, 47, 48, 49, 50, 51, 52, 53, 54, 55, 56, 25, 26, 27, 93, 94, 95, 96, 97, 98, 99, 100, 101, 113, 114, 115, 116, 111, 112] (by decide +kernel) (by decide +kernel)
set_option maxRecDepth 20000 in
theorem gX3_lands_X3_goesDown : GoodIn wsX3_lands (wsV RX3 168 RX3 yX3_goesDown wsX3_goesDown) := goodIn_app (goodIn_of _ (by decide +kernel)) ggX3_lands_X3_goesDown
set_option maxRecDepth 20000 in
theorem ggX3_lands_X3_mendGetsCore : GoodIn wsX3_lands wsX3_mendGetsCore := goodIn_r _ [60, 3, 61, 62, 35, 63, 64, 65, 66, 67, 68, 69, 70, 71, 72, 31, 73, 33, 34, 74, 37, 38, 39, 8, 40, 10, 15, 41, 42, 43, 44, 45, 46, 47, 48, 49, 50, 51, 52, 53, 54, 55, 56, 25, 26, 27, 75, 76, 77, 78, 79, 80, 81, 82, 83, 84, 85, 86, 87, 88, 1, 89, 90, 91, 92, 2, 28, 29, 30, 32, 36, 93, 94, 95, 96, 97, 98, 99, 100, 101, 102, 103, 104, 105, 106, 107, 108, 109, 110, 113, 114, 115, 116, 111, 112] (by decide +kernel) (by decide +kernel)
set_option maxRecDepth 20000 in
theorem gX3_lands_X3_mendGetsCore : GoodIn wsX3_lands (wsV RX3 171 RX3 yX3_mendGetsCore wsX3_mendGetsCore) := goodIn_app (goodIn_of _ (by decide +kernel)) ggX3_lands_X3_mendGetsCore
theorem dX3_lands_0 : decode cX3_lands 0 = .ok (.aload_n 0, 1) := by decide +kernel
theorem dX3_lands_1 : decode cX3_lands 1 = .ok (.getfield 41, 3) := by decide +kernel
theorem dX3_lands_4 : decode cX3_lands 4 = .ok (.iload_n 1, 1) := by decide +kernel
theorem dX3_lands_5 : decode cX3_lands 5 = .ok (.iload_n 2, 1) := by decide +kernel
theorem dX3_lands_6 : decode cX3_lands 6 = .ok (.iconst (-1), 1) := by decide +kernel
theorem dX3_lands_7 : decode cX3_lands 7 = .ok (.iconst 0, 1) := by decide +kernel
theorem dX3_lands_8 : decode cX3_lands 8 = .ok (.invokevirtual 135, 3) := by decide +kernel
theorem dX3_lands_11 : decode cX3_lands 11 = .ok (.istore_n 3, 1) := by decide +kernel
theorem dX3_lands_12 : decode cX3_lands 12 = .ok (.iload_n 3, 1) := by decide +kernel
theorem dX3_lands_13 : decode cX3_lands 13 = .ok (.iconst (-1), 1) := by decide +kernel
theorem dX3_lands_14 : decode cX3_lands 14 = .ok (.if_icmp .ne 16, 3) := by decide +kernel
theorem dX3_lands_17 : decode cX3_lands 17 = .ok (.aload_n 0, 1) := by decide +kernel
theorem dX3_lands_18 : decode cX3_lands 18 = .ok (.getfield 25, 3) := by decide +kernel
theorem dX3_lands_21 : decode cX3_lands 21 = .ok (.iload_n 1, 1) := by decide +kernel
theorem dX3_lands_22 : decode cX3_lands 22 = .ok (.aaload, 1) := by decide +kernel
theorem dX3_lands_23 : decode cX3_lands 23 = .ok (.iload_n 2, 1) := by decide +kernel
theorem dX3_lands_24 : decode cX3_lands 24 = .ok (.dup2, 1) := by decide +kernel
theorem dX3_lands_25 : decode cX3_lands 25 = .ok (.iaload, 1) := by decide +kernel
theorem dX3_lands_26 : decode cX3_lands 26 = .ok (.iconst 1, 1) := by decide +kernel
theorem dX3_lands_27 : decode cX3_lands 27 = .ok (.iadd, 1) := by decide +kernel
theorem dX3_lands_28 : decode cX3_lands 28 = .ok (.iastore, 1) := by decide +kernel
theorem dX3_lands_29 : decode cX3_lands 29 = .ok (.return_, 1) := by decide +kernel
theorem dX3_lands_30 : decode cX3_lands 30 = .ok (.aload_n 0, 1) := by decide +kernel
theorem dX3_lands_31 : decode cX3_lands 31 = .ok (.getfield 41, 3) := by decide +kernel
theorem dX3_lands_34 : decode cX3_lands 34 = .ok (.iload_n 3, 1) := by decide +kernel
theorem dX3_lands_35 : decode cX3_lands 35 = .ok (.iconst 2, 1) := by decide +kernel
theorem dX3_lands_36 : decode cX3_lands 36 = .ok (.invokevirtual 138, 3) := by decide +kernel
theorem dX3_lands_39 : decode cX3_lands 39 = .ok (.istore 4, 2) := by decide +kernel
theorem dX3_lands_41 : decode cX3_lands 41 = .ok (.aload_n 0, 1) := by decide +kernel
theorem dX3_lands_42 : decode cX3_lands 42 = .ok (.getfield 41, 3) := by decide +kernel
theorem dX3_lands_45 : decode cX3_lands 45 = .ok (.iload_n 3, 1) := by decide +kernel
theorem dX3_lands_46 : decode cX3_lands 46 = .ok (.iconst 4, 1) := by decide +kernel
theorem dX3_lands_47 : decode cX3_lands 47 = .ok (.invokevirtual 138, 3) := by decide +kernel
theorem dX3_lands_50 : decode cX3_lands 50 = .ok (.istore 5, 2) := by decide +kernel
theorem dX3_lands_52 : decode cX3_lands 52 = .ok (.aload_n 0, 1) := by decide +kernel
theorem dX3_lands_53 : decode cX3_lands 53 = .ok (.getfield 41, 3) := by decide +kernel
theorem dX3_lands_56 : decode cX3_lands 56 = .ok (.iload_n 3, 1) := by decide +kernel
theorem dX3_lands_57 : decode cX3_lands 57 = .ok (.invokevirtual 164, 3) := by decide +kernel
theorem dX3_lands_60 : decode cX3_lands 60 = .ok (.iload 4, 2) := by decide +kernel
theorem dX3_lands_62 : decode cX3_lands 62 = .ok (.ifCond .ne 19, 3) := by decide +kernel
theorem dX3_lands_65 : decode cX3_lands 65 = .ok (.aload_n 0, 1) := by decide +kernel
theorem dX3_lands_66 : decode cX3_lands 66 = .ok (.getfield 10, 3) := by decide +kernel
theorem dX3_lands_69 : decode cX3_lands 69 = .ok (.getfield 145, 3) := by decide +kernel
theorem dX3_lands_72 : decode cX3_lands 72 = .ok (.iload_n 2, 1) := by decide +kernel
theorem dX3_lands_73 : decode cX3_lands 73 = .ok (.dup2, 1) := by decide +kernel
theorem dX3_lands_74 : decode cX3_lands 74 = .ok (.iaload, 1) := by decide +kernel
theorem dX3_lands_75 : decode cX3_lands 75 = .ok (.iconst 1, 1) := by decide +kernel
theorem dX3_lands_76 : decode cX3_lands 76 = .ok (.iadd, 1) := by decide +kernel
theorem dX3_lands_77 : decode cX3_lands 77 = .ok (.iastore, 1) := by decide +kernel
theorem dX3_lands_78 : decode cX3_lands 78 = .ok (.goto 27, 3) := by decide +kernel
theorem dX3_lands_81 : decode cX3_lands 81 = .ok (.iload 4, 2) := by decide +kernel
theorem dX3_lands_83 : decode cX3_lands 83 = .ok (.iconst 1, 1) := by decide +kernel
theorem dX3_lands_84 : decode cX3_lands 84 = .ok (.if_icmp .ne 13, 3) := by decide +kernel
theorem dX3_lands_87 : decode cX3_lands 87 = .ok (.aload_n 0, 1) := by decide +kernel
theorem dX3_lands_88 : decode cX3_lands 88 = .ok (.iload 5, 2) := by decide +kernel
theorem dX3_lands_90 : decode cX3_lands 90 = .ok (.iload_n 2, 1) := by decide +kernel
theorem dX3_lands_91 : decode cX3_lands 91 = .ok (.invokevirtual 168, 3) := by decide +kernel
theorem dX3_lands_94 : decode cX3_lands 94 = .ok (.goto 11, 3) := by decide +kernel
theorem dX3_lands_97 : decode cX3_lands 97 = .ok (.aload_n 0, 1) := by decide +kernel
theorem dX3_lands_98 : decode cX3_lands 98 = .ok (.iload_n 1, 1) := by decide +kernel
theorem dX3_lands_99 : decode cX3_lands 99 = .ok (.iload_n 2, 1) := by decide +kernel
theorem dX3_lands_100 : decode cX3_lands 100 = .ok (.iload 5, 2) := by decide +kernel
theorem dX3_lands_102 : decode cX3_lands 102 = .ok (.invokevirtual 171, 3) := by decide +kernel
theorem dX3_lands_105 : decode cX3_lands 105 = .ok (.return_, 1) := by decide +kernel
set_option maxRecDepth 20000 in
theorem ggX3_goesDown_X1_add : GoodIn wsX3_goesDown wsX1_add := goodIn_r _ [9, 10, 11, 12, 13, 14, 15, 16, 17, 18, 19, 20, 21, 22, 23, 24, 25, 26, 27, 28, 29, 30, 44, 45] (by decide +kernel) (by decide +kernel)
set_option maxRecDepth 20000 in
theorem gX3_goesDown_X1_add : GoodIn wsX3_goesDown (wsV RX3 112 RX1 yX1_add wsX1_add) := goodIn_app (goodIn_of _ (by decide +kernel)) ggX3_goesDown_X1_add
theorem dX3_goesDown_0 : decode cX3_goesDown 0 = .ok (.aload_n 0, 1) := by decide +kernel
theorem dX3_goesDown_1 : decode cX3_goesDown 1 = .ok (.getfield 45, 3) := by decide +kernel
theorem dX3_goesDown_4 : decode cX3_goesDown 4 = .ok (.iload_n 1, 1) := by decide +kernel
theorem dX3_goesDown_5 : decode cX3_goesDown 5 = .ok (.iload_n 2, 1) := by decide +kernel
theorem dX3_goesDown_6 : decode cX3_goesDown 6 = .ok (.iconst 0, 1) := by decide +kernel
theorem dX3_goesDown_7 : decode cX3_goesDown 7 = .ok (.aload_n 0, 1) := by decide +kernel
theorem dX3_goesDown_8 : decode cX3_goesDown 8 = .ok (.getfield 48, 3) := by decide +kernel
theorem dX3_goesDown_11 : decode cX3_goesDown 11 = .ok (.aload_n 0, 1) := by decide +kernel
theorem dX3_goesDown_12 : decode cX3_goesDown 12 = .ok (.getfield 19, 3) := by decide +kernel
theorem dX3_goesDown_15 : decode cX3_goesDown 15 = .ok (.getfield 80, 3) := by decide +kernel
theorem dX3_goesDown_18 : decode cX3_goesDown 18 = .ok (.iload_n 1, 1) := by decide +kernel
theorem dX3_goesDown_19 : decode cX3_goesDown 19 = .ok (.iaload, 1) := by decide +kernel
theorem dX3_goesDown_20 : decode cX3_goesDown 20 = .ok (.iadd, 1) := by decide +kernel
theorem dX3_goesDown_21 : decode cX3_goesDown 21 = .ok (.iconst (-1), 1) := by decide +kernel
theorem dX3_goesDown_22 : decode cX3_goesDown 22 = .ok (.invokevirtual 112, 3) := by decide +kernel
theorem dX3_goesDown_25 : decode cX3_goesDown 25 = .ok (.return_, 1) := by decide +kernel
set_option maxRecDepth 20000 in
theorem ggX3_goesBack_X2_firstThatMends : GoodIn wsX3_goesBack wsX2_firstThatMends := goodIn_r _ [10, 11, 12, 94, 95, 96, 97] (by decide +kernel) (by decide +kernel)
set_option maxRecDepth 20000 in
theorem gX3_goesBack_X2_firstThatMends : GoodIn wsX3_goesBack (wsV RX3 119 RX2 yX2_firstThatMends wsX2_firstThatMends) := goodIn_app (goodIn_of _ (by decide +kernel)) ggX3_goesBack_X2_firstThatMends
set_option maxRecDepth 20000 in
theorem ggX3_goesBack_X3_setsOut : GoodIn wsX3_goesBack wsX3_setsOut := goodIn_r _ [17, 18, 5, 1, 19, 20, 21, 9, 22, 23, 12, 24, 25, 26, 27, 28, 29, 30, 31, 32, 33, 34, 35, 36, 37, 38, 39, 40, 41, 42, 43, 44, 45, 46, 47, 48, 49, 76, 77, 78, 79, 80, 81, 82, 83, 84, 94, 95, 96, 97, 98, 99] (by decide +kernel) (by decide +kernel)
set_option maxRecDepth 20000 in
theorem gX3_goesBack_X3_setsOut : GoodIn wsX3_goesBack (wsV RX3 174 RX3 yX3_setsOut wsX3_setsOut) := goodIn_app (goodIn_of _ (by decide +kernel)) ggX3_goesBack_X3_setsOut
set_option maxRecDepth 20000 in
theorem ggX3_goesBack_X3_mendBegins : GoodIn wsX3_goesBack wsX3_mendBegins := goodIn_r _ [53, 18, 5, 1, 54, 24, 25, 26, 27, 28, 29, 30, 31, 32, 33, 34, 35, 36, 37, 38, 39, 40, 41, 42, 43, 44, 45, 46, 47, 48, 49, 76, 77, 78, 79, 80, 81, 82, 83, 84, 94, 95, 96, 97, 98, 99] (by decide +kernel) (by decide +kernel)
set_option maxRecDepth 20000 in
theorem gX3_goesBack_X3_mendBegins : GoodIn wsX3_goesBack (wsV RX3 178 RX3 yX3_mendBegins wsX3_mendBegins) := goodIn_app (goodIn_of _ (by decide +kernel)) ggX3_goesBack_X3_mendBegins
set_option maxRecDepth 20000 in
theorem ggX3_goesBack_X3_takesGood : GoodIn wsX3_goesBack wsX3_takesGood := goodIn_r _ [58, 59, 76, 77, 78, 79, 80, 81, 82, 83, 84] (by decide +kernel) (by decide +kernel)
set_option maxRecDepth 20000 in
theorem gX3_goesBack_X3_takesGood : GoodIn wsX3_goesBack (wsV RX3 161 RX3 yX3_takesGood wsX3_takesGood) := goodIn_app (goodIn_of _ (by decide +kernel)) ggX3_goesBack_X3_takesGood
set_option maxRecDepth 20000 in
theorem ggX3_goesBack_X3_mendGetsCore : GoodIn wsX3_goesBack wsX3_mendGetsCore := goodIn_r _ [63, 2, 64, 65, 1, 6, 7, 8, 9, 10, 11, 12, 50, 51, 52, 16, 53, 18, 5, 54, 24, 25, 26, 27, 28, 29, 30, 31, 32, 33, 34, 35, 36, 37, 38, 39, 40, 41, 42, 43, 44, 45, 46, 47, 48, 49, 13, 14, 15, 17, 19, 20, 21, 22, 23, 66, 67, 68, 69, 70, 4, 55, 56, 57, 58, 59, 71, 72, 73, 74, 75, 76, 77, 78, 79, 80, 81, 82, 83, 84, 85, 86, 87, 88, 89, 90, 91, 92, 93, 94, 95, 96, 97, 98, 99] (by decide +kernel) (by decide +kernel)
set_option maxRecDepth 20000 in
theorem gX3_goesBack_X3_mendGetsCore : GoodIn wsX3_goesBack (wsV RX3 171 RX3 yX3_mendGetsCore wsX3_mendGetsCore) := goodIn_app (goodIn_of _ (by decide +kernel)) ggX3_goesBack_X3_mendGetsCore
set_option maxRecDepth 20000 in
theorem ggX3_goesBack_X1_add : GoodIn wsX3_goesBack wsX1_add := goodIn_r _ [28, 29, 30, 31, 32, 33, 34, 35, 36, 37, 38, 39, 40, 41, 42, 43, 44, 45, 46, 47, 48, 49, 98, 99] (by decide +kernel) (by decide +kernel)
set_option maxRecDepth 20000 in
theorem gX3_goesBack_X1_add : GoodIn wsX3_goesBack (wsV RX3 112 RX1 yX1_add wsX1_add) := goodIn_app (goodIn_of _ (by decide +kernel)) ggX3_goesBack_X1_add
theorem dX3_goesBack_0 : decode cX3_goesBack 0 = .ok (.aload_n 0, 1) := by decide +kernel
theorem dX3_goesBack_1 : decode cX3_goesBack 1 = .ok (.getfield 19, 3) := by decide +kernel
theorem dX3_goesBack_4 : decode cX3_goesBack 4 = .ok (.iload_n 1, 1) := by decide +kernel
theorem dX3_goesBack_5 : decode cX3_goesBack 5 = .ok (.iload_n 2, 1) := by decide +kernel
theorem dX3_goesBack_6 : decode cX3_goesBack 6 = .ok (.invokevirtual 119, 3) := by decide +kernel
theorem dX3_goesBack_9 : decode cX3_goesBack 9 = .ok (.istore 4, 2) := by decide +kernel
theorem dX3_goesBack_11 : decode cX3_goesBack 11 = .ok (.aload_n 0, 1) := by decide +kernel
theorem dX3_goesBack_12 : decode cX3_goesBack 12 = .ok (.getfield 10, 3) := by decide +kernel
theorem dX3_goesBack_15 : decode cX3_goesBack 15 = .ok (.getfield 69, 3) := by decide +kernel
theorem dX3_goesBack_18 : decode cX3_goesBack 18 = .ok (.iload_n 2, 1) := by decide +kernel
theorem dX3_goesBack_19 : decode cX3_goesBack 19 = .ok (.iaload, 1) := by decide +kernel
theorem dX3_goesBack_20 : decode cX3_goesBack 20 = .ok (.istore 5, 2) := by decide +kernel
theorem dX3_goesBack_22 : decode cX3_goesBack 22 = .ok (.iload 4, 2) := by decide +kernel
theorem dX3_goesBack_24 : decode cX3_goesBack 24 = .ok (.iload_n 1, 1) := by decide +kernel
theorem dX3_goesBack_25 : decode cX3_goesBack 25 = .ok (.if_icmp .eq 15, 3) := by decide +kernel
theorem dX3_goesBack_28 : decode cX3_goesBack 28 = .ok (.aload_n 0, 1) := by decide +kernel
theorem dX3_goesBack_29 : decode cX3_goesBack 29 = .ok (.iload_n 1, 1) := by decide +kernel
theorem dX3_goesBack_30 : decode cX3_goesBack 30 = .ok (.iload_n 2, 1) := by decide +kernel
theorem dX3_goesBack_31 : decode cX3_goesBack 31 = .ok (.iload 4, 2) := by decide +kernel
theorem dX3_goesBack_33 : decode cX3_goesBack 33 = .ok (.iload_n 3, 1) := by decide +kernel
theorem dX3_goesBack_34 : decode cX3_goesBack 34 = .ok (.invokevirtual 174, 3) := by decide +kernel
theorem dX3_goesBack_37 : decode cX3_goesBack 37 = .ok (.goto 60, 3) := by decide +kernel
theorem dX3_goesBack_40 : decode cX3_goesBack 40 = .ok (.iload_n 3, 1) := by decide +kernel
theorem dX3_goesBack_41 : decode cX3_goesBack 41 = .ok (.iconst 1, 1) := by decide +kernel
theorem dX3_goesBack_42 : decode cX3_goesBack 42 = .ok (.if_icmp .ne 9, 3) := by decide +kernel
theorem dX3_goesBack_45 : decode cX3_goesBack 45 = .ok (.iload 5, 2) := by decide +kernel
theorem dX3_goesBack_47 : decode cX3_goesBack 47 = .ok (.iconst (-1), 1) := by decide +kernel
theorem dX3_goesBack_48 : decode cX3_goesBack 48 = .ok (.if_icmp .ne 12, 3) := by decide +kernel
theorem dX3_goesBack_51 : decode cX3_goesBack 51 = .ok (.aload_n 0, 1) := by decide +kernel
theorem dX3_goesBack_52 : decode cX3_goesBack 52 = .ok (.iload_n 1, 1) := by decide +kernel
theorem dX3_goesBack_53 : decode cX3_goesBack 53 = .ok (.iload_n 2, 1) := by decide +kernel
theorem dX3_goesBack_54 : decode cX3_goesBack 54 = .ok (.invokevirtual 178, 3) := by decide +kernel
theorem dX3_goesBack_57 : decode cX3_goesBack 57 = .ok (.goto 40, 3) := by decide +kernel
theorem dX3_goesBack_60 : decode cX3_goesBack 60 = .ok (.aload_n 0, 1) := by decide +kernel
theorem dX3_goesBack_61 : decode cX3_goesBack 61 = .ok (.iload_n 1, 1) := by decide +kernel
theorem dX3_goesBack_62 : decode cX3_goesBack 62 = .ok (.iload 5, 2) := by decide +kernel
theorem dX3_goesBack_64 : decode cX3_goesBack 64 = .ok (.invokevirtual 161, 3) := by decide +kernel
theorem dX3_goesBack_67 : decode cX3_goesBack 67 = .ok (.ifCond .eq 14, 3) := by decide +kernel
theorem dX3_goesBack_70 : decode cX3_goesBack 70 = .ok (.aload_n 0, 1) := by decide +kernel
theorem dX3_goesBack_71 : decode cX3_goesBack 71 = .ok (.iload_n 1, 1) := by decide +kernel
theorem dX3_goesBack_72 : decode cX3_goesBack 72 = .ok (.iload 5, 2) := by decide +kernel
theorem dX3_goesBack_74 : decode cX3_goesBack 74 = .ok (.iload_n 2, 1) := by decide +kernel
theorem dX3_goesBack_75 : decode cX3_goesBack 75 = .ok (.invokevirtual 171, 3) := by decide +kernel
theorem dX3_goesBack_78 : decode cX3_goesBack 78 = .ok (.goto 19, 3) := by decide +kernel
theorem dX3_goesBack_81 : decode cX3_goesBack 81 = .ok (.aload_n 0, 1) := by decide +kernel
theorem dX3_goesBack_82 : decode cX3_goesBack 82 = .ok (.getfield 41, 3) := by decide +kernel
theorem dX3_goesBack_85 : decode cX3_goesBack 85 = .ok (.iload_n 1, 1) := by decide +kernel
theorem dX3_goesBack_86 : decode cX3_goesBack 86 = .ok (.iload 5, 2) := by decide +kernel
theorem dX3_goesBack_88 : decode cX3_goesBack 88 = .ok (.iconst 2, 1) := by decide +kernel
theorem dX3_goesBack_89 : decode cX3_goesBack 89 = .ok (.aload_n 0, 1) := by decide +kernel
theorem dX3_goesBack_90 : decode cX3_goesBack 90 = .ok (.getfield 48, 3) := by decide +kernel
theorem dX3_goesBack_93 : decode cX3_goesBack 93 = .ok (.iload_n 2, 1) := by decide +kernel
theorem dX3_goesBack_94 : decode cX3_goesBack 94 = .ok (.invokevirtual 112, 3) := by decide +kernel
theorem dX3_goesBack_97 : decode cX3_goesBack 97 = .ok (.return_, 1) := by decide +kernel
set_option maxRecDepth 20000 in
theorem ggX3_setsOut_X2_waysUp : GoodIn wsX3_setsOut wsX2_waysUp := goodIn_r _ [8, 9, 10, 46, 47, 48, 49] (by decide +kernel) (by decide +kernel)
set_option maxRecDepth 20000 in
theorem gX3_setsOut_X2_waysUp : GoodIn wsX3_setsOut (wsV RX3 181 RX2 yX2_waysUp wsX2_waysUp) := goodIn_app (goodIn_of _ (by decide +kernel)) ggX3_setsOut_X2_waysUp
set_option maxRecDepth 20000 in
theorem ggX3_setsOut_X1_add : GoodIn wsX3_setsOut wsX1_add := goodIn_r _ [15, 16, 17, 18, 19, 20, 21, 22, 23, 24, 25, 26, 27, 28, 29, 30, 31, 32, 33, 34, 35, 36, 50, 51] (by decide +kernel) (by decide +kernel)
set_option maxRecDepth 20000 in
theorem gX3_setsOut_X1_add : GoodIn wsX3_setsOut (wsV RX3 112 RX1 yX1_add wsX1_add) := goodIn_app (goodIn_of _ (by decide +kernel)) ggX3_setsOut_X1_add
theorem dX3_setsOut_0 : decode cX3_setsOut 0 = .ok (.aload_n 0, 1) := by decide +kernel
theorem dX3_setsOut_1 : decode cX3_setsOut 1 = .ok (.getfield 45, 3) := by decide +kernel
theorem dX3_setsOut_4 : decode cX3_setsOut 4 = .ok (.iload_n 3, 1) := by decide +kernel
theorem dX3_setsOut_5 : decode cX3_setsOut 5 = .ok (.iload_n 2, 1) := by decide +kernel
theorem dX3_setsOut_6 : decode cX3_setsOut 6 = .ok (.iconst 1, 1) := by decide +kernel
theorem dX3_setsOut_7 : decode cX3_setsOut 7 = .ok (.aload_n 0, 1) := by decide +kernel
theorem dX3_setsOut_8 : decode cX3_setsOut 8 = .ok (.getfield 48, 3) := by decide +kernel
theorem dX3_setsOut_11 : decode cX3_setsOut 11 = .ok (.aload_n 0, 1) := by decide +kernel
theorem dX3_setsOut_12 : decode cX3_setsOut 12 = .ok (.getfield 19, 3) := by decide +kernel
theorem dX3_setsOut_15 : decode cX3_setsOut 15 = .ok (.iload_n 1, 1) := by decide +kernel
theorem dX3_setsOut_16 : decode cX3_setsOut 16 = .ok (.iload_n 3, 1) := by decide +kernel
theorem dX3_setsOut_17 : decode cX3_setsOut 17 = .ok (.invokevirtual 181, 3) := by decide +kernel
theorem dX3_setsOut_20 : decode cX3_setsOut 20 = .ok (.iadd, 1) := by decide +kernel
theorem dX3_setsOut_21 : decode cX3_setsOut 21 = .ok (.iload 4, 2) := by decide +kernel
theorem dX3_setsOut_23 : decode cX3_setsOut 23 = .ok (.invokevirtual 112, 3) := by decide +kernel
theorem dX3_setsOut_26 : decode cX3_setsOut 26 = .ok (.return_, 1) := by decide +kernel
set_option maxRecDepth 20000 in
theorem ggX3_mendBegins_X1_add : GoodIn wsX3_mendBegins wsX1_add := goodIn_r _ [9, 10, 11, 12, 13, 14, 15, 16, 17, 18, 19, 20, 21, 22, 23, 24, 25, 26, 27, 28, 29, 30, 44, 45] (by decide +kernel) (by decide +kernel)
set_option maxRecDepth 20000 in
theorem gX3_mendBegins_X1_add : GoodIn wsX3_mendBegins (wsV RX3 112 RX1 yX1_add wsX1_add) := goodIn_app (goodIn_of _ (by decide +kernel)) ggX3_mendBegins_X1_add
theorem dX3_mendBegins_0 : decode cX3_mendBegins 0 = .ok (.aload_n 0, 1) := by decide +kernel
theorem dX3_mendBegins_1 : decode cX3_mendBegins 1 = .ok (.getfield 45, 3) := by decide +kernel
theorem dX3_mendBegins_4 : decode cX3_mendBegins 4 = .ok (.iload_n 1, 1) := by decide +kernel
theorem dX3_mendBegins_5 : decode cX3_mendBegins 5 = .ok (.iload_n 2, 1) := by decide +kernel
theorem dX3_mendBegins_6 : decode cX3_mendBegins 6 = .ok (.iconst 2, 1) := by decide +kernel
theorem dX3_mendBegins_7 : decode cX3_mendBegins 7 = .ok (.aload_n 0, 1) := by decide +kernel
theorem dX3_mendBegins_8 : decode cX3_mendBegins 8 = .ok (.getfield 48, 3) := by decide +kernel
theorem dX3_mendBegins_11 : decode cX3_mendBegins 11 = .ok (.aload_n 0, 1) := by decide +kernel
theorem dX3_mendBegins_12 : decode cX3_mendBegins 12 = .ok (.getfield 19, 3) := by decide +kernel
theorem dX3_mendBegins_15 : decode cX3_mendBegins 15 = .ok (.getfield 72, 3) := by decide +kernel
theorem dX3_mendBegins_18 : decode cX3_mendBegins 18 = .ok (.iload_n 1, 1) := by decide +kernel
theorem dX3_mendBegins_19 : decode cX3_mendBegins 19 = .ok (.aaload, 1) := by decide +kernel
theorem dX3_mendBegins_20 : decode cX3_mendBegins 20 = .ok (.iload_n 2, 1) := by decide +kernel
theorem dX3_mendBegins_21 : decode cX3_mendBegins 21 = .ok (.iaload, 1) := by decide +kernel
theorem dX3_mendBegins_22 : decode cX3_mendBegins 22 = .ok (.iadd, 1) := by decide +kernel
theorem dX3_mendBegins_23 : decode cX3_mendBegins 23 = .ok (.iconst (-1), 1) := by decide +kernel
theorem dX3_mendBegins_24 : decode cX3_mendBegins 24 = .ok (.invokevirtual 112, 3) := by decide +kernel
theorem dX3_mendBegins_27 : decode cX3_mendBegins 27 = .ok (.return_, 1) := by decide +kernel
set_option maxRecDepth 20000 in
theorem ggX3_mendGetsCore_X2_firstThatMends : GoodIn wsX3_mendGetsCore wsX2_firstThatMends := goodIn_r _ [9, 10, 11, 89, 90, 91, 92] (by decide +kernel) (by decide +kernel)
set_option maxRecDepth 20000 in
theorem gX3_mendGetsCore_X2_firstThatMends : GoodIn wsX3_mendGetsCore (wsV RX3 119 RX2 yX2_firstThatMends wsX2_firstThatMends) := goodIn_app (goodIn_of _ (by decide +kernel)) ggX3_mendGetsCore_X2_firstThatMends
set_option maxRecDepth 20000 in
theorem ggX3_mendGetsCore_X3_mendBegins : GoodIn wsX3_mendGetsCore wsX3_mendBegins := goodIn_r _ [16, 17, 18, 4, 19, 20, 21, 22, 23, 24, 25, 26, 27, 28, 29, 30, 31, 32, 33, 34, 35, 36, 37, 38, 39, 40, 41, 42, 43, 44, 45, 71, 72, 73, 74, 75, 76, 77, 78, 79, 89, 90, 91, 92, 93, 94] (by decide +kernel) (by decide +kernel)
set_option maxRecDepth 20000 in
theorem gX3_mendGetsCore_X3_mendBegins : GoodIn wsX3_mendGetsCore (wsV RX3 178 RX3 yX3_mendBegins wsX3_mendBegins) := goodIn_app (goodIn_of _ (by decide +kernel)) ggX3_mendGetsCore_X3_mendBegins
set_option maxRecDepth 20000 in
theorem ggX3_mendGetsCore_X3_setsOut : GoodIn wsX3_mendGetsCore wsX3_setsOut := goodIn_r _ [49, 17, 18, 4, 50, 51, 52, 8, 53, 54, 11, 20, 21, 22, 23, 24, 25, 26, 27, 28, 29, 30, 31, 32, 33, 34, 35, 36, 37, 38, 39, 40, 41, 42, 43, 44, 45, 71, 72, 73, 74, 75, 76, 77, 78, 79, 89, 90, 91, 92, 93, 94] (by decide +kernel) (by decide +kernel)
set_option maxRecDepth 20000 in
theorem gX3_mendGetsCore_X3_setsOut : GoodIn wsX3_mendGetsCore (wsV RX3 174 RX3 yX3_setsOut wsX3_setsOut) := goodIn_app (goodIn_of _ (by decide +kernel)) ggX3_mendGetsCore_X3_setsOut
set_option maxRecDepth 20000 in
theorem ggX3_mendGetsCore_X3_asksGoUp : GoodIn wsX3_mendGetsCore wsX3_asksGoUp := goodIn_r _ [58, 4, 59, 60, 18, 61, 62, 63, 15, 64, 65, 66, 67, 68, 69, 17, 70, 20, 21, 22, 23, 24, 25, 26, 27, 28, 29, 30, 31, 32, 33, 34, 35, 36, 37, 38, 39, 40, 41, 42, 43, 44, 45, 71, 72, 73, 74, 75, 76, 77, 78, 79, 89, 90, 91, 92, 93, 94] (by decide +kernel) (by decide +kernel)
set_option maxRecDepth 20000 in
theorem gX3_mendGetsCore_X3_asksGoUp : GoodIn wsX3_mendGetsCore (wsV RX3 108 RX3 yX3_asksGoUp wsX3_asksGoUp) := goodIn_app (goodIn_of _ (by decide +kernel)) ggX3_mendGetsCore_X3_asksGoUp
theorem dX3_mendGetsCore_0 : decode cX3_mendGetsCore 0 = .ok (.aload_n 0, 1) := by decide +kernel
theorem dX3_mendGetsCore_1 : decode cX3_mendGetsCore 1 = .ok (.getfield 10, 3) := by decide +kernel
theorem dX3_mendGetsCore_4 : decode cX3_mendGetsCore 4 = .ok (.getfield 148, 3) := by decide +kernel
theorem dX3_mendGetsCore_7 : decode cX3_mendGetsCore 7 = .ok (.iload_n 2, 1) := by decide +kernel
theorem dX3_mendGetsCore_8 : decode cX3_mendGetsCore 8 = .ok (.dup2, 1) := by decide +kernel
theorem dX3_mendGetsCore_9 : decode cX3_mendGetsCore 9 = .ok (.iaload, 1) := by decide +kernel
theorem dX3_mendGetsCore_10 : decode cX3_mendGetsCore 10 = .ok (.iconst 1, 1) := by decide +kernel
theorem dX3_mendGetsCore_11 : decode cX3_mendGetsCore 11 = .ok (.iadd, 1) := by decide +kernel
theorem dX3_mendGetsCore_12 : decode cX3_mendGetsCore 12 = .ok (.iastore, 1) := by decide +kernel
theorem dX3_mendGetsCore_13 : decode cX3_mendGetsCore 13 = .ok (.aload_n 0, 1) := by decide +kernel
theorem dX3_mendGetsCore_14 : decode cX3_mendGetsCore 14 = .ok (.getfield 10, 3) := by decide +kernel
theorem dX3_mendGetsCore_17 : decode cX3_mendGetsCore 17 = .ok (.getfield 102, 3) := by decide +kernel
theorem dX3_mendGetsCore_20 : decode cX3_mendGetsCore 20 = .ok (.iload_n 2, 1) := by decide +kernel
theorem dX3_mendGetsCore_21 : decode cX3_mendGetsCore 21 = .ok (.dup2, 1) := by decide +kernel
theorem dX3_mendGetsCore_22 : decode cX3_mendGetsCore 22 = .ok (.iaload, 1) := by decide +kernel
theorem dX3_mendGetsCore_23 : decode cX3_mendGetsCore 23 = .ok (.iconst 1, 1) := by decide +kernel
theorem dX3_mendGetsCore_24 : decode cX3_mendGetsCore 24 = .ok (.iadd, 1) := by decide +kernel
theorem dX3_mendGetsCore_25 : decode cX3_mendGetsCore 25 = .ok (.iastore, 1) := by decide +kernel
theorem dX3_mendGetsCore_26 : decode cX3_mendGetsCore 26 = .ok (.aload_n 0, 1) := by decide +kernel
theorem dX3_mendGetsCore_27 : decode cX3_mendGetsCore 27 = .ok (.getfield 19, 3) := by decide +kernel
theorem dX3_mendGetsCore_30 : decode cX3_mendGetsCore 30 = .ok (.iload_n 1, 1) := by decide +kernel
theorem dX3_mendGetsCore_31 : decode cX3_mendGetsCore 31 = .ok (.iload_n 2, 1) := by decide +kernel
theorem dX3_mendGetsCore_32 : decode cX3_mendGetsCore 32 = .ok (.invokevirtual 119, 3) := by decide +kernel
theorem dX3_mendGetsCore_35 : decode cX3_mendGetsCore 35 = .ok (.istore 4, 2) := by decide +kernel
theorem dX3_mendGetsCore_37 : decode cX3_mendGetsCore 37 = .ok (.iload 4, 2) := by decide +kernel
theorem dX3_mendGetsCore_39 : decode cX3_mendGetsCore 39 = .ok (.iload_n 1, 1) := by decide +kernel
theorem dX3_mendGetsCore_40 : decode cX3_mendGetsCore 40 = .ok (.if_icmp .ne 12, 3) := by decide +kernel
theorem dX3_mendGetsCore_43 : decode cX3_mendGetsCore 43 = .ok (.aload_n 0, 1) := by decide +kernel
theorem dX3_mendGetsCore_44 : decode cX3_mendGetsCore 44 = .ok (.iload_n 1, 1) := by decide +kernel
theorem dX3_mendGetsCore_45 : decode cX3_mendGetsCore 45 = .ok (.iload_n 2, 1) := by decide +kernel
theorem dX3_mendGetsCore_46 : decode cX3_mendGetsCore 46 = .ok (.invokevirtual 178, 3) := by decide +kernel
theorem dX3_mendGetsCore_49 : decode cX3_mendGetsCore 49 = .ok (.goto 12, 3) := by decide +kernel
theorem dX3_mendGetsCore_52 : decode cX3_mendGetsCore 52 = .ok (.aload_n 0, 1) := by decide +kernel
theorem dX3_mendGetsCore_53 : decode cX3_mendGetsCore 53 = .ok (.iload_n 1, 1) := by decide +kernel
theorem dX3_mendGetsCore_54 : decode cX3_mendGetsCore 54 = .ok (.iload_n 2, 1) := by decide +kernel
theorem dX3_mendGetsCore_55 : decode cX3_mendGetsCore 55 = .ok (.iload 4, 2) := by decide +kernel
theorem dX3_mendGetsCore_57 : decode cX3_mendGetsCore 57 = .ok (.iconst 0, 1) := by decide +kernel
theorem dX3_mendGetsCore_58 : decode cX3_mendGetsCore 58 = .ok (.invokevirtual 174, 3) := by decide +kernel
theorem dX3_mendGetsCore_61 : decode cX3_mendGetsCore 61 = .ok (.aload_n 0, 1) := by decide +kernel
theorem dX3_mendGetsCore_62 : decode cX3_mendGetsCore 62 = .ok (.iload_n 1, 1) := by decide +kernel
theorem dX3_mendGetsCore_63 : decode cX3_mendGetsCore 63 = .ok (.iload_n 2, 1) := by decide +kernel
theorem dX3_mendGetsCore_64 : decode cX3_mendGetsCore 64 = .ok (.iload 4, 2) := by decide +kernel
theorem dX3_mendGetsCore_66 : decode cX3_mendGetsCore 66 = .ok (.invokevirtual 108, 3) := by decide +kernel
theorem dX3_mendGetsCore_69 : decode cX3_mendGetsCore 69 = .ok (.aload_n 0, 1) := by decide +kernel
theorem dX3_mendGetsCore_70 : decode cX3_mendGetsCore 70 = .ok (.iload_n 1, 1) := by decide +kernel
theorem dX3_mendGetsCore_71 : decode cX3_mendGetsCore 71 = .ok (.iload_n 3, 1) := by decide +kernel
theorem dX3_mendGetsCore_72 : decode cX3_mendGetsCore 72 = .ok (.invokevirtual 178, 3) := by decide +kernel
theorem dX3_mendGetsCore_75 : decode cX3_mendGetsCore 75 = .ok (.return_, 1) := by decide +kernel
set_option maxRecDepth 20000 in
theorem ggX3_asksGoUp_X3_takesGood : GoodIn wsX3_asksGoUp wsX3_takesGood := goodIn_r _ [9, 10, 43, 44, 45, 46, 47, 48, 49, 50, 51] (by decide +kernel) (by decide +kernel)
set_option maxRecDepth 20000 in
theorem gX3_asksGoUp_X3_takesGood : GoodIn wsX3_asksGoUp (wsV RX3 161 RX3 yX3_takesGood wsX3_takesGood) := goodIn_app (goodIn_of _ (by decide +kernel)) ggX3_asksGoUp_X3_takesGood
set_option maxRecDepth 20000 in
theorem ggX3_asksGoUp_X3_goesDown : GoodIn wsX3_asksGoUp wsX3_goesDown := goodIn_r _ [14, 15, 4, 1, 16, 17, 18, 19, 20, 21, 22, 23, 24, 25, 26, 27, 28, 29, 30, 31, 32, 33, 34, 35, 36, 37, 38, 39, 40, 41, 42, 43, 44, 45, 46, 47, 48, 49, 50, 51, 52, 53, 54, 55, 56, 57] (by decide +kernel) (by decide +kernel)
set_option maxRecDepth 20000 in
theorem gX3_asksGoUp_X3_goesDown : GoodIn wsX3_asksGoUp (wsV RX3 168 RX3 yX3_goesDown wsX3_goesDown) := goodIn_app (goodIn_of _ (by decide +kernel)) ggX3_asksGoUp_X3_goesDown
set_option maxRecDepth 20000 in
theorem ggX3_asksGoUp_X1_add : GoodIn wsX3_asksGoUp wsX1_add := goodIn_r _ [21, 22, 23, 24, 25, 26, 27, 28, 29, 30, 31, 32, 33, 34, 35, 36, 37, 38, 39, 40, 41, 42, 56, 57] (by decide +kernel) (by decide +kernel)
set_option maxRecDepth 20000 in
theorem gX3_asksGoUp_X1_add : GoodIn wsX3_asksGoUp (wsV RX3 112 RX1 yX1_add wsX1_add) := goodIn_app (goodIn_of _ (by decide +kernel)) ggX3_asksGoUp_X1_add
theorem dX3_asksGoUp_0 : decode cX3_asksGoUp 0 = .ok (.iload_n 1, 1) := by decide +kernel
theorem dX3_asksGoUp_1 : decode cX3_asksGoUp 1 = .ok (.istore 4, 2) := by decide +kernel
theorem dX3_asksGoUp_3 : decode cX3_asksGoUp 3 = .ok (.iconst 0, 1) := by decide +kernel
theorem dX3_asksGoUp_4 : decode cX3_asksGoUp 4 = .ok (.istore 5, 2) := by decide +kernel
theorem dX3_asksGoUp_6 : decode cX3_asksGoUp 6 = .ok (.iload 5, 2) := by decide +kernel
theorem dX3_asksGoUp_8 : decode cX3_asksGoUp 8 = .ok (.bipush 8, 2) := by decide +kernel
theorem dX3_asksGoUp_10 : decode cX3_asksGoUp 10 = .ok (.if_icmp .ge 68, 3) := by decide +kernel
theorem dX3_asksGoUp_13 : decode cX3_asksGoUp 13 = .ok (.iload 4, 2) := by decide +kernel
theorem dX3_asksGoUp_15 : decode cX3_asksGoUp 15 = .ok (.iload_n 3, 1) := by decide +kernel
theorem dX3_asksGoUp_16 : decode cX3_asksGoUp 16 = .ok (.if_icmp .le 62, 3) := by decide +kernel
theorem dX3_asksGoUp_19 : decode cX3_asksGoUp 19 = .ok (.aload_n 0, 1) := by decide +kernel
theorem dX3_asksGoUp_20 : decode cX3_asksGoUp 20 = .ok (.getfield 19, 3) := by decide +kernel
theorem dX3_asksGoUp_23 : decode cX3_asksGoUp 23 = .ok (.getfield 77, 3) := by decide +kernel
theorem dX3_asksGoUp_26 : decode cX3_asksGoUp 26 = .ok (.iload 4, 2) := by decide +kernel
theorem dX3_asksGoUp_28 : decode cX3_asksGoUp 28 = .ok (.iaload, 1) := by decide +kernel
theorem dX3_asksGoUp_29 : decode cX3_asksGoUp 29 = .ok (.istore 6, 2) := by decide +kernel
theorem dX3_asksGoUp_31 : decode cX3_asksGoUp 31 = .ok (.aload_n 0, 1) := by decide +kernel
theorem dX3_asksGoUp_32 : decode cX3_asksGoUp 32 = .ok (.iload 6, 2) := by decide +kernel
theorem dX3_asksGoUp_34 : decode cX3_asksGoUp 34 = .ok (.iload_n 2, 1) := by decide +kernel
theorem dX3_asksGoUp_35 : decode cX3_asksGoUp 35 = .ok (.invokevirtual 161, 3) := by decide +kernel
theorem dX3_asksGoUp_38 : decode cX3_asksGoUp 38 = .ok (.ifCond .eq 13, 3) := by decide +kernel
theorem dX3_asksGoUp_41 : decode cX3_asksGoUp 41 = .ok (.aload_n 0, 1) := by decide +kernel
theorem dX3_asksGoUp_42 : decode cX3_asksGoUp 42 = .ok (.iload 4, 2) := by decide +kernel
theorem dX3_asksGoUp_44 : decode cX3_asksGoUp 44 = .ok (.iload_n 2, 1) := by decide +kernel
theorem dX3_asksGoUp_45 : decode cX3_asksGoUp 45 = .ok (.invokevirtual 168, 3) := by decide +kernel
theorem dX3_asksGoUp_48 : decode cX3_asksGoUp 48 = .ok (.goto 20, 3) := by decide +kernel
theorem dX3_asksGoUp_51 : decode cX3_asksGoUp 51 = .ok (.aload_n 0, 1) := by decide +kernel
theorem dX3_asksGoUp_52 : decode cX3_asksGoUp 52 = .ok (.getfield 41, 3) := by decide +kernel
theorem dX3_asksGoUp_55 : decode cX3_asksGoUp 55 = .ok (.iload 6, 2) := by decide +kernel
theorem dX3_asksGoUp_57 : decode cX3_asksGoUp 57 = .ok (.iload_n 2, 1) := by decide +kernel
theorem dX3_asksGoUp_58 : decode cX3_asksGoUp 58 = .ok (.iconst 1, 1) := by decide +kernel
theorem dX3_asksGoUp_59 : decode cX3_asksGoUp 59 = .ok (.aload_n 0, 1) := by decide +kernel
theorem dX3_asksGoUp_60 : decode cX3_asksGoUp 60 = .ok (.getfield 48, 3) := by decide +kernel
theorem dX3_asksGoUp_63 : decode cX3_asksGoUp 63 = .ok (.iload 4, 2) := by decide +kernel
theorem dX3_asksGoUp_65 : decode cX3_asksGoUp 65 = .ok (.invokevirtual 112, 3) := by decide +kernel
theorem dX3_asksGoUp_68 : decode cX3_asksGoUp 68 = .ok (.iload 6, 2) := by decide +kernel
theorem dX3_asksGoUp_70 : decode cX3_asksGoUp 70 = .ok (.istore 4, 2) := by decide +kernel
theorem dX3_asksGoUp_72 : decode cX3_asksGoUp 72 = .ok (.iinc 5 1, 3) := by decide +kernel
theorem dX3_asksGoUp_75 : decode cX3_asksGoUp 75 = .ok (.goto (-69), 3) := by decide +kernel
theorem dX3_asksGoUp_78 : decode cX3_asksGoUp 78 = .ok (.return_, 1) := by decide +kernel
set_option maxRecDepth 20000 in
theorem ggX3_doWhatIsDue_X1_read : GoodIn wsX3_doWhatIsDue wsX1_read := goodIn_r _ [8, 9, 10, 112, 113] (by decide +kernel) (by decide +kernel)
set_option maxRecDepth 20000 in
theorem gX3_doWhatIsDue_X1_read : GoodIn wsX3_doWhatIsDue (wsV RX3 138 RX1 yX1_read wsX1_read) := goodIn_app (goodIn_of _ (by decide +kernel)) ggX3_doWhatIsDue_X1_read
set_option maxRecDepth 20000 in
theorem ggX3_doWhatIsDue_X1_drop : GoodIn wsX3_doWhatIsDue wsX1_drop := goodIn_r _ [14, 9, 10, 15, 16, 17, 18, 112, 113] (by decide +kernel) (by decide +kernel)
set_option maxRecDepth 20000 in
theorem gX3_doWhatIsDue_X1_drop : GoodIn wsX3_doWhatIsDue (wsV RX3 164 RX1 yX1_drop wsX1_drop) := goodIn_app (goodIn_of _ (by decide +kernel)) ggX3_doWhatIsDue_X1_drop
set_option maxRecDepth 20000 in
theorem ggX3_doWhatIsDue_X3_goesBack : GoodIn wsX3_doWhatIsDue wsX3_goesBack := goodIn_r _ [23, 24, 25, 26, 27, 3, 28, 29, 30, 31, 32, 33, 34, 35, 36, 37, 22, 38, 1, 39, 40, 41, 42, 43, 44, 45, 46, 7, 47, 9, 10, 48, 49, 50, 51, 52, 53, 54, 55, 56, 57, 58, 59, 60, 61, 62, 63, 16, 17, 18, 64, 65, 66, 67, 68, 69, 70, 71, 72, 73, 74, 75, 76, 77, 78, 79, 80, 81, 82, 83, 84, 85, 86, 87, 88, 89, 103, 104, 105, 106, 107, 108, 109, 110, 111, 114, 115, 116, 117, 118, 119, 120, 121, 122, 123, 124, 125, 126, 112, 113] (by decide +kernel) (by decide +kernel)
set_option maxRecDepth 20000 in
theorem gX3_doWhatIsDue_X3_goesBack : GoodIn wsX3_doWhatIsDue (wsV RX3 116 RX3 yX3_goesBack wsX3_goesBack) := goodIn_app (goodIn_of _ (by decide +kernel)) ggX3_doWhatIsDue_X3_goesBack
set_option maxRecDepth 20000 in
theorem ggX3_doWhatIsDue_X3_lands : GoodIn wsX3_doWhatIsDue wsX3_lands := goodIn_r _ [93, 27, 73, 25, 94, 95, 96, 97, 7, 98, 9, 99, 100, 101, 102, 10, 4, 5, 6, 8, 11, 12, 13, 14, 15, 16, 17, 18, 85, 86, 87, 22, 88, 1, 3, 24, 89, 44, 45, 46, 47, 48, 49, 50, 51, 52, 53, 54, 55, 56, 57, 58, 59, 60, 61, 62, 63, 74, 75, 76, 77, 78, 79, 28, 29, 30, 31, 32, 33, 34, 64, 65, 66, 67, 68, 35, 36, 37, 38, 39, 40, 41, 42, 43, 80, 81, 82, 83, 84, 69, 70, 71, 72, 103, 104, 105, 106, 107, 108, 109, 110, 111, 114, 115, 116, 117, 118, 119, 120, 121, 122, 112, 113, 123, 124, 125, 126] (by decide +kernel) (by decide +kernel)
set_option maxRecDepth 20000 in
theorem gX3_doWhatIsDue_X3_lands : GoodIn wsX3_doWhatIsDue (wsV RX3 94 RX3 yX3_lands wsX3_lands) := goodIn_app (goodIn_of _ (by decide +kernel)) ggX3_doWhatIsDue_X3_lands
theorem dX3_doWhatIsDue_0 : decode cX3_doWhatIsDue 0 = .ok (.aload_n 0, 1) := by decide +kernel
theorem dX3_doWhatIsDue_1 : decode cX3_doWhatIsDue 1 = .ok (.getfield 45, 3) := by decide +kernel
theorem dX3_doWhatIsDue_4 : decode cX3_doWhatIsDue 4 = .ok (.getfield 98, 3) := by decide +kernel
theorem dX3_doWhatIsDue_7 : decode cX3_doWhatIsDue 7 = .ok (.istore_n 1, 1) := by decide +kernel
theorem dX3_doWhatIsDue_8 : decode cX3_doWhatIsDue 8 = .ok (.iconst 0, 1) := by decide +kernel
theorem dX3_doWhatIsDue_9 : decode cX3_doWhatIsDue 9 = .ok (.istore_n 2, 1) := by decide +kernel
theorem dX3_doWhatIsDue_10 : decode cX3_doWhatIsDue 10 = .ok (.iconst 0, 1) := by decide +kernel
theorem dX3_doWhatIsDue_11 : decode cX3_doWhatIsDue 11 = .ok (.istore_n 3, 1) := by decide +kernel
theorem dX3_doWhatIsDue_12 : decode cX3_doWhatIsDue 12 = .ok (.iload_n 3, 1) := by decide +kernel
theorem dX3_doWhatIsDue_13 : decode cX3_doWhatIsDue 13 = .ok (.iload_n 1, 1) := by decide +kernel
theorem dX3_doWhatIsDue_14 : decode cX3_doWhatIsDue 14 = .ok (.if_icmp .ge 110, 3) := by decide +kernel
theorem dX3_doWhatIsDue_17 : decode cX3_doWhatIsDue 17 = .ok (.aload_n 0, 1) := by decide +kernel
theorem dX3_doWhatIsDue_18 : decode cX3_doWhatIsDue 18 = .ok (.getfield 45, 3) := by decide +kernel
theorem dX3_doWhatIsDue_21 : decode cX3_doWhatIsDue 21 = .ok (.iload_n 2, 1) := by decide +kernel
theorem dX3_doWhatIsDue_22 : decode cX3_doWhatIsDue 22 = .ok (.iconst 3, 1) := by decide +kernel
theorem dX3_doWhatIsDue_23 : decode cX3_doWhatIsDue 23 = .ok (.invokevirtual 138, 3) := by decide +kernel
theorem dX3_doWhatIsDue_26 : decode cX3_doWhatIsDue 26 = .ok (.aload_n 0, 1) := by decide +kernel
theorem dX3_doWhatIsDue_27 : decode cX3_doWhatIsDue 27 = .ok (.getfield 48, 3) := by decide +kernel
theorem dX3_doWhatIsDue_30 : decode cX3_doWhatIsDue 30 = .ok (.if_icmp .eq 9, 3) := by decide +kernel
theorem dX3_doWhatIsDue_33 : decode cX3_doWhatIsDue 33 = .ok (.iinc 2 1, 3) := by decide +kernel
theorem dX3_doWhatIsDue_36 : decode cX3_doWhatIsDue 36 = .ok (.goto 82, 3) := by decide +kernel
theorem dX3_doWhatIsDue_39 : decode cX3_doWhatIsDue 39 = .ok (.aload_n 0, 1) := by decide +kernel
theorem dX3_doWhatIsDue_40 : decode cX3_doWhatIsDue 40 = .ok (.getfield 45, 3) := by decide +kernel
theorem dX3_doWhatIsDue_43 : decode cX3_doWhatIsDue 43 = .ok (.iload_n 2, 1) := by decide +kernel
