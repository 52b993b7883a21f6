theorem dX3_doWhatIsDue_44 : decode cX3_doWhatIsDue 44 = .ok (.iconst 0, 1) := by decide +kernel
theorem dX3_doWhatIsDue_45 : decode cX3_doWhatIsDue 45 = .ok (.invokevirtual 138, 3) := by decide +kernel
theorem dX3_doWhatIsDue_48 : decode cX3_doWhatIsDue 48 = .ok (.istore 4, 2) := by decide +kernel
theorem dX3_doWhatIsDue_50 : decode cX3_doWhatIsDue 50 = .ok (.aload_n 0, 1) := by decide +kernel
theorem dX3_doWhatIsDue_51 : decode cX3_doWhatIsDue 51 = .ok (.getfield 45, 3) := by decide +kernel
theorem dX3_doWhatIsDue_54 : decode cX3_doWhatIsDue 54 = .ok (.iload_n 2, 1) := by decide +kernel
theorem dX3_doWhatIsDue_55 : decode cX3_doWhatIsDue 55 = .ok (.iconst 1, 1) := by decide +kernel
theorem dX3_doWhatIsDue_56 : decode cX3_doWhatIsDue 56 = .ok (.invokevirtual 138, 3) := by decide +kernel
theorem dX3_doWhatIsDue_59 : decode cX3_doWhatIsDue 59 = .ok (.istore 5, 2) := by decide +kernel
theorem dX3_doWhatIsDue_61 : decode cX3_doWhatIsDue 61 = .ok (.aload_n 0, 1) := by decide +kernel
theorem dX3_doWhatIsDue_62 : decode cX3_doWhatIsDue 62 = .ok (.getfield 45, 3) := by decide +kernel
theorem dX3_doWhatIsDue_65 : decode cX3_doWhatIsDue 65 = .ok (.iload_n 2, 1) := by decide +kernel
theorem dX3_doWhatIsDue_66 : decode cX3_doWhatIsDue 66 = .ok (.iconst 2, 1) := by decide +kernel
theorem dX3_doWhatIsDue_67 : decode cX3_doWhatIsDue 67 = .ok (.invokevirtual 138, 3) := by decide +kernel
theorem dX3_doWhatIsDue_70 : decode cX3_doWhatIsDue 70 = .ok (.istore 6, 2) := by decide +kernel
theorem dX3_doWhatIsDue_72 : decode cX3_doWhatIsDue 72 = .ok (.aload_n 0, 1) := by decide +kernel
theorem dX3_doWhatIsDue_73 : decode cX3_doWhatIsDue 73 = .ok (.getfield 45, 3) := by decide +kernel
theorem dX3_doWhatIsDue_76 : decode cX3_doWhatIsDue 76 = .ok (.iload_n 2, 1) := by decide +kernel
theorem dX3_doWhatIsDue_77 : decode cX3_doWhatIsDue 77 = .ok (.iconst 4, 1) := by decide +kernel
theorem dX3_doWhatIsDue_78 : decode cX3_doWhatIsDue 78 = .ok (.invokevirtual 138, 3) := by decide +kernel
theorem dX3_doWhatIsDue_81 : decode cX3_doWhatIsDue 81 = .ok (.istore 7, 2) := by decide +kernel
theorem dX3_doWhatIsDue_83 : decode cX3_doWhatIsDue 83 = .ok (.aload_n 0, 1) := by decide +kernel
theorem dX3_doWhatIsDue_84 : decode cX3_doWhatIsDue 84 = .ok (.getfield 45, 3) := by decide +kernel
theorem dX3_doWhatIsDue_87 : decode cX3_doWhatIsDue 87 = .ok (.iload_n 2, 1) := by decide +kernel
theorem dX3_doWhatIsDue_88 : decode cX3_doWhatIsDue 88 = .ok (.invokevirtual 164, 3) := by decide +kernel
theorem dX3_doWhatIsDue_91 : decode cX3_doWhatIsDue 91 = .ok (.iload 6, 2) := by decide +kernel
theorem dX3_doWhatIsDue_93 : decode cX3_doWhatIsDue 93 = .ok (.iconst 1, 1) := by decide +kernel
theorem dX3_doWhatIsDue_94 : decode cX3_doWhatIsDue 94 = .ok (.if_icmp .ne 16, 3) := by decide +kernel
theorem dX3_doWhatIsDue_97 : decode cX3_doWhatIsDue 97 = .ok (.aload_n 0, 1) := by decide +kernel
theorem dX3_doWhatIsDue_98 : decode cX3_doWhatIsDue 98 = .ok (.iload 4, 2) := by decide +kernel
theorem dX3_doWhatIsDue_100 : decode cX3_doWhatIsDue 100 = .ok (.iload 5, 2) := by decide +kernel
theorem dX3_doWhatIsDue_102 : decode cX3_doWhatIsDue 102 = .ok (.iload 7, 2) := by decide +kernel
theorem dX3_doWhatIsDue_104 : decode cX3_doWhatIsDue 104 = .ok (.invokevirtual 116, 3) := by decide +kernel
theorem dX3_doWhatIsDue_107 : decode cX3_doWhatIsDue 107 = .ok (.goto 11, 3) := by decide +kernel
theorem dX3_doWhatIsDue_110 : decode cX3_doWhatIsDue 110 = .ok (.aload_n 0, 1) := by decide +kernel
theorem dX3_doWhatIsDue_111 : decode cX3_doWhatIsDue 111 = .ok (.iload 4, 2) := by decide +kernel
theorem dX3_doWhatIsDue_113 : decode cX3_doWhatIsDue 113 = .ok (.iload 5, 2) := by decide +kernel
theorem dX3_doWhatIsDue_115 : decode cX3_doWhatIsDue 115 = .ok (.invokevirtual 94, 3) := by decide +kernel
theorem dX3_doWhatIsDue_118 : decode cX3_doWhatIsDue 118 = .ok (.iinc 3 1, 3) := by decide +kernel
theorem dX3_doWhatIsDue_121 : decode cX3_doWhatIsDue 121 = .ok (.goto (-109), 3) := by decide +kernel
theorem dX3_doWhatIsDue_124 : decode cX3_doWhatIsDue 124 = .ok (.return_, 1) := by decide +kernel
set_option maxRecDepth 20000 in
theorem ggX3_countStanding_X1_read : GoodIn wsX3_countStanding wsX1_read := goodIn_r _ [8, 9, 10, 20, 21] (by decide +kernel) (by decide +kernel)
set_option maxRecDepth 20000 in
theorem gX3_countStanding_X1_read : GoodIn wsX3_countStanding (wsV RX3 138 RX1 yX1_read wsX1_read) := goodIn_app (goodIn_of _ (by decide +kernel)) ggX3_countStanding_X1_read
theorem dX3_countStanding_0 : decode cX3_countStanding 0 = .ok (.iconst 0, 1) := by decide +kernel
theorem dX3_countStanding_1 : decode cX3_countStanding 1 = .ok (.istore_n 1, 1) := by decide +kernel
theorem dX3_countStanding_2 : decode cX3_countStanding 2 = .ok (.iload_n 1, 1) := by decide +kernel
theorem dX3_countStanding_3 : decode cX3_countStanding 3 = .ok (.aload_n 0, 1) := by decide +kernel
theorem dX3_countStanding_4 : decode cX3_countStanding 4 = .ok (.getfield 41, 3) := by decide +kernel
theorem dX3_countStanding_7 : decode cX3_countStanding 7 = .ok (.getfield 98, 3) := by decide +kernel
theorem dX3_countStanding_10 : decode cX3_countStanding 10 = .ok (.if_icmp .ge 39, 3) := by decide +kernel
theorem dX3_countStanding_13 : decode cX3_countStanding 13 = .ok (.aload_n 0, 1) := by decide +kernel
theorem dX3_countStanding_14 : decode cX3_countStanding 14 = .ok (.getfield 41, 3) := by decide +kernel
theorem dX3_countStanding_17 : decode cX3_countStanding 17 = .ok (.iload_n 1, 1) := by decide +kernel
theorem dX3_countStanding_18 : decode cX3_countStanding 18 = .ok (.iconst 2, 1) := by decide +kernel
theorem dX3_countStanding_19 : decode cX3_countStanding 19 = .ok (.invokevirtual 138, 3) := by decide +kernel
theorem dX3_countStanding_22 : decode cX3_countStanding 22 = .ok (.ifCond .ne 21, 3) := by decide +kernel
theorem dX3_countStanding_25 : decode cX3_countStanding 25 = .ok (.aload_n 0, 1) := by decide +kernel
theorem dX3_countStanding_26 : decode cX3_countStanding 26 = .ok (.getfield 31, 3) := by decide +kernel
theorem dX3_countStanding_29 : decode cX3_countStanding 29 = .ok (.aload_n 0, 1) := by decide +kernel
theorem dX3_countStanding_30 : decode cX3_countStanding 30 = .ok (.getfield 41, 3) := by decide +kernel
theorem dX3_countStanding_33 : decode cX3_countStanding 33 = .ok (.iload_n 1, 1) := by decide +kernel
theorem dX3_countStanding_34 : decode cX3_countStanding 34 = .ok (.iconst 0, 1) := by decide +kernel
theorem dX3_countStanding_35 : decode cX3_countStanding 35 = .ok (.invokevirtual 138, 3) := by decide +kernel
theorem dX3_countStanding_38 : decode cX3_countStanding 38 = .ok (.dup2, 1) := by decide +kernel
theorem dX3_countStanding_39 : decode cX3_countStanding 39 = .ok (.iaload, 1) := by decide +kernel
theorem dX3_countStanding_40 : decode cX3_countStanding 40 = .ok (.iconst 1, 1) := by decide +kernel
theorem dX3_countStanding_41 : decode cX3_countStanding 41 = .ok (.iadd, 1) := by decide +kernel
theorem dX3_countStanding_42 : decode cX3_countStanding 42 = .ok (.iastore, 1) := by decide +kernel
theorem dX3_countStanding_43 : decode cX3_countStanding 43 = .ok (.iinc 1 1, 3) := by decide +kernel
theorem dX3_countStanding_46 : decode cX3_countStanding 46 = .ok (.goto (-44), 3) := by decide +kernel
theorem dX3_countStanding_49 : decode cX3_countStanding 49 = .ok (.return_, 1) := by decide +kernel
theorem dX3_stoodOfAll_0 : decode cX3_stoodOfAll 0 = .ok (.iconst 0, 1) := by decide +kernel
theorem dX3_stoodOfAll_1 : decode cX3_stoodOfAll 1 = .ok (.istore_n 1, 1) := by decide +kernel
theorem dX3_stoodOfAll_2 : decode cX3_stoodOfAll 2 = .ok (.iconst 0, 1) := by decide +kernel
theorem dX3_stoodOfAll_3 : decode cX3_stoodOfAll 3 = .ok (.istore_n 2, 1) := by decide +kernel
theorem dX3_stoodOfAll_4 : decode cX3_stoodOfAll 4 = .ok (.iload_n 2, 1) := by decide +kernel
theorem dX3_stoodOfAll_5 : decode cX3_stoodOfAll 5 = .ok (.aload_n 0, 1) := by decide +kernel
theorem dX3_stoodOfAll_6 : decode cX3_stoodOfAll 6 = .ok (.getfield 19, 3) := by decide +kernel
theorem dX3_stoodOfAll_9 : decode cX3_stoodOfAll 9 = .ok (.getfield 76, 3) := by decide +kernel
theorem dX3_stoodOfAll_12 : decode cX3_stoodOfAll 12 = .ok (.if_icmp .ge 18, 3) := by decide +kernel
theorem dX3_stoodOfAll_15 : decode cX3_stoodOfAll 15 = .ok (.iload_n 1, 1) := by decide +kernel
theorem dX3_stoodOfAll_16 : decode cX3_stoodOfAll 16 = .ok (.aload_n 0, 1) := by decide +kernel
theorem dX3_stoodOfAll_17 : decode cX3_stoodOfAll 17 = .ok (.getfield 31, 3) := by decide +kernel
theorem dX3_stoodOfAll_20 : decode cX3_stoodOfAll 20 = .ok (.iload_n 2, 1) := by decide +kernel
theorem dX3_stoodOfAll_21 : decode cX3_stoodOfAll 21 = .ok (.iaload, 1) := by decide +kernel
theorem dX3_stoodOfAll_22 : decode cX3_stoodOfAll 22 = .ok (.iadd, 1) := by decide +kernel
theorem dX3_stoodOfAll_23 : decode cX3_stoodOfAll 23 = .ok (.istore_n 1, 1) := by decide +kernel
theorem dX3_stoodOfAll_24 : decode cX3_stoodOfAll 24 = .ok (.iinc 2 1, 3) := by decide +kernel
theorem dX3_stoodOfAll_27 : decode cX3_stoodOfAll 27 = .ok (.goto (-23), 3) := by decide +kernel
theorem dX3_stoodOfAll_30 : decode cX3_stoodOfAll 30 = .ok (.iload_n 1, 1) := by decide +kernel
theorem dX3_stoodOfAll_31 : decode cX3_stoodOfAll 31 = .ok (.ireturn, 1) := by decide +kernel
theorem dX3_goodOnShelves_0 : decode cX3_goodOnShelves 0 = .ok (.iconst 0, 1) := by decide +kernel
theorem dX3_goodOnShelves_1 : decode cX3_goodOnShelves 1 = .ok (.istore_n 2, 1) := by decide +kernel
theorem dX3_goodOnShelves_2 : decode cX3_goodOnShelves 2 = .ok (.iconst 0, 1) := by decide +kernel
theorem dX3_goodOnShelves_3 : decode cX3_goodOnShelves 3 = .ok (.istore_n 3, 1) := by decide +kernel
theorem dX3_goodOnShelves_4 : decode cX3_goodOnShelves 4 = .ok (.iload_n 3, 1) := by decide +kernel
theorem dX3_goodOnShelves_5 : decode cX3_goodOnShelves 5 = .ok (.aload_n 0, 1) := by decide +kernel
theorem dX3_goodOnShelves_6 : decode cX3_goodOnShelves 6 = .ok (.getfield 19, 3) := by decide +kernel
theorem dX3_goodOnShelves_9 : decode cX3_goodOnShelves 9 = .ok (.getfield 76, 3) := by decide +kernel
theorem dX3_goodOnShelves_12 : decode cX3_goodOnShelves 12 = .ok (.if_icmp .ge 20, 3) := by decide +kernel
theorem dX3_goodOnShelves_15 : decode cX3_goodOnShelves 15 = .ok (.iload_n 2, 1) := by decide +kernel
theorem dX3_goodOnShelves_16 : decode cX3_goodOnShelves 16 = .ok (.aload_n 0, 1) := by decide +kernel
theorem dX3_goodOnShelves_17 : decode cX3_goodOnShelves 17 = .ok (.getfield 25, 3) := by decide +kernel
theorem dX3_goodOnShelves_20 : decode cX3_goodOnShelves 20 = .ok (.iload_n 3, 1) := by decide +kernel
theorem dX3_goodOnShelves_21 : decode cX3_goodOnShelves 21 = .ok (.aaload, 1) := by decide +kernel
theorem dX3_goodOnShelves_22 : decode cX3_goodOnShelves 22 = .ok (.iload_n 1, 1) := by decide +kernel
theorem dX3_goodOnShelves_23 : decode cX3_goodOnShelves 23 = .ok (.iaload, 1) := by decide +kernel
theorem dX3_goodOnShelves_24 : decode cX3_goodOnShelves 24 = .ok (.iadd, 1) := by decide +kernel
theorem dX3_goodOnShelves_25 : decode cX3_goodOnShelves 25 = .ok (.istore_n 2, 1) := by decide +kernel
theorem dX3_goodOnShelves_26 : decode cX3_goodOnShelves 26 = .ok (.iinc 3 1, 3) := by decide +kernel
theorem dX3_goodOnShelves_29 : decode cX3_goodOnShelves 29 = .ok (.goto (-25), 3) := by decide +kernel
theorem dX3_goodOnShelves_32 : decode cX3_goodOnShelves 32 = .ok (.iload_n 2, 1) := by decide +kernel
theorem dX3_goodOnShelves_33 : decode cX3_goodOnShelves 33 = .ok (.ireturn, 1) := by decide +kernel
theorem dX3_flowOf_0 : decode cX3_flowOf 0 = .ok (.iconst 0, 1) := by decide +kernel
theorem dX3_flowOf_1 : decode cX3_flowOf 1 = .ok (.istore_n 3, 1) := by decide +kernel
theorem dX3_flowOf_2 : decode cX3_flowOf 2 = .ok (.iload_n 3, 1) := by decide +kernel
theorem dX3_flowOf_3 : decode cX3_flowOf 3 = .ok (.aload_n 0, 1) := by decide +kernel
theorem dX3_flowOf_4 : decode cX3_flowOf 4 = .ok (.getfield 19, 3) := by decide +kernel
theorem dX3_flowOf_7 : decode cX3_flowOf 7 = .ok (.getfield 76, 3) := by decide +kernel
theorem dX3_flowOf_10 : decode cX3_flowOf 10 = .ok (.if_icmp .ge 23, 3) := by decide +kernel
theorem dX3_flowOf_13 : decode cX3_flowOf 13 = .ok (.aload_n 0, 1) := by decide +kernel
theorem dX3_flowOf_14 : decode cX3_flowOf 14 = .ok (.getfield 35, 3) := by decide +kernel
theorem dX3_flowOf_17 : decode cX3_flowOf 17 = .ok (.iload_n 3, 1) := by decide +kernel
theorem dX3_flowOf_18 : decode cX3_flowOf 18 = .ok (.aload_n 0, 1) := by decide +kernel
theorem dX3_flowOf_19 : decode cX3_flowOf 19 = .ok (.getfield 28, 3) := by decide +kernel
theorem dX3_flowOf_22 : decode cX3_flowOf 22 = .ok (.iload_n 3, 1) := by decide +kernel
theorem dX3_flowOf_23 : decode cX3_flowOf 23 = .ok (.aaload, 1) := by decide +kernel
theorem dX3_flowOf_24 : decode cX3_flowOf 24 = .ok (.iload_n 2, 1) := by decide +kernel
theorem dX3_flowOf_25 : decode cX3_flowOf 25 = .ok (.iaload, 1) := by decide +kernel
theorem dX3_flowOf_26 : decode cX3_flowOf 26 = .ok (.iastore, 1) := by decide +kernel
theorem dX3_flowOf_27 : decode cX3_flowOf 27 = .ok (.iinc 3 1, 3) := by decide +kernel
theorem dX3_flowOf_30 : decode cX3_flowOf 30 = .ok (.goto (-28), 3) := by decide +kernel
theorem dX3_flowOf_33 : decode cX3_flowOf 33 = .ok (.aload_n 0, 1) := by decide +kernel
theorem dX3_flowOf_34 : decode cX3_flowOf 34 = .ok (.getfield 19, 3) := by decide +kernel
theorem dX3_flowOf_37 : decode cX3_flowOf 37 = .ok (.getfield 76, 3) := by decide +kernel
theorem dX3_flowOf_40 : decode cX3_flowOf 40 = .ok (.iconst 1, 1) := by decide +kernel
theorem dX3_flowOf_41 : decode cX3_flowOf 41 = .ok (.isub, 1) := by decide +kernel
theorem dX3_flowOf_42 : decode cX3_flowOf 42 = .ok (.istore_n 3, 1) := by decide +kernel
theorem dX3_flowOf_43 : decode cX3_flowOf 43 = .ok (.iload_n 3, 1) := by decide +kernel
theorem dX3_flowOf_44 : decode cX3_flowOf 44 = .ok (.iload_n 1, 1) := by decide +kernel
theorem dX3_flowOf_45 : decode cX3_flowOf 45 = .ok (.if_icmp .le 46, 3) := by decide +kernel
theorem dX3_flowOf_48 : decode cX3_flowOf 48 = .ok (.aload_n 0, 1) := by decide +kernel
theorem dX3_flowOf_49 : decode cX3_flowOf 49 = .ok (.getfield 19, 3) := by decide +kernel
theorem dX3_flowOf_52 : decode cX3_flowOf 52 = .ok (.getfield 72, 3) := by decide +kernel
theorem dX3_flowOf_55 : decode cX3_flowOf 55 = .ok (.iload_n 3, 1) := by decide +kernel
theorem dX3_flowOf_56 : decode cX3_flowOf 56 = .ok (.aaload, 1) := by decide +kernel
theorem dX3_flowOf_57 : decode cX3_flowOf 57 = .ok (.iload_n 2, 1) := by decide +kernel
theorem dX3_flowOf_58 : decode cX3_flowOf 58 = .ok (.iaload, 1) := by decide +kernel
theorem dX3_flowOf_59 : decode cX3_flowOf 59 = .ok (.ifCond .ne 26, 3) := by decide +kernel
theorem dX3_flowOf_62 : decode cX3_flowOf 62 = .ok (.aload_n 0, 1) := by decide +kernel
theorem dX3_flowOf_63 : decode cX3_flowOf 63 = .ok (.getfield 35, 3) := by decide +kernel
theorem dX3_flowOf_66 : decode cX3_flowOf 66 = .ok (.aload_n 0, 1) := by decide +kernel
theorem dX3_flowOf_67 : decode cX3_flowOf 67 = .ok (.getfield 19, 3) := by decide +kernel
theorem dX3_flowOf_70 : decode cX3_flowOf 70 = .ok (.getfield 77, 3) := by decide +kernel
theorem dX3_flowOf_73 : decode cX3_flowOf 73 = .ok (.iload_n 3, 1) := by decide +kernel
theorem dX3_flowOf_74 : decode cX3_flowOf 74 = .ok (.iaload, 1) := by decide +kernel
theorem dX3_flowOf_75 : decode cX3_flowOf 75 = .ok (.dup2, 1) := by decide +kernel
theorem dX3_flowOf_76 : decode cX3_flowOf 76 = .ok (.iaload, 1) := by decide +kernel
theorem dX3_flowOf_77 : decode cX3_flowOf 77 = .ok (.aload_n 0, 1) := by decide +kernel
theorem dX3_flowOf_78 : decode cX3_flowOf 78 = .ok (.getfield 35, 3) := by decide +kernel
theorem dX3_flowOf_81 : decode cX3_flowOf 81 = .ok (.iload_n 3, 1) := by decide +kernel
theorem dX3_flowOf_82 : decode cX3_flowOf 82 = .ok (.iaload, 1) := by decide +kernel
theorem dX3_flowOf_83 : decode cX3_flowOf 83 = .ok (.iadd, 1) := by decide +kernel
theorem dX3_flowOf_84 : decode cX3_flowOf 84 = .ok (.iastore, 1) := by decide +kernel
theorem dX3_flowOf_85 : decode cX3_flowOf 85 = .ok (.iinc 3 (-1), 3) := by decide +kernel
theorem dX3_flowOf_88 : decode cX3_flowOf 88 = .ok (.goto (-45), 3) := by decide +kernel
theorem dX3_flowOf_91 : decode cX3_flowOf 91 = .ok (.aload_n 0, 1) := by decide +kernel
theorem dX3_flowOf_92 : decode cX3_flowOf 92 = .ok (.getfield 35, 3) := by decide +kernel
theorem dX3_flowOf_95 : decode cX3_flowOf 95 = .ok (.iload_n 1, 1) := by decide +kernel
theorem dX3_flowOf_96 : decode cX3_flowOf 96 = .ok (.iaload, 1) := by decide +kernel
theorem dX3_flowOf_97 : decode cX3_flowOf 97 = .ok (.ireturn, 1) := by decide +kernel
set_option maxRecDepth 20000 in
theorem ggX3_pipeOf_X3_flowOf : GoodIn wsX3_pipeOf wsX3_flowOf := goodIn_r _ [8, 1, 9, 10, 11, 2, 12, 13, 14, 15, 16, 17, 18, 19, 20, 21, 22, 23, 24, 25] (by decide +kernel) (by decide +kernel)
set_option maxRecDepth 20000 in
theorem gX3_pipeOf_X3_flowOf : GoodIn wsX3_pipeOf (wsV RX3 151 RX3 yX3_flowOf wsX3_flowOf) := goodIn_app (goodIn_of _ (by decide +kernel)) ggX3_pipeOf_X3_flowOf
theorem dX3_pipeOf_0 : decode cX3_pipeOf 0 = .ok (.aload_n 0, 1) := by decide +kernel
theorem dX3_pipeOf_1 : decode cX3_pipeOf 1 = .ok (.getfield 19, 3) := by decide +kernel
theorem dX3_pipeOf_4 : decode cX3_pipeOf 4 = .ok (.getfield 72, 3) := by decide +kernel
theorem dX3_pipeOf_7 : decode cX3_pipeOf 7 = .ok (.iload_n 1, 1) := by decide +kernel
theorem dX3_pipeOf_8 : decode cX3_pipeOf 8 = .ok (.aaload, 1) := by decide +kernel
theorem dX3_pipeOf_9 : decode cX3_pipeOf 9 = .ok (.iload_n 2, 1) := by decide +kernel
theorem dX3_pipeOf_10 : decode cX3_pipeOf 10 = .ok (.iaload, 1) := by decide +kernel
theorem dX3_pipeOf_11 : decode cX3_pipeOf 11 = .ok (.istore_n 3, 1) := by decide +kernel
theorem dX3_pipeOf_12 : decode cX3_pipeOf 12 = .ok (.aload_n 0, 1) := by decide +kernel
theorem dX3_pipeOf_13 : decode cX3_pipeOf 13 = .ok (.iload_n 1, 1) := by decide +kernel
theorem dX3_pipeOf_14 : decode cX3_pipeOf 14 = .ok (.iload_n 2, 1) := by decide +kernel
theorem dX3_pipeOf_15 : decode cX3_pipeOf 15 = .ok (.invokevirtual 151, 3) := by decide +kernel
theorem dX3_pipeOf_18 : decode cX3_pipeOf 18 = .ok (.iload_n 3, 1) := by decide +kernel
theorem dX3_pipeOf_19 : decode cX3_pipeOf 19 = .ok (.ifCond .le 7, 3) := by decide +kernel
theorem dX3_pipeOf_22 : decode cX3_pipeOf 22 = .ok (.iload_n 3, 1) := by decide +kernel
theorem dX3_pipeOf_23 : decode cX3_pipeOf 23 = .ok (.goto 12, 3) := by decide +kernel
theorem dX3_pipeOf_26 : decode cX3_pipeOf 26 = .ok (.aload_n 0, 1) := by decide +kernel
theorem dX3_pipeOf_27 : decode cX3_pipeOf 27 = .ok (.getfield 19, 3) := by decide +kernel
theorem dX3_pipeOf_30 : decode cX3_pipeOf 30 = .ok (.getfield 80, 3) := by decide +kernel
theorem dX3_pipeOf_33 : decode cX3_pipeOf 33 = .ok (.iload_n 1, 1) := by decide +kernel
theorem dX3_pipeOf_34 : decode cX3_pipeOf 34 = .ok (.iaload, 1) := by decide +kernel
theorem dX3_pipeOf_35 : decode cX3_pipeOf 35 = .ok (.imul, 1) := by decide +kernel
theorem dX3_pipeOf_36 : decode cX3_pipeOf 36 = .ok (.ireturn, 1) := by decide +kernel
set_option maxRecDepth 20000 in
theorem ggX3_wantOf_X3_pipeOf : GoodIn wsX3_wantOf wsX3_pipeOf := goodIn_r _ [10, 11, 12, 13, 14, 15, 16, 9, 17, 18, 19, 20, 21, 22, 23, 24, 25, 26, 27, 28, 29, 30, 31, 32, 33, 34] (by decide +kernel) (by decide +kernel)
set_option maxRecDepth 20000 in
theorem gX3_wantOf_X3_pipeOf : GoodIn wsX3_wantOf (wsV RX3 154 RX3 yX3_pipeOf wsX3_pipeOf) := goodIn_app (goodIn_of _ (by decide +kernel)) ggX3_wantOf_X3_pipeOf
theorem dX3_wantOf_0 : decode cX3_wantOf 0 = .ok (.iconst 0, 1) := by decide +kernel
theorem dX3_wantOf_1 : decode cX3_wantOf 1 = .ok (.aload_n 0, 1) := by decide +kernel
theorem dX3_wantOf_2 : decode cX3_wantOf 2 = .ok (.iload_n 1, 1) := by decide +kernel
theorem dX3_wantOf_3 : decode cX3_wantOf 3 = .ok (.iload_n 2, 1) := by decide +kernel
theorem dX3_wantOf_4 : decode cX3_wantOf 4 = .ok (.invokevirtual 154, 3) := by decide +kernel
theorem dX3_wantOf_7 : decode cX3_wantOf 7 = .ok (.sipush 1000, 3) := by decide +kernel
theorem dX3_wantOf_10 : decode cX3_wantOf 10 = .ok (.aload_n 0, 1) := by decide +kernel
theorem dX3_wantOf_11 : decode cX3_wantOf 11 = .ok (.getfield 25, 3) := by decide +kernel
theorem dX3_wantOf_14 : decode cX3_wantOf 14 = .ok (.iload_n 1, 1) := by decide +kernel
theorem dX3_wantOf_15 : decode cX3_wantOf 15 = .ok (.aaload, 1) := by decide +kernel
theorem dX3_wantOf_16 : decode cX3_wantOf 16 = .ok (.iload_n 2, 1) := by decide +kernel
theorem dX3_wantOf_17 : decode cX3_wantOf 17 = .ok (.iaload, 1) := by decide +kernel
theorem dX3_wantOf_18 : decode cX3_wantOf 18 = .ok (.imul, 1) := by decide +kernel
theorem dX3_wantOf_19 : decode cX3_wantOf 19 = .ok (.isub, 1) := by decide +kernel
theorem dX3_wantOf_20 : decode cX3_wantOf 20 = .ok (.invokestatic 184, 3) := by decide +kernel
theorem dX3_wantOf_23 : decode cX3_wantOf 23 = .ok (.ireturn, 1) := by decide +kernel
