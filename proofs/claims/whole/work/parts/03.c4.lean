theorem dX4_count_45 : decode cX4_count 45 = .ok (.getfield 89, 3) := by decide +kernel
theorem dX4_count_48 : decode cX4_count 48 = .ok (.ireturn, 1) := by decide +kernel
theorem dX4_count_49 : decode cX4_count 49 = .ok (.aload_n 0, 1) := by decide +kernel
theorem dX4_count_50 : decode cX4_count 50 = .ok (.getfield 23, 3) := by decide +kernel
theorem dX4_count_53 : decode cX4_count 53 = .ok (.ireturn, 1) := by decide +kernel
theorem dX4_count_54 : decode cX4_count 54 = .ok (.aload_n 0, 1) := by decide +kernel
theorem dX4_count_55 : decode cX4_count 55 = .ok (.getfield 116, 3) := by decide +kernel
theorem dX4_count_58 : decode cX4_count 58 = .ok (.ireturn, 1) := by decide +kernel
theorem dX4_count_59 : decode cX4_count 59 = .ok (.aload_n 0, 1) := by decide +kernel
theorem dX4_count_60 : decode cX4_count 60 = .ok (.getfield 110, 3) := by decide +kernel
theorem dX4_count_63 : decode cX4_count 63 = .ok (.ireturn, 1) := by decide +kernel
theorem dX4_count_64 : decode cX4_count 64 = .ok (.aload_n 0, 1) := by decide +kernel
theorem dX4_count_65 : decode cX4_count 65 = .ok (.getfield 113, 3) := by decide +kernel
theorem dX4_count_68 : decode cX4_count 68 = .ok (.ireturn, 1) := by decide +kernel
theorem dX4_count_69 : decode cX4_count 69 = .ok (.aload_n 0, 1) := by decide +kernel
theorem dX4_count_70 : decode cX4_count 70 = .ok (.iconst (-1), 1) := by decide +kernel
theorem dX4_count_71 : decode cX4_count 71 = .ok (.invokevirtual 155, 3) := by decide +kernel
theorem dX4_count_74 : decode cX4_count 74 = .ok (.ireturn, 1) := by decide +kernel
theorem dX4_count_75 : decode cX4_count 75 = .ok (.iconst 0, 1) := by decide +kernel
theorem dX4_count_76 : decode cX4_count 76 = .ok (.istore_n 3, 1) := by decide +kernel
theorem dX4_count_77 : decode cX4_count 77 = .ok (.iload_n 3, 1) := by decide +kernel
theorem dX4_count_78 : decode cX4_count 78 = .ok (.aload_n 0, 1) := by decide +kernel
theorem dX4_count_79 : decode cX4_count 79 = .ok (.getfield 23, 3) := by decide +kernel
theorem dX4_count_82 : decode cX4_count 82 = .ok (.if_icmp .ge 18, 3) := by decide +kernel
theorem dX4_count_85 : decode cX4_count 85 = .ok (.iload_n 2, 1) := by decide +kernel
theorem dX4_count_86 : decode cX4_count 86 = .ok (.aload_n 0, 1) := by decide +kernel
theorem dX4_count_87 : decode cX4_count 87 = .ok (.getfield 32, 3) := by decide +kernel
theorem dX4_count_90 : decode cX4_count 90 = .ok (.iload_n 3, 1) := by decide +kernel
theorem dX4_count_91 : decode cX4_count 91 = .ok (.iaload, 1) := by decide +kernel
theorem dX4_count_92 : decode cX4_count 92 = .ok (.iadd, 1) := by decide +kernel
theorem dX4_count_93 : decode cX4_count 93 = .ok (.istore_n 2, 1) := by decide +kernel
theorem dX4_count_94 : decode cX4_count 94 = .ok (.iinc 3 1, 3) := by decide +kernel
theorem dX4_count_97 : decode cX4_count 97 = .ok (.goto (-20), 3) := by decide +kernel
theorem dX4_count_100 : decode cX4_count 100 = .ok (.iload_n 2, 1) := by decide +kernel
theorem dX4_count_101 : decode cX4_count 101 = .ok (.ireturn, 1) := by decide +kernel
theorem dX4_count_102 : decode cX4_count 102 = .ok (.iconst (-1), 1) := by decide +kernel
theorem dX4_count_103 : decode cX4_count 103 = .ok (.ireturn, 1) := by decide +kernel
