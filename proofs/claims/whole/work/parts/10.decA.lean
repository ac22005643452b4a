theorem dX0_find_0 : decode cX0_find 0 = .ok (.aload_n 0, 1) := by decide +kernel
theorem dX0_find_1 : decode cX0_find 1 = .ok (.aload_n 1, 1) := by decide +kernel
theorem dX0_find_2 : decode cX0_find 2 = .ok (.iload_n 2, 1) := by decide +kernel
theorem dX0_find_3 : decode cX0_find 3 = .ok (.invokevirtual 28, 3) := by decide +kernel
theorem dX0_find_6 : decode cX0_find 6 = .ok (.aload_n 0, 1) := by decide +kernel
theorem dX0_find_7 : decode cX0_find 7 = .ok (.aload_n 1, 1) := by decide +kernel
theorem dX0_find_8 : decode cX0_find 8 = .ok (.iload_n 2, 1) := by decide +kernel
theorem dX0_find_9 : decode cX0_find 9 = .ok (.invokevirtual 32, 3) := by decide +kernel
theorem dX0_find_12 : decode cX0_find 12 = .ok (.aload_n 1, 1) := by decide +kernel
theorem dX0_find_13 : decode cX0_find 13 = .ok (.getfield 35, 3) := by decide +kernel
theorem dX0_find_16 : decode cX0_find 16 = .ok (.iload_n 2, 1) := by decide +kernel
theorem dX0_find_17 : decode cX0_find 17 = .ok (.iaload, 1) := by decide +kernel
theorem dX0_find_18 : decode cX0_find 18 = .ok (.istore 4, 2) := by decide +kernel
theorem dX0_find_20 : decode cX0_find 20 = .ok (.aload_n 0, 1) := by decide +kernel
theorem dX0_find_21 : decode cX0_find 21 = .ok (.iconst 0, 1) := by decide +kernel
theorem dX0_find_22 : decode cX0_find 22 = .ok (.putfield 21, 3) := by decide +kernel
theorem dX0_find_25 : decode cX0_find 25 = .ok (.iconst 0, 1) := by decide +kernel
theorem dX0_find_26 : decode cX0_find 26 = .ok (.istore 5, 2) := by decide +kernel
theorem dX0_find_28 : decode cX0_find 28 = .ok (.iload 5, 2) := by decide +kernel
theorem dX0_find_30 : decode cX0_find 30 = .ok (.iload 4, 2) := by decide +kernel
theorem dX0_find_32 : decode cX0_find 32 = .ok (.if_icmp .gt 45, 3) := by decide +kernel
theorem dX0_find_35 : decode cX0_find 35 = .ok (.aload_n 0, 1) := by decide +kernel
theorem dX0_find_36 : decode cX0_find 36 = .ok (.dup, 1) := by decide +kernel
theorem dX0_find_37 : decode cX0_find 37 = .ok (.getfield 21, 3) := by decide +kernel
theorem dX0_find_40 : decode cX0_find 40 = .ok (.aload_n 0, 1) := by decide +kernel
theorem dX0_find_41 : decode cX0_find 41 = .ok (.getfield 18, 3) := by decide +kernel
theorem dX0_find_44 : decode cX0_find 44 = .ok (.iload 5, 2) := by decide +kernel
theorem dX0_find_46 : decode cX0_find 46 = .ok (.iaload, 1) := by decide +kernel
theorem dX0_find_47 : decode cX0_find 47 = .ok (.iload_n 3, 1) := by decide +kernel
theorem dX0_find_48 : decode cX0_find 48 = .ok (.iload 5, 2) := by decide +kernel
theorem dX0_find_50 : decode cX0_find 50 = .ok (.invokestatic 40, 3) := by decide +kernel
theorem dX0_find_53 : decode cX0_find 53 = .ok (.imul, 1) := by decide +kernel
theorem dX0_find_54 : decode cX0_find 54 = .ok (.bipush 10, 2) := by decide +kernel
theorem dX0_find_56 : decode cX0_find 56 = .ok (.iload_n 3, 1) := by decide +kernel
theorem dX0_find_57 : decode cX0_find 57 = .ok (.isub, 1) := by decide +kernel
theorem dX0_find_58 : decode cX0_find 58 = .ok (.iload 4, 2) := by decide +kernel
theorem dX0_find_60 : decode cX0_find 60 = .ok (.iload 5, 2) := by decide +kernel
theorem dX0_find_62 : decode cX0_find 62 = .ok (.isub, 1) := by decide +kernel
theorem dX0_find_63 : decode cX0_find 63 = .ok (.invokestatic 40, 3) := by decide +kernel
theorem dX0_find_66 : decode cX0_find 66 = .ok (.imul, 1) := by decide +kernel
theorem dX0_find_67 : decode cX0_find 67 = .ok (.iadd, 1) := by decide +kernel
theorem dX0_find_68 : decode cX0_find 68 = .ok (.putfield 21, 3) := by decide +kernel
theorem dX0_find_71 : decode cX0_find 71 = .ok (.iinc 5 1, 3) := by decide +kernel
theorem dX0_find_74 : decode cX0_find 74 = .ok (.goto (-46), 3) := by decide +kernel
theorem dX0_find_77 : decode cX0_find 77 = .ok (.aload_n 0, 1) := by decide +kernel
theorem dX0_find_78 : decode cX0_find 78 = .ok (.bipush 10, 2) := by decide +kernel
theorem dX0_find_80 : decode cX0_find 80 = .ok (.iload 4, 2) := by decide +kernel
theorem dX0_find_82 : decode cX0_find 82 = .ok (.invokestatic 40, 3) := by decide +kernel
theorem dX0_find_85 : decode cX0_find 85 = .ok (.putfield 25, 3) := by decide +kernel
theorem dX0_find_88 : decode cX0_find 88 = .ok (.aload_n 0, 1) := by decide +kernel
theorem dX0_find_89 : decode cX0_find 89 = .ok (.iconst 2, 1) := by decide +kernel
theorem dX0_find_90 : decode cX0_find 90 = .ok (.iload 4, 2) := by decide +kernel
theorem dX0_find_92 : decode cX0_find 92 = .ok (.invokevirtual 44, 3) := by decide +kernel
theorem dX0_find_95 : decode cX0_find 95 = .ok (.aload_n 0, 1) := by decide +kernel
theorem dX0_find_96 : decode cX0_find 96 = .ok (.iconst 5, 1) := by decide +kernel
theorem dX0_find_97 : decode cX0_find 97 = .ok (.iload 4, 2) := by decide +kernel
theorem dX0_find_99 : decode cX0_find 99 = .ok (.invokevirtual 44, 3) := by decide +kernel
theorem dX0_find_102 : decode cX0_find 102 = .ok (.return_, 1) := by decide +kernel
theorem dX0_measure_0 : decode cX0_measure 0 = .ok (.iconst 0, 1) := by decide +kernel
theorem dX0_measure_1 : decode cX0_measure 1 = .ok (.istore_n 3, 1) := by decide +kernel
theorem dX0_measure_2 : decode cX0_measure 2 = .ok (.iload_n 3, 1) := by decide +kernel
theorem dX0_measure_3 : decode cX0_measure 3 = .ok (.aload_n 1, 1) := by decide +kernel
theorem dX0_measure_4 : decode cX0_measure 4 = .ok (.getfield 35, 3) := by decide +kernel
theorem dX0_measure_7 : decode cX0_measure 7 = .ok (.iload_n 2, 1) := by decide +kernel
theorem dX0_measure_8 : decode cX0_measure 8 = .ok (.iaload, 1) := by decide +kernel
theorem dX0_measure_9 : decode cX0_measure 9 = .ok (.if_icmp .ge 141, 3) := by decide +kernel
theorem dX0_measure_12 : decode cX0_measure 12 = .ok (.getstatic 48, 3) := by decide +kernel
theorem dX0_measure_15 : decode cX0_measure 15 = .ok (.aload_n 1, 1) := by decide +kernel
theorem dX0_measure_16 : decode cX0_measure 16 = .ok (.iload_n 2, 1) := by decide +kernel
theorem dX0_measure_17 : decode cX0_measure 17 = .ok (.iload_n 3, 1) := by decide +kernel
theorem dX0_measure_18 : decode cX0_measure 18 = .ok (.invokevirtual 51, 3) := by decide +kernel
theorem dX0_measure_21 : decode cX0_measure 21 = .ok (.iaload, 1) := by decide +kernel
theorem dX0_measure_22 : decode cX0_measure 22 = .ok (.istore 4, 2) := by decide +kernel
theorem dX0_measure_24 : decode cX0_measure 24 = .ok (.getstatic 54, 3) := by decide +kernel
theorem dX0_measure_27 : decode cX0_measure 27 = .ok (.aload_n 1, 1) := by decide +kernel
theorem dX0_measure_28 : decode cX0_measure 28 = .ok (.iload_n 2, 1) := by decide +kernel
theorem dX0_measure_29 : decode cX0_measure 29 = .ok (.iload_n 3, 1) := by decide +kernel
theorem dX0_measure_30 : decode cX0_measure 30 = .ok (.invokevirtual 51, 3) := by decide +kernel
theorem dX0_measure_33 : decode cX0_measure 33 = .ok (.iaload, 1) := by decide +kernel
theorem dX0_measure_34 : decode cX0_measure 34 = .ok (.istore 5, 2) := by decide +kernel
theorem dX0_measure_36 : decode cX0_measure 36 = .ok (.iconst 0, 1) := by decide +kernel
theorem dX0_measure_37 : decode cX0_measure 37 = .ok (.istore 6, 2) := by decide +kernel
theorem dX0_measure_39 : decode cX0_measure 39 = .ok (.iload 6, 2) := by decide +kernel
theorem dX0_measure_41 : decode cX0_measure 41 = .ok (.aload_n 1, 1) := by decide +kernel
theorem dX0_measure_42 : decode cX0_measure 42 = .ok (.getfield 57, 3) := by decide +kernel
theorem dX0_measure_45 : decode cX0_measure 45 = .ok (.if_icmp .ge 99, 3) := by decide +kernel
theorem dX0_measure_48 : decode cX0_measure 48 = .ok (.aload_n 1, 1) := by decide +kernel
theorem dX0_measure_49 : decode cX0_measure 49 = .ok (.getfield 35, 3) := by decide +kernel
theorem dX0_measure_52 : decode cX0_measure 52 = .ok (.iload 6, 2) := by decide +kernel
theorem dX0_measure_54 : decode cX0_measure 54 = .ok (.iaload, 1) := by decide +kernel
theorem dX0_measure_55 : decode cX0_measure 55 = .ok (.aload_n 1, 1) := by decide +kernel
theorem dX0_measure_56 : decode cX0_measure 56 = .ok (.getfield 35, 3) := by decide +kernel
theorem dX0_measure_59 : decode cX0_measure 59 = .ok (.iload_n 2, 1) := by decide +kernel
theorem dX0_measure_60 : decode cX0_measure 60 = .ok (.iaload, 1) := by decide +kernel
theorem dX0_measure_61 : decode cX0_measure 61 = .ok (.if_icmp .ne 77, 3) := by decide +kernel
theorem dX0_measure_64 : decode cX0_measure 64 = .ok (.aload_n 1, 1) := by decide +kernel
theorem dX0_measure_65 : decode cX0_measure 65 = .ok (.iload 6, 2) := by decide +kernel
theorem dX0_measure_67 : decode cX0_measure 67 = .ok (.iload_n 3, 1) := by decide +kernel
theorem dX0_measure_68 : decode cX0_measure 68 = .ok (.invokevirtual 51, 3) := by decide +kernel
theorem dX0_measure_71 : decode cX0_measure 71 = .ok (.istore 7, 2) := by decide +kernel
theorem dX0_measure_73 : decode cX0_measure 73 = .ok (.aload_n 0, 1) := by decide +kernel
theorem dX0_measure_74 : decode cX0_measure 74 = .ok (.getfield 9, 3) := by decide +kernel
theorem dX0_measure_77 : decode cX0_measure 77 = .ok (.iload 6, 2) := by decide +kernel
theorem dX0_measure_79 : decode cX0_measure 79 = .ok (.bipush 6, 2) := by decide +kernel
theorem dX0_measure_81 : decode cX0_measure 81 = .ok (.imul, 1) := by decide +kernel
theorem dX0_measure_82 : decode cX0_measure 82 = .ok (.iload_n 3, 1) := by decide +kernel
theorem dX0_measure_83 : decode cX0_measure 83 = .ok (.iadd, 1) := by decide +kernel
theorem dX0_measure_84 : decode cX0_measure 84 = .ok (.iload 4, 2) := by decide +kernel
theorem dX0_measure_86 : decode cX0_measure 86 = .ok (.iload 5, 2) := by decide +kernel
theorem dX0_measure_88 : decode cX0_measure 88 = .ok (.getstatic 48, 3) := by decide +kernel
theorem dX0_measure_91 : decode cX0_measure 91 = .ok (.iload 7, 2) := by decide +kernel
theorem dX0_measure_93 : decode cX0_measure 93 = .ok (.iaload, 1) := by decide +kernel
theorem dX0_measure_94 : decode cX0_measure 94 = .ok (.getstatic 54, 3) := by decide +kernel
theorem dX0_measure_97 : decode cX0_measure 97 = .ok (.iload 7, 2) := by decide +kernel
theorem dX0_measure_99 : decode cX0_measure 99 = .ok (.iaload, 1) := by decide +kernel
theorem dX0_measure_100 : decode cX0_measure 100 = .ok (.invokestatic 60, 3) := by decide +kernel
theorem dX0_measure_103 : decode cX0_measure 103 = .ok (.iastore, 1) := by decide +kernel
theorem dX0_measure_104 : decode cX0_measure 104 = .ok (.aload_n 0, 1) := by decide +kernel
theorem dX0_measure_105 : decode cX0_measure 105 = .ok (.getfield 15, 3) := by decide +kernel
theorem dX0_measure_108 : decode cX0_measure 108 = .ok (.iload 6, 2) := by decide +kernel
theorem dX0_measure_110 : decode cX0_measure 110 = .ok (.bipush 6, 2) := by decide +kernel
theorem dX0_measure_112 : decode cX0_measure 112 = .ok (.imul, 1) := by decide +kernel
theorem dX0_measure_113 : decode cX0_measure 113 = .ok (.iload_n 3, 1) := by decide +kernel
theorem dX0_measure_114 : decode cX0_measure 114 = .ok (.iadd, 1) := by decide +kernel
theorem dX0_measure_115 : decode cX0_measure 115 = .ok (.iload 4, 2) := by decide +kernel
theorem dX0_measure_117 : decode cX0_measure 117 = .ok (.iload 5, 2) := by decide +kernel
theorem dX0_measure_119 : decode cX0_measure 119 = .ok (.invokestatic 64, 3) := by decide +kernel
theorem dX0_measure_122 : decode cX0_measure 122 = .ok (.getstatic 48, 3) := by decide +kernel
theorem dX0_measure_125 : decode cX0_measure 125 = .ok (.iload 7, 2) := by decide +kernel
theorem dX0_measure_127 : decode cX0_measure 127 = .ok (.iaload, 1) := by decide +kernel
theorem dX0_measure_128 : decode cX0_measure 128 = .ok (.getstatic 54, 3) := by decide +kernel
theorem dX0_measure_131 : decode cX0_measure 131 = .ok (.iload 7, 2) := by decide +kernel
theorem dX0_measure_133 : decode cX0_measure 133 = .ok (.iaload, 1) := by decide +kernel
theorem dX0_measure_134 : decode cX0_measure 134 = .ok (.invokestatic 60, 3) := by decide +kernel
theorem dX0_measure_137 : decode cX0_measure 137 = .ok (.iastore, 1) := by decide +kernel
theorem dX0_measure_138 : decode cX0_measure 138 = .ok (.iinc 6 1, 3) := by decide +kernel
theorem dX0_measure_141 : decode cX0_measure 141 = .ok (.goto (-102), 3) := by decide +kernel
theorem dX0_measure_144 : decode cX0_measure 144 = .ok (.iinc 3 1, 3) := by decide +kernel
theorem dX0_measure_147 : decode cX0_measure 147 = .ok (.goto (-145), 3) := by decide +kernel
theorem dX0_measure_150 : decode cX0_measure 150 = .ok (.return_, 1) := by decide +kernel
theorem dX0_countTold_0 : decode cX0_countTold 0 = .ok (.aload_n 0, 1) := by decide +kernel
theorem dX0_countTold_1 : decode cX0_countTold 1 = .ok (.getfield 18, 3) := by decide +kernel
theorem dX0_countTold_4 : decode cX0_countTold 4 = .ok (.iconst 0, 1) := by decide +kernel
theorem dX0_countTold_5 : decode cX0_countTold 5 = .ok (.invokestatic 68, 3) := by decide +kernel
theorem dX0_countTold_8 : decode cX0_countTold 8 = .ok (.iconst 0, 1) := by decide +kernel
theorem dX0_countTold_9 : decode cX0_countTold 9 = .ok (.istore_n 3, 1) := by decide +kernel
theorem dX0_countTold_10 : decode cX0_countTold 10 = .ok (.iload_n 3, 1) := by decide +kernel
theorem dX0_countTold_11 : decode cX0_countTold 11 = .ok (.iconst 1, 1) := by decide +kernel
theorem dX0_countTold_12 : decode cX0_countTold 12 = .ok (.aload_n 1, 1) := by decide +kernel
theorem dX0_countTold_13 : decode cX0_countTold 13 = .ok (.getfield 35, 3) := by decide +kernel
theorem dX0_countTold_16 : decode cX0_countTold 16 = .ok (.iload_n 2, 1) := by decide +kernel
theorem dX0_countTold_17 : decode cX0_countTold 17 = .ok (.iaload, 1) := by decide +kernel
theorem dX0_countTold_18 : decode cX0_countTold 18 = .ok (.ishl, 1) := by decide +kernel
theorem dX0_countTold_19 : decode cX0_countTold 19 = .ok (.if_icmp .ge 32, 3) := by decide +kernel
theorem dX0_countTold_22 : decode cX0_countTold 22 = .ok (.aload_n 0, 1) := by decide +kernel
theorem dX0_countTold_23 : decode cX0_countTold 23 = .ok (.aload_n 1, 1) := by decide +kernel
theorem dX0_countTold_24 : decode cX0_countTold 24 = .ok (.iload_n 2, 1) := by decide +kernel
theorem dX0_countTold_25 : decode cX0_countTold 25 = .ok (.iload_n 3, 1) := by decide +kernel
theorem dX0_countTold_26 : decode cX0_countTold 26 = .ok (.invokevirtual 74, 3) := by decide +kernel
theorem dX0_countTold_29 : decode cX0_countTold 29 = .ok (.ifCond .eq 16, 3) := by decide +kernel
theorem dX0_countTold_32 : decode cX0_countTold 32 = .ok (.aload_n 0, 1) := by decide +kernel
theorem dX0_countTold_33 : decode cX0_countTold 33 = .ok (.getfield 18, 3) := by decide +kernel
theorem dX0_countTold_36 : decode cX0_countTold 36 = .ok (.iload_n 3, 1) := by decide +kernel
theorem dX0_countTold_37 : decode cX0_countTold 37 = .ok (.invokestatic 78, 3) := by decide +kernel
theorem dX0_countTold_40 : decode cX0_countTold 40 = .ok (.dup2, 1) := by decide +kernel
theorem dX0_countTold_41 : decode cX0_countTold 41 = .ok (.iaload, 1) := by decide +kernel
theorem dX0_countTold_42 : decode cX0_countTold 42 = .ok (.iconst 1, 1) := by decide +kernel
theorem dX0_countTold_43 : decode cX0_countTold 43 = .ok (.iadd, 1) := by decide +kernel
theorem dX0_countTold_44 : decode cX0_countTold 44 = .ok (.iastore, 1) := by decide +kernel
theorem dX0_countTold_45 : decode cX0_countTold 45 = .ok (.iinc 3 1, 3) := by decide +kernel
theorem dX0_countTold_48 : decode cX0_countTold 48 = .ok (.goto (-38), 3) := by decide +kernel
theorem dX0_countTold_51 : decode cX0_countTold 51 = .ok (.return_, 1) := by decide +kernel
theorem dX0_isTold_0 : decode cX0_isTold 0 = .ok (.aload_n 1, 1) := by decide +kernel
theorem dX0_isTold_1 : decode cX0_isTold 1 = .ok (.getfield 35, 3) := by decide +kernel
theorem dX0_isTold_4 : decode cX0_isTold 4 = .ok (.iload_n 2, 1) := by decide +kernel
theorem dX0_isTold_5 : decode cX0_isTold 5 = .ok (.iaload, 1) := by decide +kernel
theorem dX0_isTold_6 : decode cX0_isTold 6 = .ok (.istore 4, 2) := by decide +kernel
theorem dX0_isTold_8 : decode cX0_isTold 8 = .ok (.aload_n 0, 1) := by decide +kernel
theorem dX0_isTold_9 : decode cX0_isTold 9 = .ok (.iload_n 2, 1) := by decide +kernel
theorem dX0_isTold_10 : decode cX0_isTold 10 = .ok (.iload 4, 2) := by decide +kernel
theorem dX0_isTold_12 : decode cX0_isTold 12 = .ok (.iload_n 3, 1) := by decide +kernel
theorem dX0_isTold_13 : decode cX0_isTold 13 = .ok (.invokevirtual 83, 3) := by decide +kernel
theorem dX0_isTold_16 : decode cX0_isTold 16 = .ok (.istore 5, 2) := by decide +kernel
theorem dX0_isTold_18 : decode cX0_isTold 18 = .ok (.iconst 0, 1) := by decide +kernel
theorem dX0_isTold_19 : decode cX0_isTold 19 = .ok (.istore 6, 2) := by decide +kernel
theorem dX0_isTold_21 : decode cX0_isTold 21 = .ok (.iload 6, 2) := by decide +kernel
theorem dX0_isTold_23 : decode cX0_isTold 23 = .ok (.aload_n 1, 1) := by decide +kernel
theorem dX0_isTold_24 : decode cX0_isTold 24 = .ok (.getfield 57, 3) := by decide +kernel
theorem dX0_isTold_27 : decode cX0_isTold 27 = .ok (.if_icmp .ge 43, 3) := by decide +kernel
theorem dX0_isTold_30 : decode cX0_isTold 30 = .ok (.iload 6, 2) := by decide +kernel
theorem dX0_isTold_32 : decode cX0_isTold 32 = .ok (.iload_n 2, 1) := by decide +kernel
theorem dX0_isTold_33 : decode cX0_isTold 33 = .ok (.if_icmp .eq 31, 3) := by decide +kernel
theorem dX0_isTold_36 : decode cX0_isTold 36 = .ok (.aload_n 1, 1) := by decide +kernel
theorem dX0_isTold_37 : decode cX0_isTold 37 = .ok (.getfield 35, 3) := by decide +kernel
theorem dX0_isTold_40 : decode cX0_isTold 40 = .ok (.iload 6, 2) := by decide +kernel
theorem dX0_isTold_42 : decode cX0_isTold 42 = .ok (.iaload, 1) := by decide +kernel
theorem dX0_isTold_43 : decode cX0_isTold 43 = .ok (.iload 4, 2) := by decide +kernel
theorem dX0_isTold_45 : decode cX0_isTold 45 = .ok (.if_icmp .ne 19, 3) := by decide +kernel
theorem dX0_isTold_48 : decode cX0_isTold 48 = .ok (.aload_n 0, 1) := by decide +kernel
theorem dX0_isTold_49 : decode cX0_isTold 49 = .ok (.iload 6, 2) := by decide +kernel
theorem dX0_isTold_51 : decode cX0_isTold 51 = .ok (.iload 4, 2) := by decide +kernel
theorem dX0_isTold_53 : decode cX0_isTold 53 = .ok (.iload_n 3, 1) := by decide +kernel
theorem dX0_isTold_54 : decode cX0_isTold 54 = .ok (.invokevirtual 83, 3) := by decide +kernel
theorem dX0_isTold_57 : decode cX0_isTold 57 = .ok (.iload 5, 2) := by decide +kernel
theorem dX0_isTold_59 : decode cX0_isTold 59 = .ok (.if_icmp .gt 5, 3) := by decide +kernel
theorem dX0_isTold_62 : decode cX0_isTold 62 = .ok (.iconst 0, 1) := by decide +kernel
theorem dX0_isTold_63 : decode cX0_isTold 63 = .ok (.ireturn, 1) := by decide +kernel
theorem dX0_isTold_64 : decode cX0_isTold 64 = .ok (.iinc 6 1, 3) := by decide +kernel
theorem dX0_isTold_67 : decode cX0_isTold 67 = .ok (.goto (-46), 3) := by decide +kernel
theorem dX0_isTold_70 : decode cX0_isTold 70 = .ok (.iconst 1, 1) := by decide +kernel
theorem dX0_isTold_71 : decode cX0_isTold 71 = .ok (.ireturn, 1) := by decide +kernel
theorem dX0_distanceOf_0 : decode cX0_distanceOf 0 = .ok (.iconst 0, 1) := by decide +kernel
theorem dX0_distanceOf_1 : decode cX0_distanceOf 1 = .ok (.istore 4, 2) := by decide +kernel
theorem dX0_distanceOf_3 : decode cX0_distanceOf 3 = .ok (.iconst 0, 1) := by decide +kernel
theorem dX0_distanceOf_4 : decode cX0_distanceOf 4 = .ok (.istore 5, 2) := by decide +kernel
theorem dX0_distanceOf_6 : decode cX0_distanceOf 6 = .ok (.iload 5, 2) := by decide +kernel
theorem dX0_distanceOf_8 : decode cX0_distanceOf 8 = .ok (.iload_n 2, 1) := by decide +kernel
theorem dX0_distanceOf_9 : decode cX0_distanceOf 9 = .ok (.if_icmp .ge 49, 3) := by decide +kernel
theorem dX0_distanceOf_12 : decode cX0_distanceOf 12 = .ok (.iload_n 1, 1) := by decide +kernel
theorem dX0_distanceOf_13 : decode cX0_distanceOf 13 = .ok (.bipush 6, 2) := by decide +kernel
theorem dX0_distanceOf_15 : decode cX0_distanceOf 15 = .ok (.imul, 1) := by decide +kernel
theorem dX0_distanceOf_16 : decode cX0_distanceOf 16 = .ok (.iload 5, 2) := by decide +kernel
theorem dX0_distanceOf_18 : decode cX0_distanceOf 18 = .ok (.iadd, 1) := by decide +kernel
theorem dX0_distanceOf_19 : decode cX0_distanceOf 19 = .ok (.istore 6, 2) := by decide +kernel
theorem dX0_distanceOf_21 : decode cX0_distanceOf 21 = .ok (.iload 4, 2) := by decide +kernel
theorem dX0_distanceOf_23 : decode cX0_distanceOf 23 = .ok (.iload_n 3, 1) := by decide +kernel
theorem dX0_distanceOf_24 : decode cX0_distanceOf 24 = .ok (.iload 5, 2) := by decide +kernel
theorem dX0_distanceOf_26 : decode cX0_distanceOf 26 = .ok (.ishr, 1) := by decide +kernel
theorem dX0_distanceOf_27 : decode cX0_distanceOf 27 = .ok (.iconst 1, 1) := by decide +kernel
theorem dX0_distanceOf_28 : decode cX0_distanceOf 28 = .ok (.iand, 1) := by decide +kernel
theorem dX0_distanceOf_29 : decode cX0_distanceOf 29 = .ok (.ifCond .ne 13, 3) := by decide +kernel
theorem dX0_distanceOf_32 : decode cX0_distanceOf 32 = .ok (.aload_n 0, 1) := by decide +kernel
theorem dX0_distanceOf_33 : decode cX0_distanceOf 33 = .ok (.getfield 9, 3) := by decide +kernel
theorem dX0_distanceOf_36 : decode cX0_distanceOf 36 = .ok (.iload 6, 2) := by decide +kernel
theorem dX0_distanceOf_38 : decode cX0_distanceOf 38 = .ok (.iaload, 1) := by decide +kernel
theorem dX0_distanceOf_39 : decode cX0_distanceOf 39 = .ok (.goto 10, 3) := by decide +kernel
theorem dX0_distanceOf_42 : decode cX0_distanceOf 42 = .ok (.aload_n 0, 1) := by decide +kernel
theorem dX0_distanceOf_43 : decode cX0_distanceOf 43 = .ok (.getfield 15, 3) := by decide +kernel
theorem dX0_distanceOf_46 : decode cX0_distanceOf 46 = .ok (.iload 6, 2) := by decide +kernel
theorem dX0_distanceOf_48 : decode cX0_distanceOf 48 = .ok (.iaload, 1) := by decide +kernel
theorem dX0_distanceOf_49 : decode cX0_distanceOf 49 = .ok (.iadd, 1) := by decide +kernel
theorem dX0_distanceOf_50 : decode cX0_distanceOf 50 = .ok (.istore 4, 2) := by decide +kernel
theorem dX0_distanceOf_52 : decode cX0_distanceOf 52 = .ok (.iinc 5 1, 3) := by decide +kernel
theorem dX0_distanceOf_55 : decode cX0_distanceOf 55 = .ok (.goto (-49), 3) := by decide +kernel
theorem dX0_distanceOf_58 : decode cX0_distanceOf 58 = .ok (.iload 4, 2) := by decide +kernel
theorem dX0_distanceOf_60 : decode cX0_distanceOf 60 = .ok (.ireturn, 1) := by decide +kernel
theorem dX0_reduceBy_0 : decode cX0_reduceBy 0 = .ok (.iconst 0, 1) := by decide +kernel
theorem dX0_reduceBy_1 : decode cX0_reduceBy 1 = .ok (.istore_n 3, 1) := by decide +kernel
theorem dX0_reduceBy_2 : decode cX0_reduceBy 2 = .ok (.iload_n 3, 1) := by decide +kernel
theorem dX0_reduceBy_3 : decode cX0_reduceBy 3 = .ok (.iload_n 2, 1) := by decide +kernel
theorem dX0_reduceBy_4 : decode cX0_reduceBy 4 = .ok (.if_icmp .ge 38, 3) := by decide +kernel
theorem dX0_reduceBy_7 : decode cX0_reduceBy 7 = .ok (.aload_n 0, 1) := by decide +kernel
theorem dX0_reduceBy_8 : decode cX0_reduceBy 8 = .ok (.getfield 21, 3) := by decide +kernel
theorem dX0_reduceBy_11 : decode cX0_reduceBy 11 = .ok (.iload_n 1, 1) := by decide +kernel
theorem dX0_reduceBy_12 : decode cX0_reduceBy 12 = .ok (.irem, 1) := by decide +kernel
theorem dX0_reduceBy_13 : decode cX0_reduceBy 13 = .ok (.ifCond .ne 29, 3) := by decide +kernel
theorem dX0_reduceBy_16 : decode cX0_reduceBy 16 = .ok (.aload_n 0, 1) := by decide +kernel
theorem dX0_reduceBy_17 : decode cX0_reduceBy 17 = .ok (.dup, 1) := by decide +kernel
theorem dX0_reduceBy_18 : decode cX0_reduceBy 18 = .ok (.getfield 21, 3) := by decide +kernel
theorem dX0_reduceBy_21 : decode cX0_reduceBy 21 = .ok (.iload_n 1, 1) := by decide +kernel
theorem dX0_reduceBy_22 : decode cX0_reduceBy 22 = .ok (.idiv, 1) := by decide +kernel
theorem dX0_reduceBy_23 : decode cX0_reduceBy 23 = .ok (.putfield 21, 3) := by decide +kernel
theorem dX0_reduceBy_26 : decode cX0_reduceBy 26 = .ok (.aload_n 0, 1) := by decide +kernel
theorem dX0_reduceBy_27 : decode cX0_reduceBy 27 = .ok (.dup, 1) := by decide +kernel
theorem dX0_reduceBy_28 : decode cX0_reduceBy 28 = .ok (.getfield 25, 3) := by decide +kernel
theorem dX0_reduceBy_31 : decode cX0_reduceBy 31 = .ok (.iload_n 1, 1) := by decide +kernel
theorem dX0_reduceBy_32 : decode cX0_reduceBy 32 = .ok (.idiv, 1) := by decide +kernel
theorem dX0_reduceBy_33 : decode cX0_reduceBy 33 = .ok (.putfield 25, 3) := by decide +kernel
theorem dX0_reduceBy_36 : decode cX0_reduceBy 36 = .ok (.iinc 3 1, 3) := by decide +kernel
theorem dX0_reduceBy_39 : decode cX0_reduceBy 39 = .ok (.goto (-37), 3) := by decide +kernel
theorem dX0_reduceBy_42 : decode cX0_reduceBy 42 = .ok (.return_, 1) := by decide +kernel
theorem dX0_power_0 : decode cX0_power 0 = .ok (.iconst 1, 1) := by decide +kernel
theorem dX0_power_1 : decode cX0_power 1 = .ok (.istore_n 2, 1) := by decide +kernel
theorem dX0_power_2 : decode cX0_power 2 = .ok (.iconst 0, 1) := by decide +kernel
theorem dX0_power_3 : decode cX0_power 3 = .ok (.istore_n 3, 1) := by decide +kernel
theorem dX0_power_4 : decode cX0_power 4 = .ok (.iload_n 3, 1) := by decide +kernel
theorem dX0_power_5 : decode cX0_power 5 = .ok (.iload_n 1, 1) := by decide +kernel
theorem dX0_power_6 : decode cX0_power 6 = .ok (.if_icmp .ge 13, 3) := by decide +kernel
theorem dX0_power_9 : decode cX0_power 9 = .ok (.iload_n 2, 1) := by decide +kernel
theorem dX0_power_10 : decode cX0_power 10 = .ok (.iload_n 0, 1) := by decide +kernel
theorem dX0_power_11 : decode cX0_power 11 = .ok (.imul, 1) := by decide +kernel
theorem dX0_power_12 : decode cX0_power 12 = .ok (.istore_n 2, 1) := by decide +kernel
theorem dX0_power_13 : decode cX0_power 13 = .ok (.iinc 3 1, 3) := by decide +kernel
theorem dX0_power_16 : decode cX0_power 16 = .ok (.goto (-12), 3) := by decide +kernel
theorem dX0_power_19 : decode cX0_power 19 = .ok (.iload_n 2, 1) := by decide +kernel
theorem dX0_power_20 : decode cX0_power 20 = .ok (.ireturn, 1) := by decide +kernel
theorem dX1_begin_0 : decode cX1_begin 0 = .ok (.aload_n 0, 1) := by decide +kernel
theorem dX1_begin_1 : decode cX1_begin 1 = .ok (.iconst 1, 1) := by decide +kernel
theorem dX1_begin_2 : decode cX1_begin 2 = .ok (.putfield 9, 3) := by decide +kernel
theorem dX1_begin_5 : decode cX1_begin 5 = .ok (.aload_n 0, 1) := by decide +kernel
theorem dX1_begin_6 : decode cX1_begin 6 = .ok (.iload_n 1, 1) := by decide +kernel
theorem dX1_begin_7 : decode cX1_begin 7 = .ok (.putfield 15, 3) := by decide +kernel
theorem dX1_begin_10 : decode cX1_begin 10 = .ok (.aload_n 0, 1) := by decide +kernel
theorem dX1_begin_11 : decode cX1_begin 11 = .ok (.iload_n 2, 1) := by decide +kernel
theorem dX1_begin_12 : decode cX1_begin 12 = .ok (.putfield 19, 3) := by decide +kernel
theorem dX1_begin_15 : decode cX1_begin 15 = .ok (.aload_n 0, 1) := by decide +kernel
theorem dX1_begin_16 : decode cX1_begin 16 = .ok (.getfield 22, 3) := by decide +kernel
theorem dX1_begin_19 : decode cX1_begin 19 = .ok (.lconst 0, 1) := by decide +kernel
theorem dX1_begin_20 : decode cX1_begin 20 = .ok (.invokestatic 26, 3) := by decide +kernel
theorem dX1_begin_23 : decode cX1_begin 23 = .ok (.return_, 1) := by decide +kernel
theorem dX1_has_0 : decode cX1_has 0 = .ok (.iload_n 2, 1) := by decide +kernel
theorem dX1_has_1 : decode cX1_has 1 = .ok (.ifCond .lt 29, 3) := by decide +kernel
theorem dX1_has_4 : decode cX1_has 4 = .ok (.iload_n 1, 1) := by decide +kernel
theorem dX1_has_5 : decode cX1_has 5 = .ok (.ifCond .lt 25, 3) := by decide +kernel
theorem dX1_has_8 : decode cX1_has 8 = .ok (.iload_n 1, 1) := by decide +kernel
theorem dX1_has_9 : decode cX1_has 9 = .ok (.aload_n 0, 1) := by decide +kernel
theorem dX1_has_10 : decode cX1_has 10 = .ok (.getfield 19, 3) := by decide +kernel
theorem dX1_has_13 : decode cX1_has 13 = .ok (.if_icmp .gt 17, 3) := by decide +kernel
theorem dX1_has_16 : decode cX1_has 16 = .ok (.iload_n 2, 1) := by decide +kernel
theorem dX1_has_17 : decode cX1_has 17 = .ok (.aload_n 0, 1) := by decide +kernel
theorem dX1_has_18 : decode cX1_has 18 = .ok (.getfield 19, 3) := by decide +kernel
theorem dX1_has_21 : decode cX1_has 21 = .ok (.iload_n 1, 1) := by decide +kernel
theorem dX1_has_22 : decode cX1_has 22 = .ok (.isub, 1) := by decide +kernel
theorem dX1_has_23 : decode cX1_has 23 = .ok (.if_icmp .gt 7, 3) := by decide +kernel
theorem dX1_has_26 : decode cX1_has 26 = .ok (.iconst 1, 1) := by decide +kernel
theorem dX1_has_27 : decode cX1_has 27 = .ok (.goto 4, 3) := by decide +kernel
theorem dX1_has_30 : decode cX1_has 30 = .ok (.iconst 0, 1) := by decide +kernel
theorem dX1_has_31 : decode cX1_has 31 = .ok (.ireturn, 1) := by decide +kernel
theorem dX2_become_0 : decode cX2_become 0 = .ok (.iconst 0, 1) := by decide +kernel
theorem dX2_become_1 : decode cX2_become 1 = .ok (.istore_n 2, 1) := by decide +kernel
theorem dX2_become_2 : decode cX2_become 2 = .ok (.iload_n 2, 1) := by decide +kernel
theorem dX2_become_3 : decode cX2_become 3 = .ok (.bipush 6, 2) := by decide +kernel
theorem dX2_become_5 : decode cX2_become 5 = .ok (.if_icmp .ge 24, 3) := by decide +kernel
theorem dX2_become_8 : decode cX2_become 8 = .ok (.aload_n 0, 1) := by decide +kernel
theorem dX2_become_9 : decode cX2_become 9 = .ok (.getfield 11, 3) := by decide +kernel
theorem dX2_become_12 : decode cX2_become 12 = .ok (.iload_n 2, 1) := by decide +kernel
theorem dX2_become_13 : decode cX2_become 13 = .ok (.aaload, 1) := by decide +kernel
theorem dX2_become_14 : decode cX2_become 14 = .ok (.aload_n 1, 1) := by decide +kernel
theorem dX2_become_15 : decode cX2_become 15 = .ok (.getfield 11, 3) := by decide +kernel
theorem dX2_become_18 : decode cX2_become 18 = .ok (.iload_n 2, 1) := by decide +kernel
theorem dX2_become_19 : decode cX2_become 19 = .ok (.aaload, 1) := by decide +kernel
theorem dX2_become_20 : decode cX2_become 20 = .ok (.invokevirtual 25, 3) := by decide +kernel
theorem dX2_become_23 : decode cX2_become 23 = .ok (.iinc 2 1, 3) := by decide +kernel
theorem dX2_become_26 : decode cX2_become 26 = .ok (.goto (-24), 3) := by decide +kernel
theorem dX2_become_29 : decode cX2_become 29 = .ok (.aload_n 0, 1) := by decide +kernel
theorem dX2_become_30 : decode cX2_become 30 = .ok (.aload_n 1, 1) := by decide +kernel
theorem dX2_become_31 : decode cX2_become 31 = .ok (.getfield 17, 3) := by decide +kernel
theorem dX2_become_34 : decode cX2_become 34 = .ok (.putfield 17, 3) := by decide +kernel
theorem dX2_become_37 : decode cX2_become 37 = .ok (.aload_n 0, 1) := by decide +kernel
theorem dX2_become_38 : decode cX2_become 38 = .ok (.aload_n 1, 1) := by decide +kernel
theorem dX2_become_39 : decode cX2_become 39 = .ok (.getfield 21, 3) := by decide +kernel
theorem dX2_become_42 : decode cX2_become 42 = .ok (.putfield 21, 3) := by decide +kernel
theorem dX2_become_45 : decode cX2_become 45 = .ok (.return_, 1) := by decide +kernel
theorem dX2_add_0 : decode cX2_add 0 = .ok (.aload_n 0, 1) := by decide +kernel
theorem dX2_add_1 : decode cX2_add 1 = .ok (.getfield 11, 3) := by decide +kernel
theorem dX2_add_4 : decode cX2_add 4 = .ok (.aload_n 0, 1) := by decide +kernel
theorem dX2_add_5 : decode cX2_add 5 = .ok (.getfield 17, 3) := by decide +kernel
theorem dX2_add_8 : decode cX2_add 8 = .ok (.aload_n 0, 1) := by decide +kernel
theorem dX2_add_9 : decode cX2_add 9 = .ok (.getfield 21, 3) := by decide +kernel
theorem dX2_add_12 : decode cX2_add 12 = .ok (.iadd, 1) := by decide +kernel
theorem dX2_add_13 : decode cX2_add 13 = .ok (.bipush 6, 2) := by decide +kernel
theorem dX2_add_15 : decode cX2_add 15 = .ok (.irem, 1) := by decide +kernel
theorem dX2_add_16 : decode cX2_add 16 = .ok (.aaload, 1) := by decide +kernel
theorem dX2_add_17 : decode cX2_add 17 = .ok (.aload_n 1, 1) := by decide +kernel
theorem dX2_add_18 : decode cX2_add 18 = .ok (.invokevirtual 25, 3) := by decide +kernel
theorem dX2_add_21 : decode cX2_add 21 = .ok (.aload_n 0, 1) := by decide +kernel
theorem dX2_add_22 : decode cX2_add 22 = .ok (.getfield 21, 3) := by decide +kernel
theorem dX2_add_25 : decode cX2_add 25 = .ok (.bipush 6, 2) := by decide +kernel
theorem dX2_add_27 : decode cX2_add 27 = .ok (.if_icmp .ge 16, 3) := by decide +kernel
theorem dX2_add_30 : decode cX2_add 30 = .ok (.aload_n 0, 1) := by decide +kernel
theorem dX2_add_31 : decode cX2_add 31 = .ok (.dup, 1) := by decide +kernel
theorem dX2_add_32 : decode cX2_add 32 = .ok (.getfield 21, 3) := by decide +kernel
theorem dX2_add_35 : decode cX2_add 35 = .ok (.iconst 1, 1) := by decide +kernel
theorem dX2_add_36 : decode cX2_add 36 = .ok (.iadd, 1) := by decide +kernel
theorem dX2_add_37 : decode cX2_add 37 = .ok (.putfield 21, 3) := by decide +kernel
theorem dX2_add_40 : decode cX2_add 40 = .ok (.goto 16, 3) := by decide +kernel
theorem dX2_add_43 : decode cX2_add 43 = .ok (.aload_n 0, 1) := by decide +kernel
theorem dX2_add_44 : decode cX2_add 44 = .ok (.aload_n 0, 1) := by decide +kernel
theorem dX2_add_45 : decode cX2_add 45 = .ok (.getfield 17, 3) := by decide +kernel
theorem dX2_add_48 : decode cX2_add 48 = .ok (.iconst 1, 1) := by decide +kernel
theorem dX2_add_49 : decode cX2_add 49 = .ok (.iadd, 1) := by decide +kernel
theorem dX2_add_50 : decode cX2_add 50 = .ok (.bipush 6, 2) := by decide +kernel
theorem dX2_add_52 : decode cX2_add 52 = .ok (.irem, 1) := by decide +kernel
theorem dX2_add_53 : decode cX2_add 53 = .ok (.putfield 17, 3) := by decide +kernel
theorem dX2_add_56 : decode cX2_add 56 = .ok (.return_, 1) := by decide +kernel
theorem dX2_takeLatest_0 : decode cX2_takeLatest 0 = .ok (.aload_n 0, 1) := by decide +kernel
theorem dX2_takeLatest_1 : decode cX2_takeLatest 1 = .ok (.getfield 21, 3) := by decide +kernel
theorem dX2_takeLatest_4 : decode cX2_takeLatest 4 = .ok (.ifCond .ne 5, 3) := by decide +kernel
theorem dX2_takeLatest_7 : decode cX2_takeLatest 7 = .ok (.iconst 0, 1) := by decide +kernel
theorem dX2_takeLatest_8 : decode cX2_takeLatest 8 = .ok (.ireturn, 1) := by decide +kernel
theorem dX2_takeLatest_9 : decode cX2_takeLatest 9 = .ok (.aload_n 0, 1) := by decide +kernel
theorem dX2_takeLatest_10 : decode cX2_takeLatest 10 = .ok (.dup, 1) := by decide +kernel
theorem dX2_takeLatest_11 : decode cX2_takeLatest 11 = .ok (.getfield 21, 3) := by decide +kernel
theorem dX2_takeLatest_14 : decode cX2_takeLatest 14 = .ok (.iconst 1, 1) := by decide +kernel
theorem dX2_takeLatest_15 : decode cX2_takeLatest 15 = .ok (.isub, 1) := by decide +kernel
theorem dX2_takeLatest_16 : decode cX2_takeLatest 16 = .ok (.putfield 21, 3) := by decide +kernel
theorem dX2_takeLatest_19 : decode cX2_takeLatest 19 = .ok (.aload_n 1, 1) := by decide +kernel
theorem dX2_takeLatest_20 : decode cX2_takeLatest 20 = .ok (.aload_n 0, 1) := by decide +kernel
theorem dX2_takeLatest_21 : decode cX2_takeLatest 21 = .ok (.getfield 11, 3) := by decide +kernel
theorem dX2_takeLatest_24 : decode cX2_takeLatest 24 = .ok (.aload_n 0, 1) := by decide +kernel
theorem dX2_takeLatest_25 : decode cX2_takeLatest 25 = .ok (.getfield 17, 3) := by decide +kernel
theorem dX2_takeLatest_28 : decode cX2_takeLatest 28 = .ok (.aload_n 0, 1) := by decide +kernel
theorem dX2_takeLatest_29 : decode cX2_takeLatest 29 = .ok (.getfield 21, 3) := by decide +kernel
theorem dX2_takeLatest_32 : decode cX2_takeLatest 32 = .ok (.iadd, 1) := by decide +kernel
theorem dX2_takeLatest_33 : decode cX2_takeLatest 33 = .ok (.bipush 6, 2) := by decide +kernel
theorem dX2_takeLatest_35 : decode cX2_takeLatest 35 = .ok (.irem, 1) := by decide +kernel
theorem dX2_takeLatest_36 : decode cX2_takeLatest 36 = .ok (.aaload, 1) := by decide +kernel
theorem dX2_takeLatest_37 : decode cX2_takeLatest 37 = .ok (.invokevirtual 25, 3) := by decide +kernel
theorem dX2_takeLatest_40 : decode cX2_takeLatest 40 = .ok (.iconst 1, 1) := by decide +kernel
theorem dX2_takeLatest_41 : decode cX2_takeLatest 41 = .ok (.ireturn, 1) := by decide +kernel
theorem dX3_find_0 : decode cX3_find 0 = .ok (.aload_n 0, 1) := by decide +kernel
theorem dX3_find_1 : decode cX3_find 1 = .ok (.getfield 18, 3) := by decide +kernel
theorem dX3_find_4 : decode cX3_find 4 = .ok (.ldc 28, 2) := by decide +kernel
theorem dX3_find_6 : decode cX3_find 6 = .ok (.invokestatic 29, 3) := by decide +kernel
theorem dX3_find_9 : decode cX3_find 9 = .ok (.aload_n 0, 1) := by decide +kernel
theorem dX3_find_10 : decode cX3_find 10 = .ok (.getfield 11, 3) := by decide +kernel
theorem dX3_find_13 : decode cX3_find 13 = .ok (.iconst 0, 1) := by decide +kernel
theorem dX3_find_14 : decode cX3_find 14 = .ok (.iconst 0, 1) := by decide +kernel
theorem dX3_find_15 : decode cX3_find 15 = .ok (.iastore, 1) := by decide +kernel
theorem dX3_find_16 : decode cX3_find 16 = .ok (.aload_n 0, 1) := by decide +kernel
theorem dX3_find_17 : decode cX3_find 17 = .ok (.getfield 15, 3) := by decide +kernel
theorem dX3_find_20 : decode cX3_find 20 = .ok (.iconst 0, 1) := by decide +kernel
theorem dX3_find_21 : decode cX3_find 21 = .ok (.iconst 0, 1) := by decide +kernel
theorem dX3_find_22 : decode cX3_find 22 = .ok (.iastore, 1) := by decide +kernel
theorem dX3_find_23 : decode cX3_find 23 = .ok (.aload_n 0, 1) := by decide +kernel
theorem dX3_find_24 : decode cX3_find 24 = .ok (.getfield 18, 3) := by decide +kernel
theorem dX3_find_27 : decode cX3_find 27 = .ok (.iconst 0, 1) := by decide +kernel
theorem dX3_find_28 : decode cX3_find 28 = .ok (.iconst 0, 1) := by decide +kernel
theorem dX3_find_29 : decode cX3_find 29 = .ok (.iastore, 1) := by decide +kernel
theorem dX3_find_30 : decode cX3_find 30 = .ok (.iconst 0, 1) := by decide +kernel
theorem dX3_find_31 : decode cX3_find 31 = .ok (.istore_n 2, 1) := by decide +kernel
theorem dX3_find_32 : decode cX3_find 32 = .ok (.iload_n 2, 1) := by decide +kernel
theorem dX3_find_33 : decode cX3_find 33 = .ok (.aload_n 1, 1) := by decide +kernel
theorem dX3_find_34 : decode cX3_find 34 = .ok (.getfield 35, 3) := by decide +kernel
theorem dX3_find_37 : decode cX3_find 37 = .ok (.if_icmp .ge 21, 3) := by decide +kernel
theorem dX3_find_40 : decode cX3_find 40 = .ok (.aload_n 0, 1) := by decide +kernel
theorem dX3_find_41 : decode cX3_find 41 = .ok (.aload_n 1, 1) := by decide +kernel
theorem dX3_find_42 : decode cX3_find 42 = .ok (.iload_n 2, 1) := by decide +kernel
theorem dX3_find_43 : decode cX3_find 43 = .ok (.invokevirtual 40, 3) := by decide +kernel
theorem dX3_find_46 : decode cX3_find 46 = .ok (.aload_n 0, 1) := by decide +kernel
theorem dX3_find_47 : decode cX3_find 47 = .ok (.aload_n 1, 1) := by decide +kernel
theorem dX3_find_48 : decode cX3_find 48 = .ok (.iload_n 2, 1) := by decide +kernel
theorem dX3_find_49 : decode cX3_find 49 = .ok (.invokevirtual 44, 3) := by decide +kernel
theorem dX3_find_52 : decode cX3_find 52 = .ok (.iinc 2 1, 3) := by decide +kernel
theorem dX3_find_55 : decode cX3_find 55 = .ok (.goto (-23), 3) := by decide +kernel
theorem dX3_find_58 : decode cX3_find 58 = .ok (.aload_n 0, 1) := by decide +kernel
theorem dX3_find_59 : decode cX3_find 59 = .ok (.ldc 28, 2) := by decide +kernel
theorem dX3_find_61 : decode cX3_find 61 = .ok (.putfield 24, 3) := by decide +kernel
theorem dX3_find_64 : decode cX3_find 64 = .ok (.iconst 0, 1) := by decide +kernel
theorem dX3_find_65 : decode cX3_find 65 = .ok (.istore_n 2, 1) := by decide +kernel
theorem dX3_find_66 : decode cX3_find 66 = .ok (.iload_n 2, 1) := by decide +kernel
theorem dX3_find_67 : decode cX3_find 67 = .ok (.bipush 14, 2) := by decide +kernel
theorem dX3_find_69 : decode cX3_find 69 = .ok (.if_icmp .ge 34, 3) := by decide +kernel
theorem dX3_find_72 : decode cX3_find 72 = .ok (.aload_n 0, 1) := by decide +kernel
theorem dX3_find_73 : decode cX3_find 73 = .ok (.aload_n 0, 1) := by decide +kernel
theorem dX3_find_74 : decode cX3_find 74 = .ok (.getfield 24, 3) := by decide +kernel
theorem dX3_find_77 : decode cX3_find 77 = .ok (.aload_n 0, 1) := by decide +kernel
theorem dX3_find_78 : decode cX3_find 78 = .ok (.getfield 18, 3) := by decide +kernel
theorem dX3_find_81 : decode cX3_find 81 = .ok (.aload_n 1, 1) := by decide +kernel
theorem dX3_find_82 : decode cX3_find 82 = .ok (.getfield 35, 3) := by decide +kernel
theorem dX3_find_85 : decode cX3_find 85 = .ok (.bipush 14, 2) := by decide +kernel
theorem dX3_find_87 : decode cX3_find 87 = .ok (.imul, 1) := by decide +kernel
theorem dX3_find_88 : decode cX3_find 88 = .ok (.iload_n 2, 1) := by decide +kernel
theorem dX3_find_89 : decode cX3_find 89 = .ok (.iadd, 1) := by decide +kernel
theorem dX3_find_90 : decode cX3_find 90 = .ok (.iaload, 1) := by decide +kernel
theorem dX3_find_91 : decode cX3_find 91 = .ok (.invokestatic 47, 3) := by decide +kernel
theorem dX3_find_94 : decode cX3_find 94 = .ok (.putfield 24, 3) := by decide +kernel
theorem dX3_find_97 : decode cX3_find 97 = .ok (.iinc 2 1, 3) := by decide +kernel
theorem dX3_find_100 : decode cX3_find 100 = .ok (.goto (-34), 3) := by decide +kernel
theorem dX3_find_103 : decode cX3_find 103 = .ok (.return_, 1) := by decide +kernel
theorem dX3_effort_0 : decode cX3_effort 0 = .ok (.aload_n 0, 1) := by decide +kernel
theorem dX3_effort_1 : decode cX3_effort 1 = .ok (.getfield 24, 3) := by decide +kernel
theorem dX3_effort_4 : decode cX3_effort 4 = .ok (.bipush 32, 2) := by decide +kernel
theorem dX3_effort_6 : decode cX3_effort 6 = .ok (.idiv, 1) := by decide +kernel
theorem dX3_effort_7 : decode cX3_effort 7 = .ok (.ireturn, 1) := by decide +kernel
theorem dX3_signs_0 : decode cX3_signs 0 = .ok (.aload_n 0, 1) := by decide +kernel
theorem dX3_signs_1 : decode cX3_signs 1 = .ok (.getfield 24, 3) := by decide +kernel
theorem dX3_signs_4 : decode cX3_signs 4 = .ok (.bipush 32, 2) := by decide +kernel
theorem dX3_signs_6 : decode cX3_signs 6 = .ok (.irem, 1) := by decide +kernel
theorem dX3_signs_7 : decode cX3_signs 7 = .ok (.ireturn, 1) := by decide +kernel
theorem dX3_goOnByLetter_0 : decode cX3_goOnByLetter 0 = .ok (.aload_n 0, 1) := by decide +kernel
theorem dX3_goOnByLetter_1 : decode cX3_goOnByLetter 1 = .ok (.getfield 21, 3) := by decide +kernel
theorem dX3_goOnByLetter_4 : decode cX3_goOnByLetter 4 = .ok (.iconst 0, 1) := by decide +kernel
theorem dX3_goOnByLetter_5 : decode cX3_goOnByLetter 5 = .ok (.ldc 28, 2) := by decide +kernel
theorem dX3_goOnByLetter_7 : decode cX3_goOnByLetter 7 = .ok (.iastore, 1) := by decide +kernel
theorem dX3_goOnByLetter_8 : decode cX3_goOnByLetter 8 = .ok (.aload_n 0, 1) := by decide +kernel
theorem dX3_goOnByLetter_9 : decode cX3_goOnByLetter 9 = .ok (.getfield 21, 3) := by decide +kernel
theorem dX3_goOnByLetter_12 : decode cX3_goOnByLetter 12 = .ok (.iconst 1, 1) := by decide +kernel
theorem dX3_goOnByLetter_13 : decode cX3_goOnByLetter 13 = .ok (.ldc 28, 2) := by decide +kernel
theorem dX3_goOnByLetter_15 : decode cX3_goOnByLetter 15 = .ok (.iastore, 1) := by decide +kernel
theorem dX3_goOnByLetter_16 : decode cX3_goOnByLetter 16 = .ok (.iload_n 2, 1) := by decide +kernel
theorem dX3_goOnByLetter_17 : decode cX3_goOnByLetter 17 = .ok (.bipush 14, 2) := by decide +kernel
theorem dX3_goOnByLetter_19 : decode cX3_goOnByLetter 19 = .ok (.imul, 1) := by decide +kernel
theorem dX3_goOnByLetter_20 : decode cX3_goOnByLetter 20 = .ok (.istore_n 3, 1) := by decide +kernel
theorem dX3_goOnByLetter_21 : decode cX3_goOnByLetter 21 = .ok (.iload_n 3, 1) := by decide +kernel
theorem dX3_goOnByLetter_22 : decode cX3_goOnByLetter 22 = .ok (.iload_n 2, 1) := by decide +kernel
theorem dX3_goOnByLetter_23 : decode cX3_goOnByLetter 23 = .ok (.bipush 14, 2) := by decide +kernel
theorem dX3_goOnByLetter_25 : decode cX3_goOnByLetter 25 = .ok (.imul, 1) := by decide +kernel
theorem dX3_goOnByLetter_26 : decode cX3_goOnByLetter 26 = .ok (.bipush 14, 2) := by decide +kernel
theorem dX3_goOnByLetter_28 : decode cX3_goOnByLetter 28 = .ok (.iadd, 1) := by decide +kernel
theorem dX3_goOnByLetter_29 : decode cX3_goOnByLetter 29 = .ok (.if_icmp .ge 138, 3) := by decide +kernel
theorem dX3_goOnByLetter_32 : decode cX3_goOnByLetter 32 = .ok (.aload_n 0, 1) := by decide +kernel
theorem dX3_goOnByLetter_33 : decode cX3_goOnByLetter 33 = .ok (.getfield 18, 3) := by decide +kernel
theorem dX3_goOnByLetter_36 : decode cX3_goOnByLetter 36 = .ok (.iload_n 3, 1) := by decide +kernel
theorem dX3_goOnByLetter_37 : decode cX3_goOnByLetter 37 = .ok (.iaload, 1) := by decide +kernel
theorem dX3_goOnByLetter_38 : decode cX3_goOnByLetter 38 = .ok (.ldc 28, 2) := by decide +kernel
theorem dX3_goOnByLetter_40 : decode cX3_goOnByLetter 40 = .ok (.if_icmp .ne 6, 3) := by decide +kernel
theorem dX3_goOnByLetter_43 : decode cX3_goOnByLetter 43 = .ok (.goto 118, 3) := by decide +kernel
theorem dX3_goOnByLetter_46 : decode cX3_goOnByLetter 46 = .ok (.iconst 0, 1) := by decide +kernel
theorem dX3_goOnByLetter_47 : decode cX3_goOnByLetter 47 = .ok (.istore 4, 2) := by decide +kernel
theorem dX3_goOnByLetter_49 : decode cX3_goOnByLetter 49 = .ok (.iload 4, 2) := by decide +kernel
theorem dX3_goOnByLetter_51 : decode cX3_goOnByLetter 51 = .ok (.iconst 2, 1) := by decide +kernel
theorem dX3_goOnByLetter_52 : decode cX3_goOnByLetter 52 = .ok (.if_icmp .ge 109, 3) := by decide +kernel
theorem dX3_goOnByLetter_55 : decode cX3_goOnByLetter 55 = .ok (.aload_n 1, 1) := by decide +kernel
theorem dX3_goOnByLetter_56 : decode cX3_goOnByLetter 56 = .ok (.getfield 53, 3) := by decide +kernel
theorem dX3_goOnByLetter_59 : decode cX3_goOnByLetter 59 = .ok (.iload_n 2, 1) := by decide +kernel
theorem dX3_goOnByLetter_60 : decode cX3_goOnByLetter 60 = .ok (.iaload, 1) := by decide +kernel
theorem dX3_goOnByLetter_61 : decode cX3_goOnByLetter 61 = .ok (.istore 5, 2) := by decide +kernel
theorem dX3_goOnByLetter_63 : decode cX3_goOnByLetter 63 = .ok (.aload_n 0, 1) := by decide +kernel
theorem dX3_goOnByLetter_64 : decode cX3_goOnByLetter 64 = .ok (.iload_n 2, 1) := by decide +kernel
theorem dX3_goOnByLetter_65 : decode cX3_goOnByLetter 65 = .ok (.iconst 1, 1) := by decide +kernel
theorem dX3_goOnByLetter_66 : decode cX3_goOnByLetter 66 = .ok (.iadd, 1) := by decide +kernel
theorem dX3_goOnByLetter_67 : decode cX3_goOnByLetter 67 = .ok (.bipush 14, 2) := by decide +kernel
theorem dX3_goOnByLetter_69 : decode cX3_goOnByLetter 69 = .ok (.imul, 1) := by decide +kernel
theorem dX3_goOnByLetter_70 : decode cX3_goOnByLetter 70 = .ok (.iload 4, 2) := by decide +kernel
theorem dX3_goOnByLetter_72 : decode cX3_goOnByLetter 72 = .ok (.iadd, 1) := by decide +kernel
theorem dX3_goOnByLetter_73 : decode cX3_goOnByLetter 73 = .ok (.iload 5, 2) := by decide +kernel
theorem dX3_goOnByLetter_75 : decode cX3_goOnByLetter 75 = .ok (.iload 4, 2) := by decide +kernel
theorem dX3_goOnByLetter_77 : decode cX3_goOnByLetter 77 = .ok (.aload_n 0, 1) := by decide +kernel
theorem dX3_goOnByLetter_78 : decode cX3_goOnByLetter 78 = .ok (.getfield 18, 3) := by decide +kernel
theorem dX3_goOnByLetter_81 : decode cX3_goOnByLetter 81 = .ok (.iload_n 3, 1) := by decide +kernel
theorem dX3_goOnByLetter_82 : decode cX3_goOnByLetter 82 = .ok (.iaload, 1) := by decide +kernel
theorem dX3_goOnByLetter_83 : decode cX3_goOnByLetter 83 = .ok (.aload_n 1, 1) := by decide +kernel
theorem dX3_goOnByLetter_84 : decode cX3_goOnByLetter 84 = .ok (.aload_n 0, 1) := by decide +kernel
theorem dX3_goOnByLetter_85 : decode cX3_goOnByLetter 85 = .ok (.getfield 11, 3) := by decide +kernel
theorem dX3_goOnByLetter_88 : decode cX3_goOnByLetter 88 = .ok (.iload_n 3, 1) := by decide +kernel
theorem dX3_goOnByLetter_89 : decode cX3_goOnByLetter 89 = .ok (.iaload, 1) := by decide +kernel
theorem dX3_goOnByLetter_90 : decode cX3_goOnByLetter 90 = .ok (.aload_n 0, 1) := by decide +kernel
theorem dX3_goOnByLetter_91 : decode cX3_goOnByLetter 91 = .ok (.getfield 15, 3) := by decide +kernel
theorem dX3_goOnByLetter_94 : decode cX3_goOnByLetter 94 = .ok (.iload_n 3, 1) := by decide +kernel
theorem dX3_goOnByLetter_95 : decode cX3_goOnByLetter 95 = .ok (.iaload, 1) := by decide +kernel
theorem dX3_goOnByLetter_96 : decode cX3_goOnByLetter 96 = .ok (.iload 5, 2) := by decide +kernel
theorem dX3_goOnByLetter_98 : decode cX3_goOnByLetter 98 = .ok (.iload 4, 2) := by decide +kernel
theorem dX3_goOnByLetter_100 : decode cX3_goOnByLetter 100 = .ok (.invokestatic 56, 3) := by decide +kernel
theorem dX3_goOnByLetter_103 : decode cX3_goOnByLetter 103 = .ok (.iadd, 1) := by decide +kernel
theorem dX3_goOnByLetter_104 : decode cX3_goOnByLetter 104 = .ok (.invokevirtual 60, 3) := by decide +kernel
theorem dX3_goOnByLetter_107 : decode cX3_goOnByLetter 107 = .ok (.aload_n 0, 1) := by decide +kernel
theorem dX3_goOnByLetter_108 : decode cX3_goOnByLetter 108 = .ok (.getfield 18, 3) := by decide +kernel
theorem dX3_goOnByLetter_111 : decode cX3_goOnByLetter 111 = .ok (.iload_n 3, 1) := by decide +kernel
theorem dX3_goOnByLetter_112 : decode cX3_goOnByLetter 112 = .ok (.iaload, 1) := by decide +kernel
theorem dX3_goOnByLetter_113 : decode cX3_goOnByLetter 113 = .ok (.aload_n 1, 1) := by decide +kernel
theorem dX3_goOnByLetter_114 : decode cX3_goOnByLetter 114 = .ok (.aload_n 0, 1) := by decide +kernel
theorem dX3_goOnByLetter_115 : decode cX3_goOnByLetter 115 = .ok (.getfield 11, 3) := by decide +kernel
theorem dX3_goOnByLetter_118 : decode cX3_goOnByLetter 118 = .ok (.iload_n 3, 1) := by decide +kernel
theorem dX3_goOnByLetter_119 : decode cX3_goOnByLetter 119 = .ok (.iaload, 1) := by decide +kernel
theorem dX3_goOnByLetter_120 : decode cX3_goOnByLetter 120 = .ok (.aload_n 0, 1) := by decide +kernel
theorem dX3_goOnByLetter_121 : decode cX3_goOnByLetter 121 = .ok (.getfield 15, 3) := by decide +kernel
theorem dX3_goOnByLetter_124 : decode cX3_goOnByLetter 124 = .ok (.iload_n 3, 1) := by decide +kernel
theorem dX3_goOnByLetter_125 : decode cX3_goOnByLetter 125 = .ok (.iaload, 1) := by decide +kernel
theorem dX3_goOnByLetter_126 : decode cX3_goOnByLetter 126 = .ok (.bipush 26, 2) := by decide +kernel
theorem dX3_goOnByLetter_128 : decode cX3_goOnByLetter 128 = .ok (.iload 4, 2) := by decide +kernel
theorem dX3_goOnByLetter_130 : decode cX3_goOnByLetter 130 = .ok (.invokestatic 56, 3) := by decide +kernel
theorem dX3_goOnByLetter_133 : decode cX3_goOnByLetter 133 = .ok (.iadd, 1) := by decide +kernel
theorem dX3_goOnByLetter_134 : decode cX3_goOnByLetter 134 = .ok (.istore 6, 2) := by decide +kernel
theorem dX3_goOnByLetter_136 : decode cX3_goOnByLetter 136 = .ok (.aload_n 0, 1) := by decide +kernel
theorem dX3_goOnByLetter_137 : decode cX3_goOnByLetter 137 = .ok (.getfield 21, 3) := by decide +kernel
theorem dX3_goOnByLetter_140 : decode cX3_goOnByLetter 140 = .ok (.iload 4, 2) := by decide +kernel
theorem dX3_goOnByLetter_142 : decode cX3_goOnByLetter 142 = .ok (.aload_n 0, 1) := by decide +kernel
theorem dX3_goOnByLetter_143 : decode cX3_goOnByLetter 143 = .ok (.getfield 21, 3) := by decide +kernel
theorem dX3_goOnByLetter_146 : decode cX3_goOnByLetter 146 = .ok (.iload 4, 2) := by decide +kernel
theorem dX3_goOnByLetter_148 : decode cX3_goOnByLetter 148 = .ok (.iaload, 1) := by decide +kernel
theorem dX3_goOnByLetter_149 : decode cX3_goOnByLetter 149 = .ok (.iload 6, 2) := by decide +kernel
theorem dX3_goOnByLetter_151 : decode cX3_goOnByLetter 151 = .ok (.invokestatic 47, 3) := by decide +kernel
theorem dX3_goOnByLetter_154 : decode cX3_goOnByLetter 154 = .ok (.iastore, 1) := by decide +kernel
theorem dX3_goOnByLetter_155 : decode cX3_goOnByLetter 155 = .ok (.iinc 4 1, 3) := by decide +kernel
theorem dX3_goOnByLetter_158 : decode cX3_goOnByLetter 158 = .ok (.goto (-109), 3) := by decide +kernel
theorem dX3_goOnByLetter_161 : decode cX3_goOnByLetter 161 = .ok (.iinc 3 1, 3) := by decide +kernel
theorem dX3_goOnByLetter_164 : decode cX3_goOnByLetter 164 = .ok (.goto (-143), 3) := by decide +kernel
theorem dX3_goOnByLetter_167 : decode cX3_goOnByLetter 167 = .ok (.return_, 1) := by decide +kernel
theorem dX3_goOnByWords_0 : decode cX3_goOnByWords 0 = .ok (.iconst 0, 1) := by decide +kernel
theorem dX3_goOnByWords_1 : decode cX3_goOnByWords 1 = .ok (.istore_n 3, 1) := by decide +kernel
theorem dX3_goOnByWords_2 : decode cX3_goOnByWords 2 = .ok (.iload_n 3, 1) := by decide +kernel
theorem dX3_goOnByWords_3 : decode cX3_goOnByWords 3 = .ok (.aload_n 1, 1) := by decide +kernel
theorem dX3_goOnByWords_4 : decode cX3_goOnByWords 4 = .ok (.getfield 64, 3) := by decide +kernel
theorem dX3_goOnByWords_7 : decode cX3_goOnByWords 7 = .ok (.if_icmp .ge 114, 3) := by decide +kernel
theorem dX3_goOnByWords_10 : decode cX3_goOnByWords 10 = .ok (.aload_n 1, 1) := by decide +kernel
theorem dX3_goOnByWords_11 : decode cX3_goOnByWords 11 = .ok (.iload_n 3, 1) := by decide +kernel
theorem dX3_goOnByWords_12 : decode cX3_goOnByWords 12 = .ok (.iload_n 2, 1) := by decide +kernel
theorem dX3_goOnByWords_13 : decode cX3_goOnByWords 13 = .ok (.invokevirtual 67, 3) := by decide +kernel
theorem dX3_goOnByWords_16 : decode cX3_goOnByWords 16 = .ok (.ifCond .ne 6, 3) := by decide +kernel
theorem dX3_goOnByWords_19 : decode cX3_goOnByWords 19 = .ok (.goto 96, 3) := by decide +kernel
theorem dX3_goOnByWords_22 : decode cX3_goOnByWords 22 = .ok (.iload_n 2, 1) := by decide +kernel
theorem dX3_goOnByWords_23 : decode cX3_goOnByWords 23 = .ok (.aload_n 1, 1) := by decide +kernel
theorem dX3_goOnByWords_24 : decode cX3_goOnByWords 24 = .ok (.getfield 71, 3) := by decide +kernel
theorem dX3_goOnByWords_27 : decode cX3_goOnByWords 27 = .ok (.iload_n 3, 1) := by decide +kernel
theorem dX3_goOnByWords_28 : decode cX3_goOnByWords 28 = .ok (.iaload, 1) := by decide +kernel
theorem dX3_goOnByWords_29 : decode cX3_goOnByWords 29 = .ok (.iadd, 1) := by decide +kernel
theorem dX3_goOnByWords_30 : decode cX3_goOnByWords 30 = .ok (.bipush 14, 2) := by decide +kernel
theorem dX3_goOnByWords_32 : decode cX3_goOnByWords 32 = .ok (.imul, 1) := by decide +kernel
theorem dX3_goOnByWords_33 : decode cX3_goOnByWords 33 = .ok (.iconst 2, 1) := by decide +kernel
theorem dX3_goOnByWords_34 : decode cX3_goOnByWords 34 = .ok (.iload_n 3, 1) := by decide +kernel
theorem dX3_goOnByWords_35 : decode cX3_goOnByWords 35 = .ok (.iconst 1, 1) := by decide +kernel
theorem dX3_goOnByWords_36 : decode cX3_goOnByWords 36 = .ok (.iadd, 1) := by decide +kernel
theorem dX3_goOnByWords_37 : decode cX3_goOnByWords 37 = .ok (.imul, 1) := by decide +kernel
theorem dX3_goOnByWords_38 : decode cX3_goOnByWords 38 = .ok (.iadd, 1) := by decide +kernel
theorem dX3_goOnByWords_39 : decode cX3_goOnByWords 39 = .ok (.istore 4, 2) := by decide +kernel
theorem dX3_goOnByWords_41 : decode cX3_goOnByWords 41 = .ok (.iconst 0, 1) := by decide +kernel
theorem dX3_goOnByWords_42 : decode cX3_goOnByWords 42 = .ok (.istore 5, 2) := by decide +kernel
theorem dX3_goOnByWords_44 : decode cX3_goOnByWords 44 = .ok (.iload 5, 2) := by decide +kernel
theorem dX3_goOnByWords_46 : decode cX3_goOnByWords 46 = .ok (.iconst 4, 1) := by decide +kernel
theorem dX3_goOnByWords_47 : decode cX3_goOnByWords 47 = .ok (.if_icmp .ge 68, 3) := by decide +kernel
theorem dX3_goOnByWords_50 : decode cX3_goOnByWords 50 = .ok (.iload 5, 2) := by decide +kernel
theorem dX3_goOnByWords_52 : decode cX3_goOnByWords 52 = .ok (.iconst 2, 1) := by decide +kernel
theorem dX3_goOnByWords_53 : decode cX3_goOnByWords 53 = .ok (.idiv, 1) := by decide +kernel
theorem dX3_goOnByWords_54 : decode cX3_goOnByWords 54 = .ok (.istore 6, 2) := by decide +kernel
theorem dX3_goOnByWords_56 : decode cX3_goOnByWords 56 = .ok (.iload 5, 2) := by decide +kernel
theorem dX3_goOnByWords_58 : decode cX3_goOnByWords 58 = .ok (.iconst 2, 1) := by decide +kernel
theorem dX3_goOnByWords_59 : decode cX3_goOnByWords 59 = .ok (.irem, 1) := by decide +kernel
theorem dX3_goOnByWords_60 : decode cX3_goOnByWords 60 = .ok (.istore 7, 2) := by decide +kernel
theorem dX3_goOnByWords_62 : decode cX3_goOnByWords 62 = .ok (.aload_n 1, 1) := by decide +kernel
theorem dX3_goOnByWords_63 : decode cX3_goOnByWords 63 = .ok (.bipush 26, 2) := by decide +kernel
theorem dX3_goOnByWords_65 : decode cX3_goOnByWords 65 = .ok (.iload 6, 2) := by decide +kernel
theorem dX3_goOnByWords_67 : decode cX3_goOnByWords 67 = .ok (.invokestatic 74, 3) := by decide +kernel
theorem dX3_goOnByWords_70 : decode cX3_goOnByWords 70 = .ok (.bipush 26, 2) := by decide +kernel
theorem dX3_goOnByWords_72 : decode cX3_goOnByWords 72 = .ok (.iconst 1, 1) := by decide +kernel
theorem dX3_goOnByWords_73 : decode cX3_goOnByWords 73 = .ok (.iload 6, 2) := by decide +kernel
theorem dX3_goOnByWords_75 : decode cX3_goOnByWords 75 = .ok (.isub, 1) := by decide +kernel
theorem dX3_goOnByWords_76 : decode cX3_goOnByWords 76 = .ok (.invokestatic 74, 3) := by decide +kernel
theorem dX3_goOnByWords_79 : decode cX3_goOnByWords 79 = .ok (.iload_n 3, 1) := by decide +kernel
theorem dX3_goOnByWords_80 : decode cX3_goOnByWords 80 = .ok (.iload 7, 2) := by decide +kernel
theorem dX3_goOnByWords_82 : decode cX3_goOnByWords 82 = .ok (.invokestatic 56, 3) := by decide +kernel
theorem dX3_goOnByWords_85 : decode cX3_goOnByWords 85 = .ok (.istore 8, 2) := by decide +kernel
theorem dX3_goOnByWords_87 : decode cX3_goOnByWords 87 = .ok (.aload_n 0, 1) := by decide +kernel
theorem dX3_goOnByWords_88 : decode cX3_goOnByWords 88 = .ok (.iload 4, 2) := by decide +kernel
theorem dX3_goOnByWords_90 : decode cX3_goOnByWords 90 = .ok (.iload 7, 2) := by decide +kernel
theorem dX3_goOnByWords_92 : decode cX3_goOnByWords 92 = .ok (.iadd, 1) := by decide +kernel
theorem dX3_goOnByWords_93 : decode cX3_goOnByWords 93 = .ok (.iload_n 3, 1) := by decide +kernel
theorem dX3_goOnByWords_94 : decode cX3_goOnByWords 94 = .ok (.iload 7, 2) := by decide +kernel
theorem dX3_goOnByWords_96 : decode cX3_goOnByWords 96 = .ok (.aload_n 0, 1) := by decide +kernel
theorem dX3_goOnByWords_97 : decode cX3_goOnByWords 97 = .ok (.getfield 21, 3) := by decide +kernel
theorem dX3_goOnByWords_100 : decode cX3_goOnByWords 100 = .ok (.iload 6, 2) := by decide +kernel
theorem dX3_goOnByWords_102 : decode cX3_goOnByWords 102 = .ok (.iaload, 1) := by decide +kernel
theorem dX3_goOnByWords_103 : decode cX3_goOnByWords 103 = .ok (.iload 8, 2) := by decide +kernel
theorem dX3_goOnByWords_105 : decode cX3_goOnByWords 105 = .ok (.iadd, 1) := by decide +kernel
theorem dX3_goOnByWords_106 : decode cX3_goOnByWords 106 = .ok (.invokevirtual 60, 3) := by decide +kernel
theorem dX3_goOnByWords_109 : decode cX3_goOnByWords 109 = .ok (.iinc 5 1, 3) := by decide +kernel
theorem dX3_goOnByWords_112 : decode cX3_goOnByWords 112 = .ok (.goto (-68), 3) := by decide +kernel
theorem dX3_goOnByWords_115 : decode cX3_goOnByWords 115 = .ok (.iinc 3 1, 3) := by decide +kernel
theorem dX3_goOnByWords_118 : decode cX3_goOnByWords 118 = .ok (.goto (-116), 3) := by decide +kernel
theorem dX3_goOnByWords_121 : decode cX3_goOnByWords 121 = .ok (.return_, 1) := by decide +kernel
theorem dX3_reach_0 : decode cX3_reach 0 = .ok (.iload 4, 2) := by decide +kernel
theorem dX3_reach_2 : decode cX3_reach 2 = .ok (.aload_n 0, 1) := by decide +kernel
theorem dX3_reach_3 : decode cX3_reach 3 = .ok (.getfield 18, 3) := by decide +kernel
theorem dX3_reach_6 : decode cX3_reach 6 = .ok (.iload_n 1, 1) := by decide +kernel
theorem dX3_reach_7 : decode cX3_reach 7 = .ok (.iaload, 1) := by decide +kernel
theorem dX3_reach_8 : decode cX3_reach 8 = .ok (.if_icmp .ge 35, 3) := by decide +kernel
theorem dX3_reach_11 : decode cX3_reach 11 = .ok (.aload_n 0, 1) := by decide +kernel
theorem dX3_reach_12 : decode cX3_reach 12 = .ok (.getfield 18, 3) := by decide +kernel
theorem dX3_reach_15 : decode cX3_reach 15 = .ok (.iload_n 1, 1) := by decide +kernel
theorem dX3_reach_16 : decode cX3_reach 16 = .ok (.iload 4, 2) := by decide +kernel
theorem dX3_reach_18 : decode cX3_reach 18 = .ok (.iastore, 1) := by decide +kernel
theorem dX3_reach_19 : decode cX3_reach 19 = .ok (.aload_n 0, 1) := by decide +kernel
theorem dX3_reach_20 : decode cX3_reach 20 = .ok (.getfield 11, 3) := by decide +kernel
theorem dX3_reach_23 : decode cX3_reach 23 = .ok (.iload_n 1, 1) := by decide +kernel
theorem dX3_reach_24 : decode cX3_reach 24 = .ok (.iload_n 2, 1) := by decide +kernel
theorem dX3_reach_25 : decode cX3_reach 25 = .ok (.iload_n 3, 1) := by decide +kernel
theorem dX3_reach_26 : decode cX3_reach 26 = .ok (.invokestatic 74, 3) := by decide +kernel
theorem dX3_reach_29 : decode cX3_reach 29 = .ok (.iastore, 1) := by decide +kernel
theorem dX3_reach_30 : decode cX3_reach 30 = .ok (.aload_n 0, 1) := by decide +kernel
theorem dX3_reach_31 : decode cX3_reach 31 = .ok (.getfield 15, 3) := by decide +kernel
theorem dX3_reach_34 : decode cX3_reach 34 = .ok (.iload_n 1, 1) := by decide +kernel
theorem dX3_reach_35 : decode cX3_reach 35 = .ok (.iload_n 2, 1) := by decide +kernel
theorem dX3_reach_36 : decode cX3_reach 36 = .ok (.iconst 1, 1) := by decide +kernel
theorem dX3_reach_37 : decode cX3_reach 37 = .ok (.iload_n 3, 1) := by decide +kernel
theorem dX3_reach_38 : decode cX3_reach 38 = .ok (.isub, 1) := by decide +kernel
theorem dX3_reach_39 : decode cX3_reach 39 = .ok (.invokestatic 74, 3) := by decide +kernel
theorem dX3_reach_42 : decode cX3_reach 42 = .ok (.iastore, 1) := by decide +kernel
theorem dX3_reach_43 : decode cX3_reach 43 = .ok (.return_, 1) := by decide +kernel
theorem dX3_priceOf_0 : decode cX3_priceOf 0 = .ok (.bipush 32, 2) := by decide +kernel
theorem dX3_priceOf_2 : decode cX3_priceOf 2 = .ok (.aload_n 0, 1) := by decide +kernel
theorem dX3_priceOf_3 : decode cX3_priceOf 3 = .ok (.iload_n 1, 1) := by decide +kernel
theorem dX3_priceOf_4 : decode cX3_priceOf 4 = .ok (.iload_n 2, 1) := by decide +kernel
theorem dX3_priceOf_5 : decode cX3_priceOf 5 = .ok (.iload_n 3, 1) := by decide +kernel
theorem dX3_priceOf_6 : decode cX3_priceOf 6 = .ok (.iload 4, 2) := by decide +kernel
theorem dX3_priceOf_8 : decode cX3_priceOf 8 = .ok (.invokestatic 74, 3) := by decide +kernel
theorem dX3_priceOf_11 : decode cX3_priceOf 11 = .ok (.iload_n 3, 1) := by decide +kernel
theorem dX3_priceOf_12 : decode cX3_priceOf 12 = .ok (.iconst 1, 1) := by decide +kernel
theorem dX3_priceOf_13 : decode cX3_priceOf 13 = .ok (.iload 4, 2) := by decide +kernel
theorem dX3_priceOf_15 : decode cX3_priceOf 15 = .ok (.isub, 1) := by decide +kernel
theorem dX3_priceOf_16 : decode cX3_priceOf 16 = .ok (.invokestatic 74, 3) := by decide +kernel
theorem dX3_priceOf_19 : decode cX3_priceOf 19 = .ok (.invokevirtual 77, 3) := by decide +kernel
theorem dX3_priceOf_22 : decode cX3_priceOf 22 = .ok (.imul, 1) := by decide +kernel
theorem dX3_priceOf_23 : decode cX3_priceOf 23 = .ok (.iconst 1, 1) := by decide +kernel
theorem dX3_priceOf_24 : decode cX3_priceOf 24 = .ok (.iadd, 1) := by decide +kernel
theorem dX3_priceOf_25 : decode cX3_priceOf 25 = .ok (.ireturn, 1) := by decide +kernel
theorem dX3_dirOf_0 : decode cX3_dirOf 0 = .ok (.iload_n 1, 1) := by decide +kernel
theorem dX3_dirOf_1 : decode cX3_dirOf 1 = .ok (.ifCond .ne 11, 3) := by decide +kernel
theorem dX3_dirOf_4 : decode cX3_dirOf 4 = .ok (.getstatic 81, 3) := by decide +kernel
theorem dX3_dirOf_7 : decode cX3_dirOf 7 = .ok (.iload_n 0, 1) := by decide +kernel
theorem dX3_dirOf_8 : decode cX3_dirOf 8 = .ok (.iaload, 1) := by decide +kernel
theorem dX3_dirOf_9 : decode cX3_dirOf 9 = .ok (.goto 8, 3) := by decide +kernel
theorem dX3_dirOf_12 : decode cX3_dirOf 12 = .ok (.getstatic 84, 3) := by decide +kernel
theorem dX3_dirOf_15 : decode cX3_dirOf 15 = .ok (.iload_n 0, 1) := by decide +kernel
theorem dX3_dirOf_16 : decode cX3_dirOf 16 = .ok (.iaload, 1) := by decide +kernel
theorem dX3_dirOf_17 : decode cX3_dirOf 17 = .ok (.ireturn, 1) := by decide +kernel
theorem dX4_put_0 : decode cX4_put 0 = .ok (.aload_n 0, 1) := by decide +kernel
theorem dX4_put_1 : decode cX4_put 1 = .ok (.getfield 9, 3) := by decide +kernel
theorem dX4_put_4 : decode cX4_put 4 = .ok (.iload_n 1, 1) := by decide +kernel
theorem dX4_put_5 : decode cX4_put 5 = .ok (.iload_n 2, 1) := by decide +kernel
theorem dX4_put_6 : decode cX4_put 6 = .ok (.iastore, 1) := by decide +kernel
theorem dX4_put_7 : decode cX4_put 7 = .ok (.aload_n 0, 1) := by decide +kernel
theorem dX4_put_8 : decode cX4_put 8 = .ok (.getfield 15, 3) := by decide +kernel
theorem dX4_put_11 : decode cX4_put 11 = .ok (.iload_n 1, 1) := by decide +kernel
theorem dX4_put_12 : decode cX4_put 12 = .ok (.iload_n 3, 1) := by decide +kernel
theorem dX4_put_13 : decode cX4_put 13 = .ok (.iastore, 1) := by decide +kernel
theorem dX4_put_14 : decode cX4_put 14 = .ok (.return_, 1) := by decide +kernel
theorem dX4_seeMessage_0 : decode cX4_seeMessage 0 = .ok (.aload_n 0, 1) := by decide +kernel
theorem dX4_seeMessage_1 : decode cX4_seeMessage 1 = .ok (.aload_n 1, 1) := by decide +kernel
theorem dX4_seeMessage_2 : decode cX4_seeMessage 2 = .ok (.getfield 32, 3) := by decide +kernel
theorem dX4_seeMessage_5 : decode cX4_seeMessage 5 = .ok (.putfield 18, 3) := by decide +kernel
theorem dX4_seeMessage_8 : decode cX4_seeMessage 8 = .ok (.iconst 0, 1) := by decide +kernel
theorem dX4_seeMessage_9 : decode cX4_seeMessage 9 = .ok (.istore_n 2, 1) := by decide +kernel
theorem dX4_seeMessage_10 : decode cX4_seeMessage 10 = .ok (.iload_n 2, 1) := by decide +kernel
theorem dX4_seeMessage_11 : decode cX4_seeMessage 11 = .ok (.aload_n 0, 1) := by decide +kernel
theorem dX4_seeMessage_12 : decode cX4_seeMessage 12 = .ok (.getfield 18, 3) := by decide +kernel
theorem dX4_seeMessage_15 : decode cX4_seeMessage 15 = .ok (.if_icmp .ge 34, 3) := by decide +kernel
theorem dX4_seeMessage_18 : decode cX4_seeMessage 18 = .ok (.aload_n 0, 1) := by decide +kernel
theorem dX4_seeMessage_19 : decode cX4_seeMessage 19 = .ok (.iload_n 2, 1) := by decide +kernel
theorem dX4_seeMessage_20 : decode cX4_seeMessage 20 = .ok (.getstatic 37, 3) := by decide +kernel
theorem dX4_seeMessage_23 : decode cX4_seeMessage 23 = .ok (.aload_n 1, 1) := by decide +kernel
theorem dX4_seeMessage_24 : decode cX4_seeMessage 24 = .ok (.getfield 40, 3) := by decide +kernel
theorem dX4_seeMessage_27 : decode cX4_seeMessage 27 = .ok (.iload_n 2, 1) := by decide +kernel
theorem dX4_seeMessage_28 : decode cX4_seeMessage 28 = .ok (.iaload, 1) := by decide +kernel
theorem dX4_seeMessage_29 : decode cX4_seeMessage 29 = .ok (.iaload, 1) := by decide +kernel
theorem dX4_seeMessage_30 : decode cX4_seeMessage 30 = .ok (.getstatic 43, 3) := by decide +kernel
theorem dX4_seeMessage_33 : decode cX4_seeMessage 33 = .ok (.aload_n 1, 1) := by decide +kernel
theorem dX4_seeMessage_34 : decode cX4_seeMessage 34 = .ok (.getfield 40, 3) := by decide +kernel
theorem dX4_seeMessage_37 : decode cX4_seeMessage 37 = .ok (.iload_n 2, 1) := by decide +kernel
theorem dX4_seeMessage_38 : decode cX4_seeMessage 38 = .ok (.iaload, 1) := by decide +kernel
theorem dX4_seeMessage_39 : decode cX4_seeMessage 39 = .ok (.iaload, 1) := by decide +kernel
theorem dX4_seeMessage_40 : decode cX4_seeMessage 40 = .ok (.invokevirtual 46, 3) := by decide +kernel
theorem dX4_seeMessage_43 : decode cX4_seeMessage 43 = .ok (.iinc 2 1, 3) := by decide +kernel
theorem dX4_seeMessage_46 : decode cX4_seeMessage 46 = .ok (.goto (-36), 3) := by decide +kernel
theorem dX4_seeMessage_49 : decode cX4_seeMessage 49 = .ok (.return_, 1) := by decide +kernel
theorem dX4_seePaper_0 : decode cX4_seePaper 0 = .ok (.aload_n 0, 1) := by decide +kernel
theorem dX4_seePaper_1 : decode cX4_seePaper 1 = .ok (.iload_n 3, 1) := by decide +kernel
theorem dX4_seePaper_2 : decode cX4_seePaper 2 = .ok (.putfield 18, 3) := by decide +kernel
theorem dX4_seePaper_5 : decode cX4_seePaper 5 = .ok (.iconst 0, 1) := by decide +kernel
theorem dX4_seePaper_6 : decode cX4_seePaper 6 = .ok (.istore 4, 2) := by decide +kernel
theorem dX4_seePaper_8 : decode cX4_seePaper 8 = .ok (.iload 4, 2) := by decide +kernel
theorem dX4_seePaper_10 : decode cX4_seePaper 10 = .ok (.iload_n 3, 1) := by decide +kernel
theorem dX4_seePaper_11 : decode cX4_seePaper 11 = .ok (.if_icmp .ge 67, 3) := by decide +kernel
theorem dX4_seePaper_14 : decode cX4_seePaper 14 = .ok (.aload_n 1, 1) := by decide +kernel
theorem dX4_seePaper_15 : decode cX4_seePaper 15 = .ok (.getfield 50, 3) := by decide +kernel
theorem dX4_seePaper_18 : decode cX4_seePaper 18 = .ok (.iload_n 2, 1) := by decide +kernel
theorem dX4_seePaper_19 : decode cX4_seePaper 19 = .ok (.iconst 2, 1) := by decide +kernel
theorem dX4_seePaper_20 : decode cX4_seePaper 20 = .ok (.iload 4, 2) := by decide +kernel
theorem dX4_seePaper_22 : decode cX4_seePaper 22 = .ok (.imul, 1) := by decide +kernel
theorem dX4_seePaper_23 : decode cX4_seePaper 23 = .ok (.iadd, 1) := by decide +kernel
theorem dX4_seePaper_24 : decode cX4_seePaper 24 = .ok (.laload, 1) := by decide +kernel
theorem dX4_seePaper_25 : decode cX4_seePaper 25 = .ok (.lstore 5, 2) := by decide +kernel
theorem dX4_seePaper_27 : decode cX4_seePaper 27 = .ok (.aload_n 1, 1) := by decide +kernel
theorem dX4_seePaper_28 : decode cX4_seePaper 28 = .ok (.getfield 50, 3) := by decide +kernel
theorem dX4_seePaper_31 : decode cX4_seePaper 31 = .ok (.iload_n 2, 1) := by decide +kernel
theorem dX4_seePaper_32 : decode cX4_seePaper 32 = .ok (.iconst 2, 1) := by decide +kernel
theorem dX4_seePaper_33 : decode cX4_seePaper 33 = .ok (.iload 4, 2) := by decide +kernel
theorem dX4_seePaper_35 : decode cX4_seePaper 35 = .ok (.imul, 1) := by decide +kernel
theorem dX4_seePaper_36 : decode cX4_seePaper 36 = .ok (.iadd, 1) := by decide +kernel
theorem dX4_seePaper_37 : decode cX4_seePaper 37 = .ok (.iconst 1, 1) := by decide +kernel
theorem dX4_seePaper_38 : decode cX4_seePaper 38 = .ok (.iadd, 1) := by decide +kernel
theorem dX4_seePaper_39 : decode cX4_seePaper 39 = .ok (.laload, 1) := by decide +kernel
theorem dX4_seePaper_40 : decode cX4_seePaper 40 = .ok (.lstore 7, 2) := by decide +kernel
theorem dX4_seePaper_42 : decode cX4_seePaper 42 = .ok (.lload 5, 2) := by decide +kernel
theorem dX4_seePaper_44 : decode cX4_seePaper 44 = .ok (.invokestatic 56, 3) := by decide +kernel
theorem dX4_seePaper_47 : decode cX4_seePaper 47 = .ok (.ifCond .eq 11, 3) := by decide +kernel
theorem dX4_seePaper_50 : decode cX4_seePaper 50 = .ok (.lload 7, 2) := by decide +kernel
theorem dX4_seePaper_52 : decode cX4_seePaper 52 = .ok (.invokestatic 56, 3) := by decide +kernel
theorem dX4_seePaper_55 : decode cX4_seePaper 55 = .ok (.ifCond .ne 5, 3) := by decide +kernel
theorem dX4_seePaper_58 : decode cX4_seePaper 58 = .ok (.iconst 0, 1) := by decide +kernel
theorem dX4_seePaper_59 : decode cX4_seePaper 59 = .ok (.ireturn, 1) := by decide +kernel
theorem dX4_seePaper_60 : decode cX4_seePaper 60 = .ok (.aload_n 0, 1) := by decide +kernel
theorem dX4_seePaper_61 : decode cX4_seePaper 61 = .ok (.iload 4, 2) := by decide +kernel
theorem dX4_seePaper_63 : decode cX4_seePaper 63 = .ok (.lload 5, 2) := by decide +kernel
theorem dX4_seePaper_65 : decode cX4_seePaper 65 = .ok (.l2i, 1) := by decide +kernel
theorem dX4_seePaper_66 : decode cX4_seePaper 66 = .ok (.lload 7, 2) := by decide +kernel
theorem dX4_seePaper_68 : decode cX4_seePaper 68 = .ok (.l2i, 1) := by decide +kernel
theorem dX4_seePaper_69 : decode cX4_seePaper 69 = .ok (.invokevirtual 46, 3) := by decide +kernel
theorem dX4_seePaper_72 : decode cX4_seePaper 72 = .ok (.iinc 4 1, 3) := by decide +kernel
theorem dX4_seePaper_75 : decode cX4_seePaper 75 = .ok (.goto (-67), 3) := by decide +kernel
theorem dX4_seePaper_78 : decode cX4_seePaper 78 = .ok (.iconst 1, 1) := by decide +kernel
theorem dX4_seePaper_79 : decode cX4_seePaper 79 = .ok (.ireturn, 1) := by decide +kernel
theorem dX4_compare_0 : decode cX4_compare 0 = .ok (.aload_n 0, 1) := by decide +kernel
theorem dX4_compare_1 : decode cX4_compare 1 = .ok (.bipush (-4), 2) := by decide +kernel
theorem dX4_compare_3 : decode cX4_compare 3 = .ok (.putfield 22, 3) := by decide +kernel
theorem dX4_compare_6 : decode cX4_compare 6 = .ok (.aload_n 0, 1) := by decide +kernel
theorem dX4_compare_7 : decode cX4_compare 7 = .ok (.iconst 0, 1) := by decide +kernel
theorem dX4_compare_8 : decode cX4_compare 8 = .ok (.putfield 25, 3) := by decide +kernel
theorem dX4_compare_11 : decode cX4_compare 11 = .ok (.aload_n 0, 1) := by decide +kernel
theorem dX4_compare_12 : decode cX4_compare 12 = .ok (.iconst 0, 1) := by decide +kernel
theorem dX4_compare_13 : decode cX4_compare 13 = .ok (.putfield 28, 3) := by decide +kernel
theorem dX4_compare_16 : decode cX4_compare 16 = .ok (.iconst 0, 1) := by decide +kernel
theorem dX4_compare_17 : decode cX4_compare 17 = .ok (.istore_n 2, 1) := by decide +kernel
theorem dX4_compare_18 : decode cX4_compare 18 = .ok (.iload_n 2, 1) := by decide +kernel
theorem dX4_compare_19 : decode cX4_compare 19 = .ok (.aload_n 1, 1) := by decide +kernel
theorem dX4_compare_20 : decode cX4_compare 20 = .ok (.getfield 60, 3) := by decide +kernel
theorem dX4_compare_23 : decode cX4_compare 23 = .ok (.if_icmp .ge 80, 3) := by decide +kernel
theorem dX4_compare_26 : decode cX4_compare 26 = .ok (.aload_n 1, 1) := by decide +kernel
theorem dX4_compare_27 : decode cX4_compare 27 = .ok (.getfield 63, 3) := by decide +kernel
theorem dX4_compare_30 : decode cX4_compare 30 = .ok (.iload_n 2, 1) := by decide +kernel
theorem dX4_compare_31 : decode cX4_compare 31 = .ok (.iaload, 1) := by decide +kernel
theorem dX4_compare_32 : decode cX4_compare 32 = .ok (.aload_n 0, 1) := by decide +kernel
theorem dX4_compare_33 : decode cX4_compare 33 = .ok (.getfield 18, 3) := by decide +kernel
theorem dX4_compare_36 : decode cX4_compare 36 = .ok (.if_icmp .eq 6, 3) := by decide +kernel
theorem dX4_compare_39 : decode cX4_compare 39 = .ok (.goto 58, 3) := by decide +kernel
theorem dX4_compare_42 : decode cX4_compare 42 = .ok (.aload_n 0, 1) := by decide +kernel
theorem dX4_compare_43 : decode cX4_compare 43 = .ok (.aload_n 1, 1) := by decide +kernel
theorem dX4_compare_44 : decode cX4_compare 44 = .ok (.iload_n 2, 1) := by decide +kernel
theorem dX4_compare_45 : decode cX4_compare 45 = .ok (.invokevirtual 66, 3) := by decide +kernel
theorem dX4_compare_48 : decode cX4_compare 48 = .ok (.istore_n 3, 1) := by decide +kernel
theorem dX4_compare_49 : decode cX4_compare 49 = .ok (.aload_n 0, 1) := by decide +kernel
theorem dX4_compare_50 : decode cX4_compare 50 = .ok (.getfield 22, 3) := by decide +kernel
theorem dX4_compare_53 : decode cX4_compare 53 = .ok (.bipush (-4), 2) := by decide +kernel
theorem dX4_compare_55 : decode cX4_compare 55 = .ok (.if_icmp .eq 11, 3) := by decide +kernel
theorem dX4_compare_58 : decode cX4_compare 58 = .ok (.iload_n 3, 1) := by decide +kernel
theorem dX4_compare_59 : decode cX4_compare 59 = .ok (.aload_n 0, 1) := by decide +kernel
theorem dX4_compare_60 : decode cX4_compare 60 = .ok (.getfield 25, 3) := by decide +kernel
theorem dX4_compare_63 : decode cX4_compare 63 = .ok (.if_icmp .ge 21, 3) := by decide +kernel
theorem dX4_compare_66 : decode cX4_compare 66 = .ok (.aload_n 0, 1) := by decide +kernel
theorem dX4_compare_67 : decode cX4_compare 67 = .ok (.iload_n 2, 1) := by decide +kernel
theorem dX4_compare_68 : decode cX4_compare 68 = .ok (.putfield 22, 3) := by decide +kernel
theorem dX4_compare_71 : decode cX4_compare 71 = .ok (.aload_n 0, 1) := by decide +kernel
theorem dX4_compare_72 : decode cX4_compare 72 = .ok (.iload_n 3, 1) := by decide +kernel
theorem dX4_compare_73 : decode cX4_compare 73 = .ok (.putfield 25, 3) := by decide +kernel
theorem dX4_compare_76 : decode cX4_compare 76 = .ok (.aload_n 0, 1) := by decide +kernel
theorem dX4_compare_77 : decode cX4_compare 77 = .ok (.iconst 1, 1) := by decide +kernel
theorem dX4_compare_78 : decode cX4_compare 78 = .ok (.putfield 28, 3) := by decide +kernel
theorem dX4_compare_81 : decode cX4_compare 81 = .ok (.goto 16, 3) := by decide +kernel
theorem dX4_compare_84 : decode cX4_compare 84 = .ok (.iload_n 3, 1) := by decide +kernel
theorem dX4_compare_85 : decode cX4_compare 85 = .ok (.aload_n 0, 1) := by decide +kernel
theorem dX4_compare_86 : decode cX4_compare 86 = .ok (.getfield 25, 3) := by decide +kernel
theorem dX4_compare_89 : decode cX4_compare 89 = .ok (.if_icmp .ne 8, 3) := by decide +kernel
theorem dX4_compare_92 : decode cX4_compare 92 = .ok (.aload_n 0, 1) := by decide +kernel
theorem dX4_compare_93 : decode cX4_compare 93 = .ok (.iconst 0, 1) := by decide +kernel
theorem dX4_compare_94 : decode cX4_compare 94 = .ok (.putfield 28, 3) := by decide +kernel
theorem dX4_compare_97 : decode cX4_compare 97 = .ok (.iinc 2 1, 3) := by decide +kernel
theorem dX4_compare_100 : decode cX4_compare 100 = .ok (.goto (-82), 3) := by decide +kernel
theorem dX4_compare_103 : decode cX4_compare 103 = .ok (.return_, 1) := by decide +kernel
theorem dX4_distanceTo_0 : decode cX4_distanceTo 0 = .ok (.iconst 0, 1) := by decide +kernel
theorem dX4_distanceTo_1 : decode cX4_distanceTo 1 = .ok (.istore_n 3, 1) := by decide +kernel
theorem dX4_distanceTo_2 : decode cX4_distanceTo 2 = .ok (.iconst 0, 1) := by decide +kernel
theorem dX4_distanceTo_3 : decode cX4_distanceTo 3 = .ok (.istore 4, 2) := by decide +kernel
theorem dX4_distanceTo_5 : decode cX4_distanceTo 5 = .ok (.iload 4, 2) := by decide +kernel
theorem dX4_distanceTo_7 : decode cX4_distanceTo 7 = .ok (.aload_n 0, 1) := by decide +kernel
theorem dX4_distanceTo_8 : decode cX4_distanceTo 8 = .ok (.getfield 18, 3) := by decide +kernel
theorem dX4_distanceTo_11 : decode cX4_distanceTo 11 = .ok (.if_icmp .ge 50, 3) := by decide +kernel
theorem dX4_distanceTo_14 : decode cX4_distanceTo 14 = .ok (.aload_n 1, 1) := by decide +kernel
theorem dX4_distanceTo_15 : decode cX4_distanceTo 15 = .ok (.iload_n 2, 1) := by decide +kernel
theorem dX4_distanceTo_16 : decode cX4_distanceTo 16 = .ok (.iload 4, 2) := by decide +kernel
theorem dX4_distanceTo_18 : decode cX4_distanceTo 18 = .ok (.invokevirtual 70, 3) := by decide +kernel
theorem dX4_distanceTo_21 : decode cX4_distanceTo 21 = .ok (.istore 5, 2) := by decide +kernel
theorem dX4_distanceTo_23 : decode cX4_distanceTo 23 = .ok (.iload_n 3, 1) := by decide +kernel
theorem dX4_distanceTo_24 : decode cX4_distanceTo 24 = .ok (.aload_n 0, 1) := by decide +kernel
theorem dX4_distanceTo_25 : decode cX4_distanceTo 25 = .ok (.getfield 9, 3) := by decide +kernel
theorem dX4_distanceTo_28 : decode cX4_distanceTo 28 = .ok (.iload 4, 2) := by decide +kernel
theorem dX4_distanceTo_30 : decode cX4_distanceTo 30 = .ok (.iaload, 1) := by decide +kernel
theorem dX4_distanceTo_31 : decode cX4_distanceTo 31 = .ok (.aload_n 0, 1) := by decide +kernel
theorem dX4_distanceTo_32 : decode cX4_distanceTo 32 = .ok (.getfield 15, 3) := by decide +kernel
theorem dX4_distanceTo_35 : decode cX4_distanceTo 35 = .ok (.iload 4, 2) := by decide +kernel
theorem dX4_distanceTo_37 : decode cX4_distanceTo 37 = .ok (.iaload, 1) := by decide +kernel
theorem dX4_distanceTo_38 : decode cX4_distanceTo 38 = .ok (.getstatic 37, 3) := by decide +kernel
theorem dX4_distanceTo_41 : decode cX4_distanceTo 41 = .ok (.iload 5, 2) := by decide +kernel
theorem dX4_distanceTo_43 : decode cX4_distanceTo 43 = .ok (.iaload, 1) := by decide +kernel
theorem dX4_distanceTo_44 : decode cX4_distanceTo 44 = .ok (.getstatic 43, 3) := by decide +kernel
theorem dX4_distanceTo_47 : decode cX4_distanceTo 47 = .ok (.iload 5, 2) := by decide +kernel
theorem dX4_distanceTo_49 : decode cX4_distanceTo 49 = .ok (.iaload, 1) := by decide +kernel
theorem dX4_distanceTo_50 : decode cX4_distanceTo 50 = .ok (.invokestatic 74, 3) := by decide +kernel
theorem dX4_distanceTo_53 : decode cX4_distanceTo 53 = .ok (.iadd, 1) := by decide +kernel
theorem dX4_distanceTo_54 : decode cX4_distanceTo 54 = .ok (.istore_n 3, 1) := by decide +kernel
theorem dX4_distanceTo_55 : decode cX4_distanceTo 55 = .ok (.iinc 4 1, 3) := by decide +kernel
theorem dX4_distanceTo_58 : decode cX4_distanceTo 58 = .ok (.goto (-53), 3) := by decide +kernel
theorem dX4_distanceTo_61 : decode cX4_distanceTo 61 = .ok (.iload_n 3, 1) := by decide +kernel
theorem dX4_distanceTo_62 : decode cX4_distanceTo 62 = .ok (.ireturn, 1) := by decide +kernel
theorem dX6_add_0 : decode cX6_add 0 = .ok (.aload_n 0, 1) := by decide +kernel
theorem dX6_add_1 : decode cX6_add 1 = .ok (.getfield 15, 3) := by decide +kernel
theorem dX6_add_4 : decode cX6_add 4 = .ok (.bipush 90, 2) := by decide +kernel
theorem dX6_add_6 : decode cX6_add 6 = .ok (.if_icmp .lt 6, 3) := by decide +kernel
theorem dX6_add_9 : decode cX6_add 9 = .ok (.bipush (-3), 2) := by decide +kernel
theorem dX6_add_11 : decode cX6_add 11 = .ok (.ireturn, 1) := by decide +kernel
theorem dX6_add_12 : decode cX6_add 12 = .ok (.aload_n 0, 1) := by decide +kernel
theorem dX6_add_13 : decode cX6_add 13 = .ok (.getfield 9, 3) := by decide +kernel
theorem dX6_add_16 : decode cX6_add 16 = .ok (.aload_n 0, 1) := by decide +kernel
theorem dX6_add_17 : decode cX6_add 17 = .ok (.getfield 15, 3) := by decide +kernel
theorem dX6_add_20 : decode cX6_add 20 = .ok (.iload_n 1, 1) := by decide +kernel
theorem dX6_add_21 : decode cX6_add 21 = .ok (.iastore, 1) := by decide +kernel
theorem dX6_add_22 : decode cX6_add 22 = .ok (.aload_n 0, 1) := by decide +kernel
theorem dX6_add_23 : decode cX6_add 23 = .ok (.dup, 1) := by decide +kernel
theorem dX6_add_24 : decode cX6_add 24 = .ok (.getfield 15, 3) := by decide +kernel
theorem dX6_add_27 : decode cX6_add 27 = .ok (.iconst 1, 1) := by decide +kernel
theorem dX6_add_28 : decode cX6_add 28 = .ok (.iadd, 1) := by decide +kernel
theorem dX6_add_29 : decode cX6_add 29 = .ok (.putfield 15, 3) := by decide +kernel
theorem dX6_add_32 : decode cX6_add 32 = .ok (.aload_n 0, 1) := by decide +kernel
theorem dX6_add_33 : decode cX6_add 33 = .ok (.getfield 15, 3) := by decide +kernel
theorem dX6_add_36 : decode cX6_add 36 = .ok (.ireturn, 1) := by decide +kernel
theorem dX6_readInto_0 : decode cX6_readInto 0 = .ok (.iconst 0, 1) := by decide +kernel
theorem dX6_readInto_1 : decode cX6_readInto 1 = .ok (.istore_n 2, 1) := by decide +kernel
theorem dX6_readInto_2 : decode cX6_readInto 2 = .ok (.iconst 0, 1) := by decide +kernel
theorem dX6_readInto_3 : decode cX6_readInto 3 = .ok (.istore_n 3, 1) := by decide +kernel
theorem dX6_readInto_4 : decode cX6_readInto 4 = .ok (.iload_n 3, 1) := by decide +kernel
theorem dX6_readInto_5 : decode cX6_readInto 5 = .ok (.aload_n 0, 1) := by decide +kernel
theorem dX6_readInto_6 : decode cX6_readInto 6 = .ok (.getfield 15, 3) := by decide +kernel
theorem dX6_readInto_9 : decode cX6_readInto 9 = .ok (.if_icmp .ge 39, 3) := by decide +kernel
theorem dX6_readInto_12 : decode cX6_readInto 12 = .ok (.aload_n 0, 1) := by decide +kernel
theorem dX6_readInto_13 : decode cX6_readInto 13 = .ok (.getfield 9, 3) := by decide +kernel
theorem dX6_readInto_16 : decode cX6_readInto 16 = .ok (.iload_n 3, 1) := by decide +kernel
theorem dX6_readInto_17 : decode cX6_readInto 17 = .ok (.iaload, 1) := by decide +kernel
theorem dX6_readInto_18 : decode cX6_readInto 18 = .ok (.bipush 32, 2) := by decide +kernel
theorem dX6_readInto_20 : decode cX6_readInto 20 = .ok (.if_icmp .eq 15, 3) := by decide +kernel
theorem dX6_readInto_23 : decode cX6_readInto 23 = .ok (.iload_n 2, 1) := by decide +kernel
theorem dX6_readInto_24 : decode cX6_readInto 24 = .ok (.aload_n 0, 1) := by decide +kernel
theorem dX6_readInto_25 : decode cX6_readInto 25 = .ok (.getfield 9, 3) := by decide +kernel
theorem dX6_readInto_28 : decode cX6_readInto 28 = .ok (.iload_n 3, 1) := by decide +kernel
theorem dX6_readInto_29 : decode cX6_readInto 29 = .ok (.iaload, 1) := by decide +kernel
theorem dX6_readInto_30 : decode cX6_readInto 30 = .ok (.aload_n 1, 1) := by decide +kernel
theorem dX6_readInto_31 : decode cX6_readInto 31 = .ok (.invokestatic 19, 3) := by decide +kernel
theorem dX6_readInto_34 : decode cX6_readInto 34 = .ok (.istore_n 2, 1) := by decide +kernel
theorem dX6_readInto_35 : decode cX6_readInto 35 = .ok (.iload_n 2, 1) := by decide +kernel
theorem dX6_readInto_36 : decode cX6_readInto 36 = .ok (.iconst 4, 1) := by decide +kernel
theorem dX6_readInto_37 : decode cX6_readInto 37 = .ok (.if_icmp .ne 5, 3) := by decide +kernel
theorem dX6_readInto_40 : decode cX6_readInto 40 = .ok (.iload_n 3, 1) := by decide +kernel
theorem dX6_readInto_41 : decode cX6_readInto 41 = .ok (.ireturn, 1) := by decide +kernel
theorem dX6_readInto_42 : decode cX6_readInto 42 = .ok (.iinc 3 1, 3) := by decide +kernel
theorem dX6_readInto_45 : decode cX6_readInto 45 = .ok (.goto (-41), 3) := by decide +kernel
theorem dX6_readInto_48 : decode cX6_readInto 48 = .ok (.iload_n 2, 1) := by decide +kernel
theorem dX6_readInto_49 : decode cX6_readInto 49 = .ok (.iconst 3, 1) := by decide +kernel
theorem dX6_readInto_50 : decode cX6_readInto 50 = .ok (.if_icmp .ne 7, 3) := by decide +kernel
theorem dX6_readInto_53 : decode cX6_readInto 53 = .ok (.iconst (-1), 1) := by decide +kernel
theorem dX6_readInto_54 : decode cX6_readInto 54 = .ok (.goto 7, 3) := by decide +kernel
theorem dX6_readInto_57 : decode cX6_readInto 57 = .ok (.aload_n 0, 1) := by decide +kernel
theorem dX6_readInto_58 : decode cX6_readInto 58 = .ok (.getfield 15, 3) := by decide +kernel
theorem dX6_readInto_61 : decode cX6_readInto 61 = .ok (.ireturn, 1) := by decide +kernel
theorem dX6_behind_0 : decode cX6_behind 0 = .ok (.iload_n 1, 1) := by decide +kernel
theorem dX6_behind_1 : decode cX6_behind 1 = .ok (.bipush 97, 2) := by decide +kernel
theorem dX6_behind_3 : decode cX6_behind 3 = .ok (.if_icmp .lt 19, 3) := by decide +kernel
theorem dX6_behind_6 : decode cX6_behind 6 = .ok (.iload_n 1, 1) := by decide +kernel
theorem dX6_behind_7 : decode cX6_behind 7 = .ok (.bipush 122, 2) := by decide +kernel
theorem dX6_behind_9 : decode cX6_behind 9 = .ok (.if_icmp .gt 13, 3) := by decide +kernel
theorem dX6_behind_12 : decode cX6_behind 12 = .ok (.iload_n 0, 1) := by decide +kernel
theorem dX6_behind_13 : decode cX6_behind 13 = .ok (.iload_n 1, 1) := by decide +kernel
theorem dX6_behind_14 : decode cX6_behind 14 = .ok (.bipush 97, 2) := by decide +kernel
theorem dX6_behind_16 : decode cX6_behind 16 = .ok (.isub, 1) := by decide +kernel
theorem dX6_behind_17 : decode cX6_behind 17 = .ok (.aload_n 2, 1) := by decide +kernel
theorem dX6_behind_18 : decode cX6_behind 18 = .ok (.invokestatic 23, 3) := by decide +kernel
theorem dX6_behind_21 : decode cX6_behind 21 = .ok (.ireturn, 1) := by decide +kernel
theorem dX6_behind_22 : decode cX6_behind 22 = .ok (.iload_n 1, 1) := by decide +kernel
theorem dX6_behind_23 : decode cX6_behind 23 = .ok (.bipush 44, 2) := by decide +kernel
theorem dX6_behind_25 : decode cX6_behind 25 = .ok (.if_icmp .ne 23, 3) := by decide +kernel
theorem dX6_behind_28 : decode cX6_behind 28 = .ok (.iload_n 0, 1) := by decide +kernel
theorem dX6_behind_29 : decode cX6_behind 29 = .ok (.iconst 2, 1) := by decide +kernel
theorem dX6_behind_30 : decode cX6_behind 30 = .ok (.if_icmp .ne 16, 3) := by decide +kernel
theorem dX6_behind_33 : decode cX6_behind 33 = .ok (.aload_n 2, 1) := by decide +kernel
theorem dX6_behind_34 : decode cX6_behind 34 = .ok (.getfield 26, 3) := by decide +kernel
theorem dX6_behind_37 : decode cX6_behind 37 = .ok (.bipush 6, 2) := by decide +kernel
theorem dX6_behind_39 : decode cX6_behind 39 = .ok (.if_icmp .ge 7, 3) := by decide +kernel
theorem dX6_behind_42 : decode cX6_behind 42 = .ok (.iconst 1, 1) := by decide +kernel
theorem dX6_behind_43 : decode cX6_behind 43 = .ok (.goto 4, 3) := by decide +kernel
theorem dX6_behind_46 : decode cX6_behind 46 = .ok (.iconst 4, 1) := by decide +kernel
theorem dX6_behind_47 : decode cX6_behind 47 = .ok (.ireturn, 1) := by decide +kernel
theorem dX6_behind_48 : decode cX6_behind 48 = .ok (.iload_n 1, 1) := by decide +kernel
theorem dX6_behind_49 : decode cX6_behind 49 = .ok (.bipush 58, 2) := by decide +kernel
theorem dX6_behind_51 : decode cX6_behind 51 = .ok (.if_icmp .ne 18, 3) := by decide +kernel
theorem dX6_behind_54 : decode cX6_behind 54 = .ok (.iload_n 0, 1) := by decide +kernel
theorem dX6_behind_55 : decode cX6_behind 55 = .ok (.ifCond .eq 8, 3) := by decide +kernel
theorem dX6_behind_58 : decode cX6_behind 58 = .ok (.iload_n 0, 1) := by decide +kernel
theorem dX6_behind_59 : decode cX6_behind 59 = .ok (.iconst 2, 1) := by decide +kernel
theorem dX6_behind_60 : decode cX6_behind 60 = .ok (.if_icmp .ne 7, 3) := by decide +kernel
theorem dX6_behind_63 : decode cX6_behind 63 = .ok (.iconst 3, 1) := by decide +kernel
theorem dX6_behind_64 : decode cX6_behind 64 = .ok (.goto 4, 3) := by decide +kernel
theorem dX6_behind_67 : decode cX6_behind 67 = .ok (.iconst 4, 1) := by decide +kernel
theorem dX6_behind_68 : decode cX6_behind 68 = .ok (.ireturn, 1) := by decide +kernel
theorem dX6_behind_69 : decode cX6_behind 69 = .ok (.iconst 4, 1) := by decide +kernel
theorem dX6_behind_70 : decode cX6_behind 70 = .ok (.ireturn, 1) := by decide +kernel
theorem dX6_behindLetter_0 : decode cX6_behindLetter 0 = .ok (.iload_n 0, 1) := by decide +kernel
theorem dX6_behindLetter_1 : decode cX6_behindLetter 1 = .ok (.iconst 3, 1) := by decide +kernel
theorem dX6_behindLetter_2 : decode cX6_behindLetter 2 = .ok (.if_icmp .ne 17, 3) := by decide +kernel
theorem dX6_behindLetter_5 : decode cX6_behindLetter 5 = .ok (.aload_n 2, 1) := by decide +kernel
theorem dX6_behindLetter_6 : decode cX6_behindLetter 6 = .ok (.iload_n 1, 1) := by decide +kernel
theorem dX6_behindLetter_7 : decode cX6_behindLetter 7 = .ok (.invokevirtual 31, 3) := by decide +kernel
theorem dX6_behindLetter_10 : decode cX6_behindLetter 10 = .ok (.ifCond .lt 7, 3) := by decide +kernel
theorem dX6_behindLetter_13 : decode cX6_behindLetter 13 = .ok (.iconst 3, 1) := by decide +kernel
theorem dX6_behindLetter_14 : decode cX6_behindLetter 14 = .ok (.goto 4, 3) := by decide +kernel
theorem dX6_behindLetter_17 : decode cX6_behindLetter 17 = .ok (.iconst 4, 1) := by decide +kernel
theorem dX6_behindLetter_18 : decode cX6_behindLetter 18 = .ok (.ireturn, 1) := by decide +kernel
theorem dX6_behindLetter_19 : decode cX6_behindLetter 19 = .ok (.iload_n 0, 1) := by decide +kernel
theorem dX6_behindLetter_20 : decode cX6_behindLetter 20 = .ok (.iconst 2, 1) := by decide +kernel
theorem dX6_behindLetter_21 : decode cX6_behindLetter 21 = .ok (.if_icmp .ne 11, 3) := by decide +kernel
theorem dX6_behindLetter_24 : decode cX6_behindLetter 24 = .ok (.aload_n 2, 1) := by decide +kernel
theorem dX6_behindLetter_25 : decode cX6_behindLetter 25 = .ok (.iload_n 1, 1) := by decide +kernel
theorem dX6_behindLetter_26 : decode cX6_behindLetter 26 = .ok (.invokevirtual 35, 3) := by decide +kernel
theorem dX6_behindLetter_29 : decode cX6_behindLetter 29 = .ok (.goto 8, 3) := by decide +kernel
theorem dX6_behindLetter_32 : decode cX6_behindLetter 32 = .ok (.aload_n 2, 1) := by decide +kernel
theorem dX6_behindLetter_33 : decode cX6_behindLetter 33 = .ok (.iload_n 1, 1) := by decide +kernel
theorem dX6_behindLetter_34 : decode cX6_behindLetter 34 = .ok (.invokevirtual 39, 3) := by decide +kernel
theorem dX6_behindLetter_37 : decode cX6_behindLetter 37 = .ok (.istore_n 3, 1) := by decide +kernel
theorem dX6_behindLetter_38 : decode cX6_behindLetter 38 = .ok (.iload_n 3, 1) := by decide +kernel
theorem dX6_behindLetter_39 : decode cX6_behindLetter 39 = .ok (.ifCond .eq 7, 3) := by decide +kernel
theorem dX6_behindLetter_42 : decode cX6_behindLetter 42 = .ok (.iconst 2, 1) := by decide +kernel
theorem dX6_behindLetter_43 : decode cX6_behindLetter 43 = .ok (.goto 4, 3) := by decide +kernel
theorem dX6_behindLetter_46 : decode cX6_behindLetter 46 = .ok (.iconst 4, 1) := by decide +kernel
theorem dX6_behindLetter_47 : decode cX6_behindLetter 47 = .ok (.ireturn, 1) := by decide +kernel
theorem dX7_find_0 : decode cX7_find 0 = .ok (.aload_n 0, 1) := by decide +kernel
theorem dX7_find_1 : decode cX7_find 1 = .ok (.aload_n 1, 1) := by decide +kernel
theorem dX7_find_2 : decode cX7_find 2 = .ok (.getfield 31, 3) := by decide +kernel
theorem dX7_find_5 : decode cX7_find 5 = .ok (.putfield 27, 3) := by decide +kernel
theorem dX7_find_8 : decode cX7_find 8 = .ok (.iconst 0, 1) := by decide +kernel
theorem dX7_find_9 : decode cX7_find 9 = .ok (.istore_n 2, 1) := by decide +kernel
theorem dX7_find_10 : decode cX7_find 10 = .ok (.iload_n 2, 1) := by decide +kernel
theorem dX7_find_11 : decode cX7_find 11 = .ok (.aload_n 0, 1) := by decide +kernel
theorem dX7_find_12 : decode cX7_find 12 = .ok (.getfield 27, 3) := by decide +kernel
theorem dX7_find_15 : decode cX7_find 15 = .ok (.if_icmp .ge 45, 3) := by decide +kernel
theorem dX7_find_18 : decode cX7_find 18 = .ok (.aload_n 0, 1) := by decide +kernel
theorem dX7_find_19 : decode cX7_find 19 = .ok (.getfield 9, 3) := by decide +kernel
theorem dX7_find_22 : decode cX7_find 22 = .ok (.iload_n 2, 1) := by decide +kernel
theorem dX7_find_23 : decode cX7_find 23 = .ok (.iconst 1, 1) := by decide +kernel
theorem dX7_find_24 : decode cX7_find 24 = .ok (.iadd, 1) := by decide +kernel
theorem dX7_find_25 : decode cX7_find 25 = .ok (.getstatic 36, 3) := by decide +kernel
theorem dX7_find_28 : decode cX7_find 28 = .ok (.aload_n 1, 1) := by decide +kernel
theorem dX7_find_29 : decode cX7_find 29 = .ok (.getfield 39, 3) := by decide +kernel
theorem dX7_find_32 : decode cX7_find 32 = .ok (.iload_n 2, 1) := by decide +kernel
theorem dX7_find_33 : decode cX7_find 33 = .ok (.iaload, 1) := by decide +kernel
theorem dX7_find_34 : decode cX7_find 34 = .ok (.iaload, 1) := by decide +kernel
theorem dX7_find_35 : decode cX7_find 35 = .ok (.iastore, 1) := by decide +kernel
theorem dX7_find_36 : decode cX7_find 36 = .ok (.aload_n 0, 1) := by decide +kernel
theorem dX7_find_37 : decode cX7_find 37 = .ok (.getfield 15, 3) := by decide +kernel
theorem dX7_find_40 : decode cX7_find 40 = .ok (.iload_n 2, 1) := by decide +kernel
theorem dX7_find_41 : decode cX7_find 41 = .ok (.iconst 1, 1) := by decide +kernel
theorem dX7_find_42 : decode cX7_find 42 = .ok (.iadd, 1) := by decide +kernel
theorem dX7_find_43 : decode cX7_find 43 = .ok (.getstatic 42, 3) := by decide +kernel
theorem dX7_find_46 : decode cX7_find 46 = .ok (.aload_n 1, 1) := by decide +kernel
theorem dX7_find_47 : decode cX7_find 47 = .ok (.getfield 39, 3) := by decide +kernel
theorem dX7_find_50 : decode cX7_find 50 = .ok (.iload_n 2, 1) := by decide +kernel
theorem dX7_find_51 : decode cX7_find 51 = .ok (.iaload, 1) := by decide +kernel
theorem dX7_find_52 : decode cX7_find 52 = .ok (.iaload, 1) := by decide +kernel
theorem dX7_find_53 : decode cX7_find 53 = .ok (.iastore, 1) := by decide +kernel
theorem dX7_find_54 : decode cX7_find 54 = .ok (.iinc 2 1, 3) := by decide +kernel
theorem dX7_find_57 : decode cX7_find 57 = .ok (.goto (-47), 3) := by decide +kernel
theorem dX7_find_60 : decode cX7_find 60 = .ok (.aload_n 0, 1) := by decide +kernel
theorem dX7_find_61 : decode cX7_find 61 = .ok (.aload_n 1, 1) := by decide +kernel
theorem dX7_find_62 : decode cX7_find 62 = .ok (.invokevirtual 45, 3) := by decide +kernel
theorem dX7_find_65 : decode cX7_find 65 = .ok (.aload_n 0, 1) := by decide +kernel
theorem dX7_find_66 : decode cX7_find 66 = .ok (.aload_n 1, 1) := by decide +kernel
theorem dX7_find_67 : decode cX7_find 67 = .ok (.invokevirtual 49, 3) := by decide +kernel
theorem dX7_find_70 : decode cX7_find 70 = .ok (.return_, 1) := by decide +kernel
theorem dX7_weigh_0 : decode cX7_weigh 0 = .ok (.iconst 0, 1) := by decide +kernel
theorem dX7_weigh_1 : decode cX7_weigh 1 = .ok (.istore_n 2, 1) := by decide +kernel
theorem dX7_weigh_2 : decode cX7_weigh 2 = .ok (.iload_n 2, 1) := by decide +kernel
theorem dX7_weigh_3 : decode cX7_weigh 3 = .ok (.iconst 2, 1) := by decide +kernel
theorem dX7_weigh_4 : decode cX7_weigh 4 = .ok (.if_icmp .ge 37, 3) := by decide +kernel
theorem dX7_weigh_7 : decode cX7_weigh 7 = .ok (.aload_n 0, 1) := by decide +kernel
theorem dX7_weigh_8 : decode cX7_weigh 8 = .ok (.getfield 18, 3) := by decide +kernel
theorem dX7_weigh_11 : decode cX7_weigh 11 = .ok (.iconst 2, 1) := by decide +kernel
theorem dX7_weigh_12 : decode cX7_weigh 12 = .ok (.aload_n 0, 1) := by decide +kernel
theorem dX7_weigh_13 : decode cX7_weigh 13 = .ok (.getfield 27, 3) := by decide +kernel
theorem dX7_weigh_16 : decode cX7_weigh 16 = .ok (.imul, 1) := by decide +kernel
theorem dX7_weigh_17 : decode cX7_weigh 17 = .ok (.iload_n 2, 1) := by decide +kernel
theorem dX7_weigh_18 : decode cX7_weigh 18 = .ok (.iadd, 1) := by decide +kernel
theorem dX7_weigh_19 : decode cX7_weigh 19 = .ok (.iconst 0, 1) := by decide +kernel
theorem dX7_weigh_20 : decode cX7_weigh 20 = .ok (.iastore, 1) := by decide +kernel
theorem dX7_weigh_21 : decode cX7_weigh 21 = .ok (.aload_n 0, 1) := by decide +kernel
theorem dX7_weigh_22 : decode cX7_weigh 22 = .ok (.getfield 21, 3) := by decide +kernel
theorem dX7_weigh_25 : decode cX7_weigh 25 = .ok (.iconst 2, 1) := by decide +kernel
theorem dX7_weigh_26 : decode cX7_weigh 26 = .ok (.aload_n 0, 1) := by decide +kernel
theorem dX7_weigh_27 : decode cX7_weigh 27 = .ok (.getfield 27, 3) := by decide +kernel
theorem dX7_weigh_30 : decode cX7_weigh 30 = .ok (.imul, 1) := by decide +kernel
theorem dX7_weigh_31 : decode cX7_weigh 31 = .ok (.iload_n 2, 1) := by decide +kernel
theorem dX7_weigh_32 : decode cX7_weigh 32 = .ok (.iadd, 1) := by decide +kernel
theorem dX7_weigh_33 : decode cX7_weigh 33 = .ok (.iconst 1, 1) := by decide +kernel
theorem dX7_weigh_34 : decode cX7_weigh 34 = .ok (.iastore, 1) := by decide +kernel
theorem dX7_weigh_35 : decode cX7_weigh 35 = .ok (.iinc 2 1, 3) := by decide +kernel
theorem dX7_weigh_38 : decode cX7_weigh 38 = .ok (.goto (-36), 3) := by decide +kernel
theorem dX7_weigh_41 : decode cX7_weigh 41 = .ok (.aload_n 0, 1) := by decide +kernel
theorem dX7_weigh_42 : decode cX7_weigh 42 = .ok (.getfield 27, 3) := by decide +kernel
theorem dX7_weigh_45 : decode cX7_weigh 45 = .ok (.iconst 1, 1) := by decide +kernel
theorem dX7_weigh_46 : decode cX7_weigh 46 = .ok (.isub, 1) := by decide +kernel
theorem dX7_weigh_47 : decode cX7_weigh 47 = .ok (.istore_n 2, 1) := by decide +kernel
theorem dX7_weigh_48 : decode cX7_weigh 48 = .ok (.iload_n 2, 1) := by decide +kernel
theorem dX7_weigh_49 : decode cX7_weigh 49 = .ok (.ifCond .lt 116, 3) := by decide +kernel
theorem dX7_weigh_52 : decode cX7_weigh 52 = .ok (.iconst 0, 1) := by decide +kernel
theorem dX7_weigh_53 : decode cX7_weigh 53 = .ok (.istore_n 3, 1) := by decide +kernel
theorem dX7_weigh_54 : decode cX7_weigh 54 = .ok (.iload_n 3, 1) := by decide +kernel
theorem dX7_weigh_55 : decode cX7_weigh 55 = .ok (.iconst 2, 1) := by decide +kernel
theorem dX7_weigh_56 : decode cX7_weigh 56 = .ok (.if_icmp .ge 103, 3) := by decide +kernel
theorem dX7_weigh_59 : decode cX7_weigh 59 = .ok (.aload_n 0, 1) := by decide +kernel
theorem dX7_weigh_60 : decode cX7_weigh 60 = .ok (.aload_n 1, 1) := by decide +kernel
theorem dX7_weigh_61 : decode cX7_weigh 61 = .ok (.iload_n 2, 1) := by decide +kernel
theorem dX7_weigh_62 : decode cX7_weigh 62 = .ok (.iload_n 3, 1) := by decide +kernel
theorem dX7_weigh_63 : decode cX7_weigh 63 = .ok (.iconst 0, 1) := by decide +kernel
theorem dX7_weigh_64 : decode cX7_weigh 64 = .ok (.invokevirtual 52, 3) := by decide +kernel
theorem dX7_weigh_67 : decode cX7_weigh 67 = .ok (.istore 4, 2) := by decide +kernel
theorem dX7_weigh_69 : decode cX7_weigh 69 = .ok (.aload_n 0, 1) := by decide +kernel
theorem dX7_weigh_70 : decode cX7_weigh 70 = .ok (.aload_n 1, 1) := by decide +kernel
theorem dX7_weigh_71 : decode cX7_weigh 71 = .ok (.iload_n 2, 1) := by decide +kernel
theorem dX7_weigh_72 : decode cX7_weigh 72 = .ok (.iload_n 3, 1) := by decide +kernel
theorem dX7_weigh_73 : decode cX7_weigh 73 = .ok (.iconst 1, 1) := by decide +kernel
theorem dX7_weigh_74 : decode cX7_weigh 74 = .ok (.invokevirtual 52, 3) := by decide +kernel
theorem dX7_weigh_77 : decode cX7_weigh 77 = .ok (.istore 5, 2) := by decide +kernel
theorem dX7_weigh_79 : decode cX7_weigh 79 = .ok (.iconst 2, 1) := by decide +kernel
theorem dX7_weigh_80 : decode cX7_weigh 80 = .ok (.iload_n 2, 1) := by decide +kernel
theorem dX7_weigh_81 : decode cX7_weigh 81 = .ok (.imul, 1) := by decide +kernel
theorem dX7_weigh_82 : decode cX7_weigh 82 = .ok (.iload_n 3, 1) := by decide +kernel
theorem dX7_weigh_83 : decode cX7_weigh 83 = .ok (.iadd, 1) := by decide +kernel
theorem dX7_weigh_84 : decode cX7_weigh 84 = .ok (.istore 6, 2) := by decide +kernel
theorem dX7_weigh_86 : decode cX7_weigh 86 = .ok (.iconst 2, 1) := by decide +kernel
theorem dX7_weigh_87 : decode cX7_weigh 87 = .ok (.iload_n 2, 1) := by decide +kernel
theorem dX7_weigh_88 : decode cX7_weigh 88 = .ok (.imul, 1) := by decide +kernel
theorem dX7_weigh_89 : decode cX7_weigh 89 = .ok (.iconst 2, 1) := by decide +kernel
theorem dX7_weigh_90 : decode cX7_weigh 90 = .ok (.iadd, 1) := by decide +kernel
theorem dX7_weigh_91 : decode cX7_weigh 91 = .ok (.istore 7, 2) := by decide +kernel
theorem dX7_weigh_93 : decode cX7_weigh 93 = .ok (.aload_n 0, 1) := by decide +kernel
theorem dX7_weigh_94 : decode cX7_weigh 94 = .ok (.getfield 18, 3) := by decide +kernel
theorem dX7_weigh_97 : decode cX7_weigh 97 = .ok (.iload 6, 2) := by decide +kernel
theorem dX7_weigh_99 : decode cX7_weigh 99 = .ok (.iload 4, 2) := by decide +kernel
theorem dX7_weigh_101 : decode cX7_weigh 101 = .ok (.iload 5, 2) := by decide +kernel
theorem dX7_weigh_103 : decode cX7_weigh 103 = .ok (.invokestatic 56, 3) := by decide +kernel
theorem dX7_weigh_106 : decode cX7_weigh 106 = .ok (.iastore, 1) := by decide +kernel
theorem dX7_weigh_107 : decode cX7_weigh 107 = .ok (.aload_n 0, 1) := by decide +kernel
theorem dX7_weigh_108 : decode cX7_weigh 108 = .ok (.getfield 21, 3) := by decide +kernel
theorem dX7_weigh_111 : decode cX7_weigh 111 = .ok (.iload 6, 2) := by decide +kernel
theorem dX7_weigh_113 : decode cX7_weigh 113 = .ok (.iload 4, 2) := by decide +kernel
theorem dX7_weigh_115 : decode cX7_weigh 115 = .ok (.iload 5, 2) := by decide +kernel
theorem dX7_weigh_117 : decode cX7_weigh 117 = .ok (.if_icmp .gt 13, 3) := by decide +kernel
theorem dX7_weigh_120 : decode cX7_weigh 120 = .ok (.aload_n 0, 1) := by decide +kernel
theorem dX7_weigh_121 : decode cX7_weigh 121 = .ok (.getfield 21, 3) := by decide +kernel
theorem dX7_weigh_124 : decode cX7_weigh 124 = .ok (.iload 7, 2) := by decide +kernel
theorem dX7_weigh_126 : decode cX7_weigh 126 = .ok (.iaload, 1) := by decide +kernel
theorem dX7_weigh_127 : decode cX7_weigh 127 = .ok (.goto 4, 3) := by decide +kernel
theorem dX7_weigh_130 : decode cX7_weigh 130 = .ok (.iconst 0, 1) := by decide +kernel
theorem dX7_weigh_131 : decode cX7_weigh 131 = .ok (.iload 5, 2) := by decide +kernel
theorem dX7_weigh_133 : decode cX7_weigh 133 = .ok (.iload 4, 2) := by decide +kernel
theorem dX7_weigh_135 : decode cX7_weigh 135 = .ok (.if_icmp .gt 15, 3) := by decide +kernel
theorem dX7_weigh_138 : decode cX7_weigh 138 = .ok (.aload_n 0, 1) := by decide +kernel
theorem dX7_weigh_139 : decode cX7_weigh 139 = .ok (.getfield 21, 3) := by decide +kernel
theorem dX7_weigh_142 : decode cX7_weigh 142 = .ok (.iload 7, 2) := by decide +kernel
theorem dX7_weigh_144 : decode cX7_weigh 144 = .ok (.iconst 1, 1) := by decide +kernel
theorem dX7_weigh_145 : decode cX7_weigh 145 = .ok (.iadd, 1) := by decide +kernel
theorem dX7_weigh_146 : decode cX7_weigh 146 = .ok (.iaload, 1) := by decide +kernel
theorem dX7_weigh_147 : decode cX7_weigh 147 = .ok (.goto 4, 3) := by decide +kernel
theorem dX7_weigh_150 : decode cX7_weigh 150 = .ok (.iconst 0, 1) := by decide +kernel
theorem dX7_weigh_151 : decode cX7_weigh 151 = .ok (.iadd, 1) := by decide +kernel
theorem dX7_weigh_152 : decode cX7_weigh 152 = .ok (.iastore, 1) := by decide +kernel
theorem dX7_weigh_153 : decode cX7_weigh 153 = .ok (.iinc 3 1, 3) := by decide +kernel
theorem dX7_weigh_156 : decode cX7_weigh 156 = .ok (.goto (-102), 3) := by decide +kernel
theorem dX7_weigh_159 : decode cX7_weigh 159 = .ok (.iinc 2 (-1), 3) := by decide +kernel
theorem dX7_weigh_162 : decode cX7_weigh 162 = .ok (.goto (-114), 3) := by decide +kernel
theorem dX7_weigh_165 : decode cX7_weigh 165 = .ok (.return_, 1) := by decide +kernel
theorem dX7_choose_0 : decode cX7_choose 0 = .ok (.aload_n 0, 1) := by decide +kernel
theorem dX7_choose_1 : decode cX7_choose 1 = .ok (.getfield 24, 3) := by decide +kernel
theorem dX7_choose_4 : decode cX7_choose 4 = .ok (.iconst 0, 1) := by decide +kernel
theorem dX7_choose_5 : decode cX7_choose 5 = .ok (.iconst 0, 1) := by decide +kernel
theorem dX7_choose_6 : decode cX7_choose 6 = .ok (.iastore, 1) := by decide +kernel
theorem dX7_choose_7 : decode cX7_choose 7 = .ok (.iconst 0, 1) := by decide +kernel
theorem dX7_choose_8 : decode cX7_choose 8 = .ok (.istore_n 2, 1) := by decide +kernel
theorem dX7_choose_9 : decode cX7_choose 9 = .ok (.iload_n 2, 1) := by decide +kernel
theorem dX7_choose_10 : decode cX7_choose 10 = .ok (.aload_n 0, 1) := by decide +kernel
theorem dX7_choose_11 : decode cX7_choose 11 = .ok (.getfield 27, 3) := by decide +kernel
theorem dX7_choose_14 : decode cX7_choose 14 = .ok (.if_icmp .ge 55, 3) := by decide +kernel
theorem dX7_choose_17 : decode cX7_choose 17 = .ok (.aload_n 0, 1) := by decide +kernel
theorem dX7_choose_18 : decode cX7_choose 18 = .ok (.aload_n 1, 1) := by decide +kernel
theorem dX7_choose_19 : decode cX7_choose 19 = .ok (.iload_n 2, 1) := by decide +kernel
theorem dX7_choose_20 : decode cX7_choose 20 = .ok (.aload_n 0, 1) := by decide +kernel
theorem dX7_choose_21 : decode cX7_choose 21 = .ok (.getfield 24, 3) := by decide +kernel
theorem dX7_choose_24 : decode cX7_choose 24 = .ok (.iload_n 2, 1) := by decide +kernel
theorem dX7_choose_25 : decode cX7_choose 25 = .ok (.iaload, 1) := by decide +kernel
theorem dX7_choose_26 : decode cX7_choose 26 = .ok (.iconst 0, 1) := by decide +kernel
theorem dX7_choose_27 : decode cX7_choose 27 = .ok (.invokevirtual 52, 3) := by decide +kernel
theorem dX7_choose_30 : decode cX7_choose 30 = .ok (.istore_n 3, 1) := by decide +kernel
theorem dX7_choose_31 : decode cX7_choose 31 = .ok (.aload_n 0, 1) := by decide +kernel
theorem dX7_choose_32 : decode cX7_choose 32 = .ok (.getfield 24, 3) := by decide +kernel
theorem dX7_choose_35 : decode cX7_choose 35 = .ok (.iload_n 2, 1) := by decide +kernel
theorem dX7_choose_36 : decode cX7_choose 36 = .ok (.iconst 1, 1) := by decide +kernel
theorem dX7_choose_37 : decode cX7_choose 37 = .ok (.iadd, 1) := by decide +kernel
theorem dX7_choose_38 : decode cX7_choose 38 = .ok (.iload_n 3, 1) := by decide +kernel
theorem dX7_choose_39 : decode cX7_choose 39 = .ok (.aload_n 0, 1) := by decide +kernel
theorem dX7_choose_40 : decode cX7_choose 40 = .ok (.getfield 18, 3) := by decide +kernel
theorem dX7_choose_43 : decode cX7_choose 43 = .ok (.iconst 2, 1) := by decide +kernel
theorem dX7_choose_44 : decode cX7_choose 44 = .ok (.iload_n 2, 1) := by decide +kernel
theorem dX7_choose_45 : decode cX7_choose 45 = .ok (.imul, 1) := by decide +kernel
theorem dX7_choose_46 : decode cX7_choose 46 = .ok (.aload_n 0, 1) := by decide +kernel
theorem dX7_choose_47 : decode cX7_choose 47 = .ok (.getfield 24, 3) := by decide +kernel
theorem dX7_choose_50 : decode cX7_choose 50 = .ok (.iload_n 2, 1) := by decide +kernel
theorem dX7_choose_51 : decode cX7_choose 51 = .ok (.iaload, 1) := by decide +kernel
theorem dX7_choose_52 : decode cX7_choose 52 = .ok (.iadd, 1) := by decide +kernel
theorem dX7_choose_53 : decode cX7_choose 53 = .ok (.iaload, 1) := by decide +kernel
theorem dX7_choose_54 : decode cX7_choose 54 = .ok (.if_icmp .ne 7, 3) := by decide +kernel
theorem dX7_choose_57 : decode cX7_choose 57 = .ok (.iconst 0, 1) := by decide +kernel
theorem dX7_choose_58 : decode cX7_choose 58 = .ok (.goto 4, 3) := by decide +kernel
theorem dX7_choose_61 : decode cX7_choose 61 = .ok (.iconst 1, 1) := by decide +kernel
theorem dX7_choose_62 : decode cX7_choose 62 = .ok (.iastore, 1) := by decide +kernel
theorem dX7_choose_63 : decode cX7_choose 63 = .ok (.iinc 2 1, 3) := by decide +kernel
theorem dX7_choose_66 : decode cX7_choose 66 = .ok (.goto (-57), 3) := by decide +kernel
theorem dX7_choose_69 : decode cX7_choose 69 = .ok (.return_, 1) := by decide +kernel
theorem dX7_effortBy_0 : decode cX7_effortBy 0 = .ok (.iload_n 2, 1) := by decide +kernel
theorem dX7_effortBy_1 : decode cX7_effortBy 1 = .ok (.iconst 1, 1) := by decide +kernel
theorem dX7_effortBy_2 : decode cX7_effortBy 2 = .ok (.iadd, 1) := by decide +kernel
theorem dX7_effortBy_3 : decode cX7_effortBy 3 = .ok (.istore 5, 2) := by decide +kernel
theorem dX7_effortBy_5 : decode cX7_effortBy 5 = .ok (.aload_n 0, 1) := by decide +kernel
theorem dX7_effortBy_6 : decode cX7_effortBy 6 = .ok (.iload 5, 2) := by decide +kernel
theorem dX7_effortBy_8 : decode cX7_effortBy 8 = .ok (.iload 4, 2) := by decide +kernel
theorem dX7_effortBy_10 : decode cX7_effortBy 10 = .ok (.invokevirtual 62, 3) := by decide +kernel
theorem dX7_effortBy_13 : decode cX7_effortBy 13 = .ok (.istore 6, 2) := by decide +kernel
theorem dX7_effortBy_15 : decode cX7_effortBy 15 = .ok (.aload_n 0, 1) := by decide +kernel
theorem dX7_effortBy_16 : decode cX7_effortBy 16 = .ok (.iload 5, 2) := by decide +kernel
theorem dX7_effortBy_18 : decode cX7_effortBy 18 = .ok (.iconst 1, 1) := by decide +kernel
theorem dX7_effortBy_19 : decode cX7_effortBy 19 = .ok (.iload 4, 2) := by decide +kernel
theorem dX7_effortBy_21 : decode cX7_effortBy 21 = .ok (.isub, 1) := by decide +kernel
theorem dX7_effortBy_22 : decode cX7_effortBy 22 = .ok (.invokevirtual 62, 3) := by decide +kernel
theorem dX7_effortBy_25 : decode cX7_effortBy 25 = .ok (.istore 7, 2) := by decide +kernel
theorem dX7_effortBy_27 : decode cX7_effortBy 27 = .ok (.aload_n 1, 1) := by decide +kernel
theorem dX7_effortBy_28 : decode cX7_effortBy 28 = .ok (.aload_n 0, 1) := by decide +kernel
theorem dX7_effortBy_29 : decode cX7_effortBy 29 = .ok (.iload_n 2, 1) := by decide +kernel
theorem dX7_effortBy_30 : decode cX7_effortBy 30 = .ok (.iload_n 3, 1) := by decide +kernel
theorem dX7_effortBy_31 : decode cX7_effortBy 31 = .ok (.invokevirtual 62, 3) := by decide +kernel
theorem dX7_effortBy_34 : decode cX7_effortBy 34 = .ok (.aload_n 0, 1) := by decide +kernel
theorem dX7_effortBy_35 : decode cX7_effortBy 35 = .ok (.iload_n 2, 1) := by decide +kernel
theorem dX7_effortBy_36 : decode cX7_effortBy 36 = .ok (.iconst 1, 1) := by decide +kernel
theorem dX7_effortBy_37 : decode cX7_effortBy 37 = .ok (.iload_n 3, 1) := by decide +kernel
theorem dX7_effortBy_38 : decode cX7_effortBy 38 = .ok (.isub, 1) := by decide +kernel
theorem dX7_effortBy_39 : decode cX7_effortBy 39 = .ok (.invokevirtual 62, 3) := by decide +kernel
theorem dX7_effortBy_42 : decode cX7_effortBy 42 = .ok (.iload 6, 2) := by decide +kernel
theorem dX7_effortBy_44 : decode cX7_effortBy 44 = .ok (.iload 7, 2) := by decide +kernel
theorem dX7_effortBy_46 : decode cX7_effortBy 46 = .ok (.invokevirtual 65, 3) := by decide +kernel
theorem dX7_effortBy_49 : decode cX7_effortBy 49 = .ok (.aload_n 0, 1) := by decide +kernel
theorem dX7_effortBy_50 : decode cX7_effortBy 50 = .ok (.getfield 18, 3) := by decide +kernel
theorem dX7_effortBy_53 : decode cX7_effortBy 53 = .ok (.iconst 2, 1) := by decide +kernel
theorem dX7_effortBy_54 : decode cX7_effortBy 54 = .ok (.iload 5, 2) := by decide +kernel
theorem dX7_effortBy_56 : decode cX7_effortBy 56 = .ok (.imul, 1) := by decide +kernel
theorem dX7_effortBy_57 : decode cX7_effortBy 57 = .ok (.iload 4, 2) := by decide +kernel
theorem dX7_effortBy_59 : decode cX7_effortBy 59 = .ok (.iadd, 1) := by decide +kernel
theorem dX7_effortBy_60 : decode cX7_effortBy 60 = .ok (.iaload, 1) := by decide +kernel
theorem dX7_effortBy_61 : decode cX7_effortBy 61 = .ok (.iadd, 1) := by decide +kernel
theorem dX7_effortBy_62 : decode cX7_effortBy 62 = .ok (.ireturn, 1) := by decide +kernel
theorem dX7_dirOf_0 : decode cX7_dirOf 0 = .ok (.iload_n 2, 1) := by decide +kernel
theorem dX7_dirOf_1 : decode cX7_dirOf 1 = .ok (.ifCond .ne 12, 3) := by decide +kernel
theorem dX7_dirOf_4 : decode cX7_dirOf 4 = .ok (.aload_n 0, 1) := by decide +kernel
theorem dX7_dirOf_5 : decode cX7_dirOf 5 = .ok (.getfield 9, 3) := by decide +kernel
theorem dX7_dirOf_8 : decode cX7_dirOf 8 = .ok (.iload_n 1, 1) := by decide +kernel
theorem dX7_dirOf_9 : decode cX7_dirOf 9 = .ok (.iaload, 1) := by decide +kernel
theorem dX7_dirOf_10 : decode cX7_dirOf 10 = .ok (.goto 9, 3) := by decide +kernel
theorem dX7_dirOf_13 : decode cX7_dirOf 13 = .ok (.aload_n 0, 1) := by decide +kernel
theorem dX7_dirOf_14 : decode cX7_dirOf 14 = .ok (.getfield 15, 3) := by decide +kernel
theorem dX7_dirOf_17 : decode cX7_dirOf 17 = .ok (.iload_n 1, 1) := by decide +kernel
theorem dX7_dirOf_18 : decode cX7_dirOf 18 = .ok (.iaload, 1) := by decide +kernel
theorem dX7_dirOf_19 : decode cX7_dirOf 19 = .ok (.ireturn, 1) := by decide +kernel
theorem dX7_leastEffort_0 : decode cX7_leastEffort 0 = .ok (.aload_n 0, 1) := by decide +kernel
theorem dX7_leastEffort_1 : decode cX7_leastEffort 1 = .ok (.getfield 18, 3) := by decide +kernel
theorem dX7_leastEffort_4 : decode cX7_leastEffort 4 = .ok (.iconst 0, 1) := by decide +kernel
theorem dX7_leastEffort_5 : decode cX7_leastEffort 5 = .ok (.iaload, 1) := by decide +kernel
theorem dX7_leastEffort_6 : decode cX7_leastEffort 6 = .ok (.ireturn, 1) := by decide +kernel
theorem dX7_howMany_0 : decode cX7_howMany 0 = .ok (.aload_n 0, 1) := by decide +kernel
theorem dX7_howMany_1 : decode cX7_howMany 1 = .ok (.getfield 21, 3) := by decide +kernel
theorem dX7_howMany_4 : decode cX7_howMany 4 = .ok (.iconst 0, 1) := by decide +kernel
theorem dX7_howMany_5 : decode cX7_howMany 5 = .ok (.iaload, 1) := by decide +kernel
theorem dX7_howMany_6 : decode cX7_howMany 6 = .ok (.ireturn, 1) := by decide +kernel
theorem dX7_leftAt_0 : decode cX7_leftAt 0 = .ok (.aload_n 0, 1) := by decide +kernel
theorem dX7_leftAt_1 : decode cX7_leftAt 1 = .ok (.iload_n 1, 1) := by decide +kernel
theorem dX7_leftAt_2 : decode cX7_leftAt 2 = .ok (.aload_n 0, 1) := by decide +kernel
theorem dX7_leftAt_3 : decode cX7_leftAt 3 = .ok (.getfield 24, 3) := by decide +kernel
theorem dX7_leftAt_6 : decode cX7_leftAt 6 = .ok (.iload_n 1, 1) := by decide +kernel
theorem dX7_leftAt_7 : decode cX7_leftAt 7 = .ok (.iaload, 1) := by decide +kernel
theorem dX7_leftAt_8 : decode cX7_leftAt 8 = .ok (.invokevirtual 62, 3) := by decide +kernel
theorem dX7_leftAt_11 : decode cX7_leftAt 11 = .ok (.ireturn, 1) := by decide +kernel
theorem dX7_rightAt_0 : decode cX7_rightAt 0 = .ok (.aload_n 0, 1) := by decide +kernel
theorem dX7_rightAt_1 : decode cX7_rightAt 1 = .ok (.iload_n 1, 1) := by decide +kernel
theorem dX7_rightAt_2 : decode cX7_rightAt 2 = .ok (.iconst 1, 1) := by decide +kernel
theorem dX7_rightAt_3 : decode cX7_rightAt 3 = .ok (.aload_n 0, 1) := by decide +kernel
theorem dX7_rightAt_4 : decode cX7_rightAt 4 = .ok (.getfield 24, 3) := by decide +kernel
theorem dX7_rightAt_7 : decode cX7_rightAt 7 = .ok (.iload_n 1, 1) := by decide +kernel
theorem dX7_rightAt_8 : decode cX7_rightAt 8 = .ok (.iaload, 1) := by decide +kernel
theorem dX7_rightAt_9 : decode cX7_rightAt 9 = .ok (.isub, 1) := by decide +kernel
theorem dX7_rightAt_10 : decode cX7_rightAt 10 = .ok (.invokevirtual 62, 3) := by decide +kernel
theorem dX7_rightAt_13 : decode cX7_rightAt 13 = .ok (.ireturn, 1) := by decide +kernel
theorem dX7_leftSteps_0 : decode cX7_leftSteps 0 = .ok (.iconst 0, 1) := by decide +kernel
theorem dX7_leftSteps_1 : decode cX7_leftSteps 1 = .ok (.istore_n 1, 1) := by decide +kernel
theorem dX7_leftSteps_2 : decode cX7_leftSteps 2 = .ok (.iconst 0, 1) := by decide +kernel
theorem dX7_leftSteps_3 : decode cX7_leftSteps 3 = .ok (.istore_n 2, 1) := by decide +kernel
theorem dX7_leftSteps_4 : decode cX7_leftSteps 4 = .ok (.iload_n 2, 1) := by decide +kernel
theorem dX7_leftSteps_5 : decode cX7_leftSteps 5 = .ok (.aload_n 0, 1) := by decide +kernel
theorem dX7_leftSteps_6 : decode cX7_leftSteps 6 = .ok (.getfield 27, 3) := by decide +kernel
theorem dX7_leftSteps_9 : decode cX7_leftSteps 9 = .ok (.if_icmp .ge 27, 3) := by decide +kernel
theorem dX7_leftSteps_12 : decode cX7_leftSteps 12 = .ok (.iload_n 1, 1) := by decide +kernel
theorem dX7_leftSteps_13 : decode cX7_leftSteps 13 = .ok (.aload_n 0, 1) := by decide +kernel
theorem dX7_leftSteps_14 : decode cX7_leftSteps 14 = .ok (.iload_n 2, 1) := by decide +kernel
theorem dX7_leftSteps_15 : decode cX7_leftSteps 15 = .ok (.invokevirtual 69, 3) := by decide +kernel
theorem dX7_leftSteps_18 : decode cX7_leftSteps 18 = .ok (.aload_n 0, 1) := by decide +kernel
theorem dX7_leftSteps_19 : decode cX7_leftSteps 19 = .ok (.iload_n 2, 1) := by decide +kernel
theorem dX7_leftSteps_20 : decode cX7_leftSteps 20 = .ok (.iconst 1, 1) := by decide +kernel
theorem dX7_leftSteps_21 : decode cX7_leftSteps 21 = .ok (.iadd, 1) := by decide +kernel
theorem dX7_leftSteps_22 : decode cX7_leftSteps 22 = .ok (.invokevirtual 69, 3) := by decide +kernel
theorem dX7_leftSteps_25 : decode cX7_leftSteps 25 = .ok (.invokestatic 73, 3) := by decide +kernel
theorem dX7_leftSteps_28 : decode cX7_leftSteps 28 = .ok (.iadd, 1) := by decide +kernel
theorem dX7_leftSteps_29 : decode cX7_leftSteps 29 = .ok (.istore_n 1, 1) := by decide +kernel
theorem dX7_leftSteps_30 : decode cX7_leftSteps 30 = .ok (.iinc 2 1, 3) := by decide +kernel
theorem dX7_leftSteps_33 : decode cX7_leftSteps 33 = .ok (.goto (-29), 3) := by decide +kernel
theorem dX7_leftSteps_36 : decode cX7_leftSteps 36 = .ok (.iload_n 1, 1) := by decide +kernel
theorem dX7_leftSteps_37 : decode cX7_leftSteps 37 = .ok (.ireturn, 1) := by decide +kernel
theorem dX7_rightSteps_0 : decode cX7_rightSteps 0 = .ok (.iconst 0, 1) := by decide +kernel
theorem dX7_rightSteps_1 : decode cX7_rightSteps 1 = .ok (.istore_n 1, 1) := by decide +kernel
theorem dX7_rightSteps_2 : decode cX7_rightSteps 2 = .ok (.iconst 0, 1) := by decide +kernel
theorem dX7_rightSteps_3 : decode cX7_rightSteps 3 = .ok (.istore_n 2, 1) := by decide +kernel
theorem dX7_rightSteps_4 : decode cX7_rightSteps 4 = .ok (.iload_n 2, 1) := by decide +kernel
theorem dX7_rightSteps_5 : decode cX7_rightSteps 5 = .ok (.aload_n 0, 1) := by decide +kernel
theorem dX7_rightSteps_6 : decode cX7_rightSteps 6 = .ok (.getfield 27, 3) := by decide +kernel
theorem dX7_rightSteps_9 : decode cX7_rightSteps 9 = .ok (.if_icmp .ge 27, 3) := by decide +kernel
theorem dX7_rightSteps_12 : decode cX7_rightSteps 12 = .ok (.iload_n 1, 1) := by decide +kernel
theorem dX7_rightSteps_13 : decode cX7_rightSteps 13 = .ok (.aload_n 0, 1) := by decide +kernel
theorem dX7_rightSteps_14 : decode cX7_rightSteps 14 = .ok (.iload_n 2, 1) := by decide +kernel
theorem dX7_rightSteps_15 : decode cX7_rightSteps 15 = .ok (.invokevirtual 76, 3) := by decide +kernel
theorem dX7_rightSteps_18 : decode cX7_rightSteps 18 = .ok (.aload_n 0, 1) := by decide +kernel
theorem dX7_rightSteps_19 : decode cX7_rightSteps 19 = .ok (.iload_n 2, 1) := by decide +kernel
theorem dX7_rightSteps_20 : decode cX7_rightSteps 20 = .ok (.iconst 1, 1) := by decide +kernel
theorem dX7_rightSteps_21 : decode cX7_rightSteps 21 = .ok (.iadd, 1) := by decide +kernel
theorem dX7_rightSteps_22 : decode cX7_rightSteps 22 = .ok (.invokevirtual 76, 3) := by decide +kernel
theorem dX7_rightSteps_25 : decode cX7_rightSteps 25 = .ok (.invokestatic 73, 3) := by decide +kernel
theorem dX7_rightSteps_28 : decode cX7_rightSteps 28 = .ok (.iadd, 1) := by decide +kernel
theorem dX7_rightSteps_29 : decode cX7_rightSteps 29 = .ok (.istore_n 1, 1) := by decide +kernel
theorem dX7_rightSteps_30 : decode cX7_rightSteps 30 = .ok (.iinc 2 1, 3) := by decide +kernel
theorem dX7_rightSteps_33 : decode cX7_rightSteps 33 = .ok (.goto (-29), 3) := by decide +kernel
theorem dX7_rightSteps_36 : decode cX7_rightSteps 36 = .ok (.iload_n 1, 1) := by decide +kernel
theorem dX7_rightSteps_37 : decode cX7_rightSteps 37 = .ok (.ireturn, 1) := by decide +kernel
theorem dJ6_bitCount_0f7a4_0 : decode cJ6_bitCount_0f7a4 0 = .ok (.iload_n 0, 1) := by decide +kernel
theorem dJ6_bitCount_0f7a4_1 : decode cJ6_bitCount_0f7a4 1 = .ok (.iload_n 0, 1) := by decide +kernel
theorem dJ6_bitCount_0f7a4_2 : decode cJ6_bitCount_0f7a4 2 = .ok (.iconst 1, 1) := by decide +kernel
theorem dJ6_bitCount_0f7a4_3 : decode cJ6_bitCount_0f7a4 3 = .ok (.iushr, 1) := by decide +kernel
theorem dJ6_bitCount_0f7a4_4 : decode cJ6_bitCount_0f7a4 4 = .ok (.ldc_w 265, 3) := by decide +kernel
theorem dJ6_bitCount_0f7a4_7 : decode cJ6_bitCount_0f7a4 7 = .ok (.iand, 1) := by decide +kernel
theorem dJ6_bitCount_0f7a4_8 : decode cJ6_bitCount_0f7a4 8 = .ok (.isub, 1) := by decide +kernel
theorem dJ6_bitCount_0f7a4_9 : decode cJ6_bitCount_0f7a4 9 = .ok (.istore_n 0, 1) := by decide +kernel
theorem dJ6_bitCount_0f7a4_10 : decode cJ6_bitCount_0f7a4 10 = .ok (.iload_n 0, 1) := by decide +kernel
theorem dJ6_bitCount_0f7a4_11 : decode cJ6_bitCount_0f7a4 11 = .ok (.ldc_w 266, 3) := by decide +kernel
theorem dJ6_bitCount_0f7a4_14 : decode cJ6_bitCount_0f7a4 14 = .ok (.iand, 1) := by decide +kernel
theorem dJ6_bitCount_0f7a4_15 : decode cJ6_bitCount_0f7a4 15 = .ok (.iload_n 0, 1) := by decide +kernel
theorem dJ6_bitCount_0f7a4_16 : decode cJ6_bitCount_0f7a4 16 = .ok (.iconst 2, 1) := by decide +kernel
theorem dJ6_bitCount_0f7a4_17 : decode cJ6_bitCount_0f7a4 17 = .ok (.iushr, 1) := by decide +kernel
theorem dJ6_bitCount_0f7a4_18 : decode cJ6_bitCount_0f7a4 18 = .ok (.ldc_w 266, 3) := by decide +kernel
theorem dJ6_bitCount_0f7a4_21 : decode cJ6_bitCount_0f7a4 21 = .ok (.iand, 1) := by decide +kernel
theorem dJ6_bitCount_0f7a4_22 : decode cJ6_bitCount_0f7a4 22 = .ok (.iadd, 1) := by decide +kernel
theorem dJ6_bitCount_0f7a4_23 : decode cJ6_bitCount_0f7a4 23 = .ok (.istore_n 0, 1) := by decide +kernel
theorem dJ6_bitCount_0f7a4_24 : decode cJ6_bitCount_0f7a4 24 = .ok (.iload_n 0, 1) := by decide +kernel
theorem dJ6_bitCount_0f7a4_25 : decode cJ6_bitCount_0f7a4 25 = .ok (.iload_n 0, 1) := by decide +kernel
theorem dJ6_bitCount_0f7a4_26 : decode cJ6_bitCount_0f7a4 26 = .ok (.iconst 4, 1) := by decide +kernel
theorem dJ6_bitCount_0f7a4_27 : decode cJ6_bitCount_0f7a4 27 = .ok (.iushr, 1) := by decide +kernel
theorem dJ6_bitCount_0f7a4_28 : decode cJ6_bitCount_0f7a4 28 = .ok (.iadd, 1) := by decide +kernel
theorem dJ6_bitCount_0f7a4_29 : decode cJ6_bitCount_0f7a4 29 = .ok (.ldc_w 267, 3) := by decide +kernel
theorem dJ6_bitCount_0f7a4_32 : decode cJ6_bitCount_0f7a4 32 = .ok (.iand, 1) := by decide +kernel
theorem dJ6_bitCount_0f7a4_33 : decode cJ6_bitCount_0f7a4 33 = .ok (.istore_n 0, 1) := by decide +kernel
theorem dJ6_bitCount_0f7a4_34 : decode cJ6_bitCount_0f7a4 34 = .ok (.iload_n 0, 1) := by decide +kernel
theorem dJ6_bitCount_0f7a4_35 : decode cJ6_bitCount_0f7a4 35 = .ok (.iload_n 0, 1) := by decide +kernel
theorem dJ6_bitCount_0f7a4_36 : decode cJ6_bitCount_0f7a4 36 = .ok (.bipush 8, 2) := by decide +kernel
theorem dJ6_bitCount_0f7a4_38 : decode cJ6_bitCount_0f7a4 38 = .ok (.iushr, 1) := by decide +kernel
theorem dJ6_bitCount_0f7a4_39 : decode cJ6_bitCount_0f7a4 39 = .ok (.iadd, 1) := by decide +kernel
theorem dJ6_bitCount_0f7a4_40 : decode cJ6_bitCount_0f7a4 40 = .ok (.istore_n 0, 1) := by decide +kernel
theorem dJ6_bitCount_0f7a4_41 : decode cJ6_bitCount_0f7a4 41 = .ok (.iload_n 0, 1) := by decide +kernel
theorem dJ6_bitCount_0f7a4_42 : decode cJ6_bitCount_0f7a4 42 = .ok (.iload_n 0, 1) := by decide +kernel
theorem dJ6_bitCount_0f7a4_43 : decode cJ6_bitCount_0f7a4 43 = .ok (.bipush 16, 2) := by decide +kernel
theorem dJ6_bitCount_0f7a4_45 : decode cJ6_bitCount_0f7a4 45 = .ok (.iushr, 1) := by decide +kernel
theorem dJ6_bitCount_0f7a4_46 : decode cJ6_bitCount_0f7a4 46 = .ok (.iadd, 1) := by decide +kernel
theorem dJ6_bitCount_0f7a4_47 : decode cJ6_bitCount_0f7a4 47 = .ok (.istore_n 0, 1) := by decide +kernel
theorem dJ6_bitCount_0f7a4_48 : decode cJ6_bitCount_0f7a4 48 = .ok (.iload_n 0, 1) := by decide +kernel
theorem dJ6_bitCount_0f7a4_49 : decode cJ6_bitCount_0f7a4 49 = .ok (.bipush 63, 2) := by decide +kernel
theorem dJ6_bitCount_0f7a4_51 : decode cJ6_bitCount_0f7a4 51 = .ok (.iand, 1) := by decide +kernel
theorem dJ6_bitCount_0f7a4_52 : decode cJ6_bitCount_0f7a4 52 = .ok (.ireturn, 1) := by decide +kernel
theorem dJ9_max_7cf53_0 : decode cJ9_max_7cf53 0 = .ok (.iload_n 0, 1) := by decide +kernel
theorem dJ9_max_7cf53_1 : decode cJ9_max_7cf53 1 = .ok (.iload_n 1, 1) := by decide +kernel
theorem dJ9_max_7cf53_2 : decode cJ9_max_7cf53 2 = .ok (.if_icmp .lt 7, 3) := by decide +kernel
theorem dJ9_max_7cf53_5 : decode cJ9_max_7cf53 5 = .ok (.iload_n 0, 1) := by decide +kernel
theorem dJ9_max_7cf53_6 : decode cJ9_max_7cf53 6 = .ok (.goto 4, 3) := by decide +kernel
theorem dJ9_max_7cf53_9 : decode cJ9_max_7cf53 9 = .ok (.iload_n 1, 1) := by decide +kernel
theorem dJ9_max_7cf53_10 : decode cJ9_max_7cf53 10 = .ok (.ireturn, 1) := by decide +kernel
theorem dJ9_min_7cf53_0 : decode cJ9_min_7cf53 0 = .ok (.iload_n 0, 1) := by decide +kernel
theorem dJ9_min_7cf53_1 : decode cJ9_min_7cf53 1 = .ok (.iload_n 1, 1) := by decide +kernel
theorem dJ9_min_7cf53_2 : decode cJ9_min_7cf53 2 = .ok (.if_icmp .gt 7, 3) := by decide +kernel
theorem dJ9_min_7cf53_5 : decode cJ9_min_7cf53 5 = .ok (.iload_n 0, 1) := by decide +kernel
theorem dJ9_min_7cf53_6 : decode cJ9_min_7cf53 6 = .ok (.goto 4, 3) := by decide +kernel
theorem dJ9_min_7cf53_9 : decode cJ9_min_7cf53 9 = .ok (.iload_n 1, 1) := by decide +kernel
theorem dJ9_min_7cf53_10 : decode cJ9_min_7cf53 10 = .ok (.ireturn, 1) := by decide +kernel
theorem dJ7_fill_d0a16_0 : decode cJ7_fill_d0a16 0 = .ok (.iconst 0, 1) := by decide +kernel
theorem dJ7_fill_d0a16_1 : decode cJ7_fill_d0a16 1 = .ok (.istore_n 3, 1) := by decide +kernel
theorem dJ7_fill_d0a16_2 : decode cJ7_fill_d0a16 2 = .ok (.aload_n 0, 1) := by decide +kernel
theorem dJ7_fill_d0a16_3 : decode cJ7_fill_d0a16 3 = .ok (.arraylength, 1) := by decide +kernel
theorem dJ7_fill_d0a16_4 : decode cJ7_fill_d0a16 4 = .ok (.istore 4, 2) := by decide +kernel
theorem dJ7_fill_d0a16_6 : decode cJ7_fill_d0a16 6 = .ok (.iload_n 3, 1) := by decide +kernel
theorem dJ7_fill_d0a16_7 : decode cJ7_fill_d0a16 7 = .ok (.iload 4, 2) := by decide +kernel
theorem dJ7_fill_d0a16_9 : decode cJ7_fill_d0a16 9 = .ok (.if_icmp .ge 13, 3) := by decide +kernel
theorem dJ7_fill_d0a16_12 : decode cJ7_fill_d0a16 12 = .ok (.aload_n 0, 1) := by decide +kernel
theorem dJ7_fill_d0a16_13 : decode cJ7_fill_d0a16 13 = .ok (.iload_n 3, 1) := by decide +kernel
theorem dJ7_fill_d0a16_14 : decode cJ7_fill_d0a16 14 = .ok (.lload_n 1, 1) := by decide +kernel
theorem dJ7_fill_d0a16_15 : decode cJ7_fill_d0a16 15 = .ok (.lastore, 1) := by decide +kernel
theorem dJ7_fill_d0a16_16 : decode cJ7_fill_d0a16 16 = .ok (.iinc 3 1, 3) := by decide +kernel
theorem dJ7_fill_d0a16_19 : decode cJ7_fill_d0a16 19 = .ok (.goto (-13), 3) := by decide +kernel
theorem dJ7_fill_d0a16_22 : decode cJ7_fill_d0a16 22 = .ok (.return_, 1) := by decide +kernel
theorem dJ7_fill_53178_0 : decode cJ7_fill_53178 0 = .ok (.iconst 0, 1) := by decide +kernel
theorem dJ7_fill_53178_1 : decode cJ7_fill_53178 1 = .ok (.istore_n 2, 1) := by decide +kernel
theorem dJ7_fill_53178_2 : decode cJ7_fill_53178 2 = .ok (.aload_n 0, 1) := by decide +kernel
theorem dJ7_fill_53178_3 : decode cJ7_fill_53178 3 = .ok (.arraylength, 1) := by decide +kernel
theorem dJ7_fill_53178_4 : decode cJ7_fill_53178 4 = .ok (.istore_n 3, 1) := by decide +kernel
theorem dJ7_fill_53178_5 : decode cJ7_fill_53178 5 = .ok (.iload_n 2, 1) := by decide +kernel
theorem dJ7_fill_53178_6 : decode cJ7_fill_53178 6 = .ok (.iload_n 3, 1) := by decide +kernel
theorem dJ7_fill_53178_7 : decode cJ7_fill_53178 7 = .ok (.if_icmp .ge 13, 3) := by decide +kernel
theorem dJ7_fill_53178_10 : decode cJ7_fill_53178 10 = .ok (.aload_n 0, 1) := by decide +kernel
theorem dJ7_fill_53178_11 : decode cJ7_fill_53178 11 = .ok (.iload_n 2, 1) := by decide +kernel
theorem dJ7_fill_53178_12 : decode cJ7_fill_53178 12 = .ok (.iload_n 1, 1) := by decide +kernel
theorem dJ7_fill_53178_13 : decode cJ7_fill_53178 13 = .ok (.iastore, 1) := by decide +kernel
theorem dJ7_fill_53178_14 : decode cJ7_fill_53178 14 = .ok (.iinc 2 1, 3) := by decide +kernel
theorem dJ7_fill_53178_17 : decode cJ7_fill_53178 17 = .ok (.goto (-12), 3) := by decide +kernel
theorem dJ7_fill_53178_20 : decode cJ7_fill_53178 20 = .ok (.return_, 1) := by decide +kernel
