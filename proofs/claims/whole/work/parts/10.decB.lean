theorem dX5_become_0 : decode cX5_become 0 = .ok (.aload_n 1, 1) := by decide +kernel
theorem dX5_become_1 : decode cX5_become 1 = .ok (.getfield 9, 3) := by decide +kernel
theorem dX5_become_4 : decode cX5_become 4 = .ok (.iconst 0, 1) := by decide +kernel
theorem dX5_become_5 : decode cX5_become 5 = .ok (.aload_n 0, 1) := by decide +kernel
theorem dX5_become_6 : decode cX5_become 6 = .ok (.getfield 9, 3) := by decide +kernel
theorem dX5_become_9 : decode cX5_become 9 = .ok (.iconst 0, 1) := by decide +kernel
theorem dX5_become_10 : decode cX5_become 10 = .ok (.bipush 12, 2) := by decide +kernel
theorem dX5_become_12 : decode cX5_become 12 = .ok (.invokestatic 37, 3) := by decide +kernel
theorem dX5_become_15 : decode cX5_become 15 = .ok (.aload_n 0, 1) := by decide +kernel
theorem dX5_become_16 : decode cX5_become 16 = .ok (.aload_n 1, 1) := by decide +kernel
theorem dX5_become_17 : decode cX5_become 17 = .ok (.getfield 15, 3) := by decide +kernel
theorem dX5_become_20 : decode cX5_become 20 = .ok (.putfield 15, 3) := by decide +kernel
theorem dX5_become_23 : decode cX5_become 23 = .ok (.aload_n 1, 1) := by decide +kernel
theorem dX5_become_24 : decode cX5_become 24 = .ok (.getfield 19, 3) := by decide +kernel
theorem dX5_become_27 : decode cX5_become 27 = .ok (.iconst 0, 1) := by decide +kernel
theorem dX5_become_28 : decode cX5_become 28 = .ok (.aload_n 0, 1) := by decide +kernel
theorem dX5_become_29 : decode cX5_become 29 = .ok (.getfield 19, 3) := by decide +kernel
theorem dX5_become_32 : decode cX5_become 32 = .ok (.iconst 0, 1) := by decide +kernel
theorem dX5_become_33 : decode cX5_become 33 = .ok (.bipush 36, 2) := by decide +kernel
theorem dX5_become_35 : decode cX5_become 35 = .ok (.invokestatic 37, 3) := by decide +kernel
theorem dX5_become_38 : decode cX5_become 38 = .ok (.aload_n 1, 1) := by decide +kernel
theorem dX5_become_39 : decode cX5_become 39 = .ok (.getfield 22, 3) := by decide +kernel
theorem dX5_become_42 : decode cX5_become 42 = .ok (.iconst 0, 1) := by decide +kernel
theorem dX5_become_43 : decode cX5_become 43 = .ok (.aload_n 0, 1) := by decide +kernel
theorem dX5_become_44 : decode cX5_become 44 = .ok (.getfield 22, 3) := by decide +kernel
theorem dX5_become_47 : decode cX5_become 47 = .ok (.iconst 0, 1) := by decide +kernel
theorem dX5_become_48 : decode cX5_become 48 = .ok (.bipush 6, 2) := by decide +kernel
theorem dX5_become_50 : decode cX5_become 50 = .ok (.invokestatic 37, 3) := by decide +kernel
theorem dX5_become_53 : decode cX5_become 53 = .ok (.aload_n 0, 1) := by decide +kernel
theorem dX5_become_54 : decode cX5_become 54 = .ok (.aload_n 1, 1) := by decide +kernel
theorem dX5_become_55 : decode cX5_become 55 = .ok (.getfield 25, 3) := by decide +kernel
theorem dX5_become_58 : decode cX5_become 58 = .ok (.putfield 25, 3) := by decide +kernel
theorem dX5_become_61 : decode cX5_become 61 = .ok (.aload_n 0, 1) := by decide +kernel
theorem dX5_become_62 : decode cX5_become 62 = .ok (.aload_n 1, 1) := by decide +kernel
theorem dX5_become_63 : decode cX5_become 63 = .ok (.getfield 28, 3) := by decide +kernel
theorem dX5_become_66 : decode cX5_become 66 = .ok (.putfield 28, 3) := by decide +kernel
theorem dX5_become_69 : decode cX5_become 69 = .ok (.aload_n 0, 1) := by decide +kernel
theorem dX5_become_70 : decode cX5_become 70 = .ok (.aload_n 1, 1) := by decide +kernel
theorem dX5_become_71 : decode cX5_become 71 = .ok (.getfield 31, 3) := by decide +kernel
theorem dX5_become_74 : decode cX5_become 74 = .ok (.putfield 31, 3) := by decide +kernel
theorem dX5_become_77 : decode cX5_become 77 = .ok (.aload_n 0, 1) := by decide +kernel
theorem dX5_become_78 : decode cX5_become 78 = .ok (.aload_n 1, 1) := by decide +kernel
theorem dX5_become_79 : decode cX5_become 79 = .ok (.getfield 34, 3) := by decide +kernel
theorem dX5_become_82 : decode cX5_become 82 = .ok (.putfield 34, 3) := by decide +kernel
theorem dX5_become_85 : decode cX5_become 85 = .ok (.return_, 1) := by decide +kernel
theorem dX5_forgetText_0 : decode cX5_forgetText 0 = .ok (.aload_n 0, 1) := by decide +kernel
theorem dX5_forgetText_1 : decode cX5_forgetText 1 = .ok (.iconst 0, 1) := by decide +kernel
theorem dX5_forgetText_2 : decode cX5_forgetText 2 = .ok (.putfield 15, 3) := by decide +kernel
theorem dX5_forgetText_5 : decode cX5_forgetText 5 = .ok (.aload_n 0, 1) := by decide +kernel
theorem dX5_forgetText_6 : decode cX5_forgetText 6 = .ok (.iconst 0, 1) := by decide +kernel
theorem dX5_forgetText_7 : decode cX5_forgetText 7 = .ok (.putfield 25, 3) := by decide +kernel
theorem dX5_forgetText_10 : decode cX5_forgetText 10 = .ok (.return_, 1) := by decide +kernel
theorem dX5_hasWord_0 : decode cX5_hasWord 0 = .ok (.iload_n 1, 1) := by decide +kernel
theorem dX5_hasWord_1 : decode cX5_hasWord 1 = .ok (.ifCond .lt 15, 3) := by decide +kernel
theorem dX5_hasWord_4 : decode cX5_hasWord 4 = .ok (.iload_n 1, 1) := by decide +kernel
theorem dX5_hasWord_5 : decode cX5_hasWord 5 = .ok (.aload_n 0, 1) := by decide +kernel
theorem dX5_hasWord_6 : decode cX5_hasWord 6 = .ok (.getfield 25, 3) := by decide +kernel
theorem dX5_hasWord_9 : decode cX5_hasWord 9 = .ok (.if_icmp .ge 7, 3) := by decide +kernel
theorem dX5_hasWord_12 : decode cX5_hasWord 12 = .ok (.iconst 1, 1) := by decide +kernel
theorem dX5_hasWord_13 : decode cX5_hasWord 13 = .ok (.goto 4, 3) := by decide +kernel
theorem dX5_hasWord_16 : decode cX5_hasWord 16 = .ok (.iconst 0, 1) := by decide +kernel
theorem dX5_hasWord_17 : decode cX5_hasWord 17 = .ok (.ireturn, 1) := by decide +kernel
theorem dX5_letterOf_0 : decode cX5_letterOf 0 = .ok (.aload_n 0, 1) := by decide +kernel
theorem dX5_letterOf_1 : decode cX5_letterOf 1 = .ok (.getfield 19, 3) := by decide +kernel
theorem dX5_letterOf_4 : decode cX5_letterOf 4 = .ok (.iload_n 1, 1) := by decide +kernel
theorem dX5_letterOf_5 : decode cX5_letterOf 5 = .ok (.bipush 6, 2) := by decide +kernel
theorem dX5_letterOf_7 : decode cX5_letterOf 7 = .ok (.imul, 1) := by decide +kernel
theorem dX5_letterOf_8 : decode cX5_letterOf 8 = .ok (.iload_n 2, 1) := by decide +kernel
theorem dX5_letterOf_9 : decode cX5_letterOf 9 = .ok (.iadd, 1) := by decide +kernel
theorem dX5_letterOf_10 : decode cX5_letterOf 10 = .ok (.iaload, 1) := by decide +kernel
theorem dX5_letterOf_11 : decode cX5_letterOf 11 = .ok (.ireturn, 1) := by decide +kernel
theorem dX5_addLetter_0 : decode cX5_addLetter 0 = .ok (.iload_n 1, 1) := by decide +kernel
theorem dX5_addLetter_1 : decode cX5_addLetter 1 = .ok (.invokestatic 43, 3) := by decide +kernel
theorem dX5_addLetter_4 : decode cX5_addLetter 4 = .ok (.ifCond .ne 5, 3) := by decide +kernel
theorem dX5_addLetter_7 : decode cX5_addLetter 7 = .ok (.iconst (-1), 1) := by decide +kernel
theorem dX5_addLetter_8 : decode cX5_addLetter 8 = .ok (.ireturn, 1) := by decide +kernel
theorem dX5_addLetter_9 : decode cX5_addLetter 9 = .ok (.aload_n 0, 1) := by decide +kernel
theorem dX5_addLetter_10 : decode cX5_addLetter 10 = .ok (.getfield 15, 3) := by decide +kernel
theorem dX5_addLetter_13 : decode cX5_addLetter 13 = .ok (.bipush 12, 2) := by decide +kernel
theorem dX5_addLetter_15 : decode cX5_addLetter 15 = .ok (.if_icmp .lt 6, 3) := by decide +kernel
theorem dX5_addLetter_18 : decode cX5_addLetter 18 = .ok (.bipush (-3), 2) := by decide +kernel
theorem dX5_addLetter_20 : decode cX5_addLetter 20 = .ok (.ireturn, 1) := by decide +kernel
theorem dX5_addLetter_21 : decode cX5_addLetter 21 = .ok (.aload_n 0, 1) := by decide +kernel
theorem dX5_addLetter_22 : decode cX5_addLetter 22 = .ok (.getfield 9, 3) := by decide +kernel
theorem dX5_addLetter_25 : decode cX5_addLetter 25 = .ok (.aload_n 0, 1) := by decide +kernel
theorem dX5_addLetter_26 : decode cX5_addLetter 26 = .ok (.getfield 15, 3) := by decide +kernel
theorem dX5_addLetter_29 : decode cX5_addLetter 29 = .ok (.iload_n 1, 1) := by decide +kernel
theorem dX5_addLetter_30 : decode cX5_addLetter 30 = .ok (.iastore, 1) := by decide +kernel
theorem dX5_addLetter_31 : decode cX5_addLetter 31 = .ok (.aload_n 0, 1) := by decide +kernel
theorem dX5_addLetter_32 : decode cX5_addLetter 32 = .ok (.dup, 1) := by decide +kernel
theorem dX5_addLetter_33 : decode cX5_addLetter 33 = .ok (.getfield 15, 3) := by decide +kernel
theorem dX5_addLetter_36 : decode cX5_addLetter 36 = .ok (.iconst 1, 1) := by decide +kernel
theorem dX5_addLetter_37 : decode cX5_addLetter 37 = .ok (.iadd, 1) := by decide +kernel
theorem dX5_addLetter_38 : decode cX5_addLetter 38 = .ok (.putfield 15, 3) := by decide +kernel
theorem dX5_addLetter_41 : decode cX5_addLetter 41 = .ok (.aload_n 0, 1) := by decide +kernel
theorem dX5_addLetter_42 : decode cX5_addLetter 42 = .ok (.getfield 15, 3) := by decide +kernel
theorem dX5_addLetter_45 : decode cX5_addLetter 45 = .ok (.ireturn, 1) := by decide +kernel
theorem dX5_takeLetter_0 : decode cX5_takeLetter 0 = .ok (.aload_n 0, 1) := by decide +kernel
theorem dX5_takeLetter_1 : decode cX5_takeLetter 1 = .ok (.getfield 15, 3) := by decide +kernel
theorem dX5_takeLetter_4 : decode cX5_takeLetter 4 = .ok (.ifCond .ne 6, 3) := by decide +kernel
theorem dX5_takeLetter_7 : decode cX5_takeLetter 7 = .ok (.bipush (-4), 2) := by decide +kernel
theorem dX5_takeLetter_9 : decode cX5_takeLetter 9 = .ok (.ireturn, 1) := by decide +kernel
theorem dX5_takeLetter_10 : decode cX5_takeLetter 10 = .ok (.aload_n 0, 1) := by decide +kernel
theorem dX5_takeLetter_11 : decode cX5_takeLetter 11 = .ok (.dup, 1) := by decide +kernel
theorem dX5_takeLetter_12 : decode cX5_takeLetter 12 = .ok (.getfield 15, 3) := by decide +kernel
theorem dX5_takeLetter_15 : decode cX5_takeLetter 15 = .ok (.iconst 1, 1) := by decide +kernel
theorem dX5_takeLetter_16 : decode cX5_takeLetter 16 = .ok (.isub, 1) := by decide +kernel
theorem dX5_takeLetter_17 : decode cX5_takeLetter 17 = .ok (.putfield 15, 3) := by decide +kernel
theorem dX5_takeLetter_20 : decode cX5_takeLetter 20 = .ok (.aload_n 0, 1) := by decide +kernel
theorem dX5_takeLetter_21 : decode cX5_takeLetter 21 = .ok (.getfield 9, 3) := by decide +kernel
theorem dX5_takeLetter_24 : decode cX5_takeLetter 24 = .ok (.aload_n 0, 1) := by decide +kernel
theorem dX5_takeLetter_25 : decode cX5_takeLetter 25 = .ok (.getfield 15, 3) := by decide +kernel
theorem dX5_takeLetter_28 : decode cX5_takeLetter 28 = .ok (.iaload, 1) := by decide +kernel
theorem dX5_takeLetter_29 : decode cX5_takeLetter 29 = .ok (.ireturn, 1) := by decide +kernel
theorem dX5_addWord_0 : decode cX5_addWord 0 = .ok (.aload_n 0, 1) := by decide +kernel
theorem dX5_addWord_1 : decode cX5_addWord 1 = .ok (.getfield 15, 3) := by decide +kernel
theorem dX5_addWord_4 : decode cX5_addWord 4 = .ok (.ifCond .eq 12, 3) := by decide +kernel
theorem dX5_addWord_7 : decode cX5_addWord 7 = .ok (.aload_n 0, 1) := by decide +kernel
theorem dX5_addWord_8 : decode cX5_addWord 8 = .ok (.getfield 15, 3) := by decide +kernel
theorem dX5_addWord_11 : decode cX5_addWord 11 = .ok (.bipush 6, 2) := by decide +kernel
theorem dX5_addWord_13 : decode cX5_addWord 13 = .ok (.if_icmp .le 6, 3) := by decide +kernel
theorem dX5_addWord_16 : decode cX5_addWord 16 = .ok (.bipush (-2), 2) := by decide +kernel
theorem dX5_addWord_18 : decode cX5_addWord 18 = .ok (.ireturn, 1) := by decide +kernel
theorem dX5_addWord_19 : decode cX5_addWord 19 = .ok (.aload_n 0, 1) := by decide +kernel
theorem dX5_addWord_20 : decode cX5_addWord 20 = .ok (.getfield 25, 3) := by decide +kernel
theorem dX5_addWord_23 : decode cX5_addWord 23 = .ok (.bipush 6, 2) := by decide +kernel
theorem dX5_addWord_25 : decode cX5_addWord 25 = .ok (.if_icmp .lt 6, 3) := by decide +kernel
theorem dX5_addWord_28 : decode cX5_addWord 28 = .ok (.bipush (-3), 2) := by decide +kernel
theorem dX5_addWord_30 : decode cX5_addWord 30 = .ok (.ireturn, 1) := by decide +kernel
theorem dX5_addWord_31 : decode cX5_addWord 31 = .ok (.aload_n 0, 1) := by decide +kernel
theorem dX5_addWord_32 : decode cX5_addWord 32 = .ok (.getfield 9, 3) := by decide +kernel
theorem dX5_addWord_35 : decode cX5_addWord 35 = .ok (.iconst 0, 1) := by decide +kernel
theorem dX5_addWord_36 : decode cX5_addWord 36 = .ok (.aload_n 0, 1) := by decide +kernel
theorem dX5_addWord_37 : decode cX5_addWord 37 = .ok (.getfield 19, 3) := by decide +kernel
theorem dX5_addWord_40 : decode cX5_addWord 40 = .ok (.aload_n 0, 1) := by decide +kernel
theorem dX5_addWord_41 : decode cX5_addWord 41 = .ok (.getfield 25, 3) := by decide +kernel
theorem dX5_addWord_44 : decode cX5_addWord 44 = .ok (.bipush 6, 2) := by decide +kernel
theorem dX5_addWord_46 : decode cX5_addWord 46 = .ok (.imul, 1) := by decide +kernel
theorem dX5_addWord_47 : decode cX5_addWord 47 = .ok (.aload_n 0, 1) := by decide +kernel
theorem dX5_addWord_48 : decode cX5_addWord 48 = .ok (.getfield 15, 3) := by decide +kernel
theorem dX5_addWord_51 : decode cX5_addWord 51 = .ok (.invokestatic 37, 3) := by decide +kernel
theorem dX5_addWord_54 : decode cX5_addWord 54 = .ok (.aload_n 0, 1) := by decide +kernel
theorem dX5_addWord_55 : decode cX5_addWord 55 = .ok (.getfield 22, 3) := by decide +kernel
theorem dX5_addWord_58 : decode cX5_addWord 58 = .ok (.aload_n 0, 1) := by decide +kernel
theorem dX5_addWord_59 : decode cX5_addWord 59 = .ok (.getfield 25, 3) := by decide +kernel
theorem dX5_addWord_62 : decode cX5_addWord 62 = .ok (.aload_n 0, 1) := by decide +kernel
theorem dX5_addWord_63 : decode cX5_addWord 63 = .ok (.getfield 15, 3) := by decide +kernel
theorem dX5_addWord_66 : decode cX5_addWord 66 = .ok (.iastore, 1) := by decide +kernel
theorem dX5_addWord_67 : decode cX5_addWord 67 = .ok (.aload_n 0, 1) := by decide +kernel
theorem dX5_addWord_68 : decode cX5_addWord 68 = .ok (.dup, 1) := by decide +kernel
theorem dX5_addWord_69 : decode cX5_addWord 69 = .ok (.getfield 25, 3) := by decide +kernel
theorem dX5_addWord_72 : decode cX5_addWord 72 = .ok (.iconst 1, 1) := by decide +kernel
theorem dX5_addWord_73 : decode cX5_addWord 73 = .ok (.iadd, 1) := by decide +kernel
theorem dX5_addWord_74 : decode cX5_addWord 74 = .ok (.putfield 25, 3) := by decide +kernel
theorem dX5_addWord_77 : decode cX5_addWord 77 = .ok (.aload_n 0, 1) := by decide +kernel
theorem dX5_addWord_78 : decode cX5_addWord 78 = .ok (.getfield 25, 3) := by decide +kernel
theorem dX5_addWord_81 : decode cX5_addWord 81 = .ok (.iconst 1, 1) := by decide +kernel
theorem dX5_addWord_82 : decode cX5_addWord 82 = .ok (.isub, 1) := by decide +kernel
theorem dX5_addWord_83 : decode cX5_addWord 83 = .ok (.ireturn, 1) := by decide +kernel
theorem dX5_removeWord_0 : decode cX5_removeWord 0 = .ok (.aload_n 0, 1) := by decide +kernel
theorem dX5_removeWord_1 : decode cX5_removeWord 1 = .ok (.iload_n 1, 1) := by decide +kernel
theorem dX5_removeWord_2 : decode cX5_removeWord 2 = .ok (.invokevirtual 47, 3) := by decide +kernel
theorem dX5_removeWord_5 : decode cX5_removeWord 5 = .ok (.ifCond .ne 5, 3) := by decide +kernel
theorem dX5_removeWord_8 : decode cX5_removeWord 8 = .ok (.iconst (-1), 1) := by decide +kernel
theorem dX5_removeWord_9 : decode cX5_removeWord 9 = .ok (.ireturn, 1) := by decide +kernel
theorem dX5_removeWord_10 : decode cX5_removeWord 10 = .ok (.aload_n 0, 1) := by decide +kernel
theorem dX5_removeWord_11 : decode cX5_removeWord 11 = .ok (.dup, 1) := by decide +kernel
theorem dX5_removeWord_12 : decode cX5_removeWord 12 = .ok (.getfield 25, 3) := by decide +kernel
theorem dX5_removeWord_15 : decode cX5_removeWord 15 = .ok (.iconst 1, 1) := by decide +kernel
theorem dX5_removeWord_16 : decode cX5_removeWord 16 = .ok (.isub, 1) := by decide +kernel
theorem dX5_removeWord_17 : decode cX5_removeWord 17 = .ok (.putfield 25, 3) := by decide +kernel
theorem dX5_removeWord_20 : decode cX5_removeWord 20 = .ok (.aload_n 0, 1) := by decide +kernel
theorem dX5_removeWord_21 : decode cX5_removeWord 21 = .ok (.getfield 25, 3) := by decide +kernel
theorem dX5_removeWord_24 : decode cX5_removeWord 24 = .ok (.iload_n 1, 1) := by decide +kernel
theorem dX5_removeWord_25 : decode cX5_removeWord 25 = .ok (.isub, 1) := by decide +kernel
theorem dX5_removeWord_26 : decode cX5_removeWord 26 = .ok (.istore_n 2, 1) := by decide +kernel
theorem dX5_removeWord_27 : decode cX5_removeWord 27 = .ok (.iload_n 1, 1) := by decide +kernel
theorem dX5_removeWord_28 : decode cX5_removeWord 28 = .ok (.bipush 6, 2) := by decide +kernel
theorem dX5_removeWord_30 : decode cX5_removeWord 30 = .ok (.imul, 1) := by decide +kernel
theorem dX5_removeWord_31 : decode cX5_removeWord 31 = .ok (.istore_n 3, 1) := by decide +kernel
theorem dX5_removeWord_32 : decode cX5_removeWord 32 = .ok (.aload_n 0, 1) := by decide +kernel
theorem dX5_removeWord_33 : decode cX5_removeWord 33 = .ok (.getfield 19, 3) := by decide +kernel
theorem dX5_removeWord_36 : decode cX5_removeWord 36 = .ok (.iload_n 3, 1) := by decide +kernel
theorem dX5_removeWord_37 : decode cX5_removeWord 37 = .ok (.bipush 6, 2) := by decide +kernel
theorem dX5_removeWord_39 : decode cX5_removeWord 39 = .ok (.iadd, 1) := by decide +kernel
theorem dX5_removeWord_40 : decode cX5_removeWord 40 = .ok (.aload_n 0, 1) := by decide +kernel
theorem dX5_removeWord_41 : decode cX5_removeWord 41 = .ok (.getfield 19, 3) := by decide +kernel
theorem dX5_removeWord_44 : decode cX5_removeWord 44 = .ok (.iload_n 3, 1) := by decide +kernel
theorem dX5_removeWord_45 : decode cX5_removeWord 45 = .ok (.iload_n 2, 1) := by decide +kernel
theorem dX5_removeWord_46 : decode cX5_removeWord 46 = .ok (.bipush 6, 2) := by decide +kernel
theorem dX5_removeWord_48 : decode cX5_removeWord 48 = .ok (.imul, 1) := by decide +kernel
theorem dX5_removeWord_49 : decode cX5_removeWord 49 = .ok (.invokestatic 37, 3) := by decide +kernel
theorem dX5_removeWord_52 : decode cX5_removeWord 52 = .ok (.aload_n 0, 1) := by decide +kernel
theorem dX5_removeWord_53 : decode cX5_removeWord 53 = .ok (.getfield 22, 3) := by decide +kernel
theorem dX5_removeWord_56 : decode cX5_removeWord 56 = .ok (.iload_n 1, 1) := by decide +kernel
theorem dX5_removeWord_57 : decode cX5_removeWord 57 = .ok (.iconst 1, 1) := by decide +kernel
theorem dX5_removeWord_58 : decode cX5_removeWord 58 = .ok (.iadd, 1) := by decide +kernel
theorem dX5_removeWord_59 : decode cX5_removeWord 59 = .ok (.aload_n 0, 1) := by decide +kernel
theorem dX5_removeWord_60 : decode cX5_removeWord 60 = .ok (.getfield 22, 3) := by decide +kernel
theorem dX5_removeWord_63 : decode cX5_removeWord 63 = .ok (.iload_n 1, 1) := by decide +kernel
theorem dX5_removeWord_64 : decode cX5_removeWord 64 = .ok (.iload_n 2, 1) := by decide +kernel
theorem dX5_removeWord_65 : decode cX5_removeWord 65 = .ok (.invokestatic 37, 3) := by decide +kernel
theorem dX5_removeWord_68 : decode cX5_removeWord 68 = .ok (.aload_n 0, 1) := by decide +kernel
theorem dX5_removeWord_69 : decode cX5_removeWord 69 = .ok (.getfield 25, 3) := by decide +kernel
theorem dX5_removeWord_72 : decode cX5_removeWord 72 = .ok (.ireturn, 1) := by decide +kernel
theorem dX5_addLettersOf_0 : decode cX5_addLettersOf 0 = .ok (.aload_n 0, 1) := by decide +kernel
theorem dX5_addLettersOf_1 : decode cX5_addLettersOf 1 = .ok (.iload_n 1, 1) := by decide +kernel
theorem dX5_addLettersOf_2 : decode cX5_addLettersOf 2 = .ok (.invokevirtual 47, 3) := by decide +kernel
theorem dX5_addLettersOf_5 : decode cX5_addLettersOf 5 = .ok (.ifCond .ne 5, 3) := by decide +kernel
theorem dX5_addLettersOf_8 : decode cX5_addLettersOf 8 = .ok (.iconst (-1), 1) := by decide +kernel
theorem dX5_addLettersOf_9 : decode cX5_addLettersOf 9 = .ok (.ireturn, 1) := by decide +kernel
theorem dX5_addLettersOf_10 : decode cX5_addLettersOf 10 = .ok (.aload_n 0, 1) := by decide +kernel
theorem dX5_addLettersOf_11 : decode cX5_addLettersOf 11 = .ok (.getfield 15, 3) := by decide +kernel
theorem dX5_addLettersOf_14 : decode cX5_addLettersOf 14 = .ok (.aload_n 0, 1) := by decide +kernel
theorem dX5_addLettersOf_15 : decode cX5_addLettersOf 15 = .ok (.getfield 22, 3) := by decide +kernel
theorem dX5_addLettersOf_18 : decode cX5_addLettersOf 18 = .ok (.iload_n 1, 1) := by decide +kernel
theorem dX5_addLettersOf_19 : decode cX5_addLettersOf 19 = .ok (.iaload, 1) := by decide +kernel
theorem dX5_addLettersOf_20 : decode cX5_addLettersOf 20 = .ok (.iadd, 1) := by decide +kernel
theorem dX5_addLettersOf_21 : decode cX5_addLettersOf 21 = .ok (.bipush 12, 2) := by decide +kernel
theorem dX5_addLettersOf_23 : decode cX5_addLettersOf 23 = .ok (.if_icmp .le 6, 3) := by decide +kernel
theorem dX5_addLettersOf_26 : decode cX5_addLettersOf 26 = .ok (.bipush (-3), 2) := by decide +kernel
theorem dX5_addLettersOf_28 : decode cX5_addLettersOf 28 = .ok (.ireturn, 1) := by decide +kernel
theorem dX5_addLettersOf_29 : decode cX5_addLettersOf 29 = .ok (.aload_n 0, 1) := by decide +kernel
theorem dX5_addLettersOf_30 : decode cX5_addLettersOf 30 = .ok (.getfield 19, 3) := by decide +kernel
theorem dX5_addLettersOf_33 : decode cX5_addLettersOf 33 = .ok (.iload_n 1, 1) := by decide +kernel
theorem dX5_addLettersOf_34 : decode cX5_addLettersOf 34 = .ok (.bipush 6, 2) := by decide +kernel
theorem dX5_addLettersOf_36 : decode cX5_addLettersOf 36 = .ok (.imul, 1) := by decide +kernel
theorem dX5_addLettersOf_37 : decode cX5_addLettersOf 37 = .ok (.aload_n 0, 1) := by decide +kernel
theorem dX5_addLettersOf_38 : decode cX5_addLettersOf 38 = .ok (.getfield 9, 3) := by decide +kernel
theorem dX5_addLettersOf_41 : decode cX5_addLettersOf 41 = .ok (.aload_n 0, 1) := by decide +kernel
theorem dX5_addLettersOf_42 : decode cX5_addLettersOf 42 = .ok (.getfield 15, 3) := by decide +kernel
theorem dX5_addLettersOf_45 : decode cX5_addLettersOf 45 = .ok (.aload_n 0, 1) := by decide +kernel
theorem dX5_addLettersOf_46 : decode cX5_addLettersOf 46 = .ok (.getfield 22, 3) := by decide +kernel
theorem dX5_addLettersOf_49 : decode cX5_addLettersOf 49 = .ok (.iload_n 1, 1) := by decide +kernel
theorem dX5_addLettersOf_50 : decode cX5_addLettersOf 50 = .ok (.iaload, 1) := by decide +kernel
theorem dX5_addLettersOf_51 : decode cX5_addLettersOf 51 = .ok (.invokestatic 37, 3) := by decide +kernel
theorem dX5_addLettersOf_54 : decode cX5_addLettersOf 54 = .ok (.aload_n 0, 1) := by decide +kernel
theorem dX5_addLettersOf_55 : decode cX5_addLettersOf 55 = .ok (.dup, 1) := by decide +kernel
theorem dX5_addLettersOf_56 : decode cX5_addLettersOf 56 = .ok (.getfield 15, 3) := by decide +kernel
theorem dX5_addLettersOf_59 : decode cX5_addLettersOf 59 = .ok (.aload_n 0, 1) := by decide +kernel
theorem dX5_addLettersOf_60 : decode cX5_addLettersOf 60 = .ok (.getfield 22, 3) := by decide +kernel
theorem dX5_addLettersOf_63 : decode cX5_addLettersOf 63 = .ok (.iload_n 1, 1) := by decide +kernel
theorem dX5_addLettersOf_64 : decode cX5_addLettersOf 64 = .ok (.iaload, 1) := by decide +kernel
theorem dX5_addLettersOf_65 : decode cX5_addLettersOf 65 = .ok (.iadd, 1) := by decide +kernel
theorem dX5_addLettersOf_66 : decode cX5_addLettersOf 66 = .ok (.putfield 15, 3) := by decide +kernel
theorem dX5_addLettersOf_69 : decode cX5_addLettersOf 69 = .ok (.aload_n 0, 1) := by decide +kernel
theorem dX5_addLettersOf_70 : decode cX5_addLettersOf 70 = .ok (.getfield 15, 3) := by decide +kernel
theorem dX5_addLettersOf_73 : decode cX5_addLettersOf 73 = .ok (.ireturn, 1) := by decide +kernel
theorem dX5_setCost_0 : decode cX5_setCost 0 = .ok (.iload_n 1, 1) := by decide +kernel
theorem dX5_setCost_1 : decode cX5_setCost 1 = .ok (.ifCond .lt 18, 3) := by decide +kernel
theorem dX5_setCost_4 : decode cX5_setCost 4 = .ok (.iload_n 1, 1) := by decide +kernel
theorem dX5_setCost_5 : decode cX5_setCost 5 = .ok (.iconst 1, 1) := by decide +kernel
theorem dX5_setCost_6 : decode cX5_setCost 6 = .ok (.if_icmp .gt 13, 3) := by decide +kernel
theorem dX5_setCost_9 : decode cX5_setCost 9 = .ok (.iload_n 2, 1) := by decide +kernel
theorem dX5_setCost_10 : decode cX5_setCost 10 = .ok (.iconst 1, 1) := by decide +kernel
theorem dX5_setCost_11 : decode cX5_setCost 11 = .ok (.if_icmp .lt 8, 3) := by decide +kernel
theorem dX5_setCost_14 : decode cX5_setCost 14 = .ok (.iload_n 2, 1) := by decide +kernel
theorem dX5_setCost_15 : decode cX5_setCost 15 = .ok (.iconst 4, 1) := by decide +kernel
theorem dX5_setCost_16 : decode cX5_setCost 16 = .ok (.if_icmp .le 5, 3) := by decide +kernel
theorem dX5_setCost_19 : decode cX5_setCost 19 = .ok (.iconst (-1), 1) := by decide +kernel
theorem dX5_setCost_20 : decode cX5_setCost 20 = .ok (.ireturn, 1) := by decide +kernel
theorem dX5_setCost_21 : decode cX5_setCost 21 = .ok (.iload_n 1, 1) := by decide +kernel
theorem dX5_setCost_22 : decode cX5_setCost 22 = .ok (.ifCond .ne 10, 3) := by decide +kernel
theorem dX5_setCost_25 : decode cX5_setCost 25 = .ok (.aload_n 0, 1) := by decide +kernel
theorem dX5_setCost_26 : decode cX5_setCost 26 = .ok (.getfield 28, 3) := by decide +kernel
theorem dX5_setCost_29 : decode cX5_setCost 29 = .ok (.goto 7, 3) := by decide +kernel
theorem dX5_setCost_32 : decode cX5_setCost 32 = .ok (.aload_n 0, 1) := by decide +kernel
theorem dX5_setCost_33 : decode cX5_setCost 33 = .ok (.getfield 31, 3) := by decide +kernel
theorem dX5_setCost_36 : decode cX5_setCost 36 = .ok (.istore_n 3, 1) := by decide +kernel
theorem dX5_setCost_37 : decode cX5_setCost 37 = .ok (.iload_n 3, 1) := by decide +kernel
theorem dX5_setCost_38 : decode cX5_setCost 38 = .ok (.iload_n 2, 1) := by decide +kernel
theorem dX5_setCost_39 : decode cX5_setCost 39 = .ok (.if_icmp .ne 6, 3) := by decide +kernel
theorem dX5_setCost_42 : decode cX5_setCost 42 = .ok (.bipush (-2), 2) := by decide +kernel
theorem dX5_setCost_44 : decode cX5_setCost 44 = .ok (.ireturn, 1) := by decide +kernel
theorem dX5_setCost_45 : decode cX5_setCost 45 = .ok (.iload_n 1, 1) := by decide +kernel
theorem dX5_setCost_46 : decode cX5_setCost 46 = .ok (.ifCond .ne 11, 3) := by decide +kernel
theorem dX5_setCost_49 : decode cX5_setCost 49 = .ok (.aload_n 0, 1) := by decide +kernel
theorem dX5_setCost_50 : decode cX5_setCost 50 = .ok (.iload_n 2, 1) := by decide +kernel
theorem dX5_setCost_51 : decode cX5_setCost 51 = .ok (.putfield 28, 3) := by decide +kernel
theorem dX5_setCost_54 : decode cX5_setCost 54 = .ok (.goto 8, 3) := by decide +kernel
theorem dX5_setCost_57 : decode cX5_setCost 57 = .ok (.aload_n 0, 1) := by decide +kernel
theorem dX5_setCost_58 : decode cX5_setCost 58 = .ok (.iload_n 2, 1) := by decide +kernel
theorem dX5_setCost_59 : decode cX5_setCost 59 = .ok (.putfield 31, 3) := by decide +kernel
theorem dX5_setCost_62 : decode cX5_setCost 62 = .ok (.iload_n 3, 1) := by decide +kernel
theorem dX5_setCost_63 : decode cX5_setCost 63 = .ok (.ireturn, 1) := by decide +kernel
theorem dX5_openWord_0 : decode cX5_openWord 0 = .ok (.aload_n 0, 1) := by decide +kernel
theorem dX5_openWord_1 : decode cX5_openWord 1 = .ok (.getfield 25, 3) := by decide +kernel
theorem dX5_openWord_4 : decode cX5_openWord 4 = .ok (.bipush 6, 2) := by decide +kernel
theorem dX5_openWord_6 : decode cX5_openWord 6 = .ok (.if_icmp .lt 5, 3) := by decide +kernel
theorem dX5_openWord_9 : decode cX5_openWord 9 = .ok (.iconst 0, 1) := by decide +kernel
theorem dX5_openWord_10 : decode cX5_openWord 10 = .ok (.ireturn, 1) := by decide +kernel
theorem dX5_openWord_11 : decode cX5_openWord 11 = .ok (.aload_n 0, 1) := by decide +kernel
theorem dX5_openWord_12 : decode cX5_openWord 12 = .ok (.getfield 22, 3) := by decide +kernel
theorem dX5_openWord_15 : decode cX5_openWord 15 = .ok (.aload_n 0, 1) := by decide +kernel
theorem dX5_openWord_16 : decode cX5_openWord 16 = .ok (.getfield 25, 3) := by decide +kernel
theorem dX5_openWord_19 : decode cX5_openWord 19 = .ok (.iconst 0, 1) := by decide +kernel
theorem dX5_openWord_20 : decode cX5_openWord 20 = .ok (.iastore, 1) := by decide +kernel
theorem dX5_openWord_21 : decode cX5_openWord 21 = .ok (.aload_n 0, 1) := by decide +kernel
theorem dX5_openWord_22 : decode cX5_openWord 22 = .ok (.dup, 1) := by decide +kernel
theorem dX5_openWord_23 : decode cX5_openWord 23 = .ok (.getfield 25, 3) := by decide +kernel
theorem dX5_openWord_26 : decode cX5_openWord 26 = .ok (.iconst 1, 1) := by decide +kernel
theorem dX5_openWord_27 : decode cX5_openWord 27 = .ok (.iadd, 1) := by decide +kernel
theorem dX5_openWord_28 : decode cX5_openWord 28 = .ok (.putfield 25, 3) := by decide +kernel
theorem dX5_openWord_31 : decode cX5_openWord 31 = .ok (.aload_n 0, 1) := by decide +kernel
theorem dX5_openWord_32 : decode cX5_openWord 32 = .ok (.iload_n 1, 1) := by decide +kernel
theorem dX5_openWord_33 : decode cX5_openWord 33 = .ok (.invokevirtual 50, 3) := by decide +kernel
theorem dX5_openWord_36 : decode cX5_openWord 36 = .ok (.ireturn, 1) := by decide +kernel
theorem dX5_lengthenWord_0 : decode cX5_lengthenWord 0 = .ok (.aload_n 0, 1) := by decide +kernel
theorem dX5_lengthenWord_1 : decode cX5_lengthenWord 1 = .ok (.getfield 25, 3) := by decide +kernel
theorem dX5_lengthenWord_4 : decode cX5_lengthenWord 4 = .ok (.iconst 1, 1) := by decide +kernel
theorem dX5_lengthenWord_5 : decode cX5_lengthenWord 5 = .ok (.isub, 1) := by decide +kernel
theorem dX5_lengthenWord_6 : decode cX5_lengthenWord 6 = .ok (.istore_n 2, 1) := by decide +kernel
theorem dX5_lengthenWord_7 : decode cX5_lengthenWord 7 = .ok (.iload_n 2, 1) := by decide +kernel
theorem dX5_lengthenWord_8 : decode cX5_lengthenWord 8 = .ok (.ifCond .lt 14, 3) := by decide +kernel
theorem dX5_lengthenWord_11 : decode cX5_lengthenWord 11 = .ok (.aload_n 0, 1) := by decide +kernel
theorem dX5_lengthenWord_12 : decode cX5_lengthenWord 12 = .ok (.getfield 22, 3) := by decide +kernel
theorem dX5_lengthenWord_15 : decode cX5_lengthenWord 15 = .ok (.iload_n 2, 1) := by decide +kernel
theorem dX5_lengthenWord_16 : decode cX5_lengthenWord 16 = .ok (.iaload, 1) := by decide +kernel
theorem dX5_lengthenWord_17 : decode cX5_lengthenWord 17 = .ok (.bipush 6, 2) := by decide +kernel
theorem dX5_lengthenWord_19 : decode cX5_lengthenWord 19 = .ok (.if_icmp .lt 5, 3) := by decide +kernel
theorem dX5_lengthenWord_22 : decode cX5_lengthenWord 22 = .ok (.iconst 0, 1) := by decide +kernel
theorem dX5_lengthenWord_23 : decode cX5_lengthenWord 23 = .ok (.ireturn, 1) := by decide +kernel
theorem dX5_lengthenWord_24 : decode cX5_lengthenWord 24 = .ok (.aload_n 0, 1) := by decide +kernel
theorem dX5_lengthenWord_25 : decode cX5_lengthenWord 25 = .ok (.getfield 19, 3) := by decide +kernel
theorem dX5_lengthenWord_28 : decode cX5_lengthenWord 28 = .ok (.iload_n 2, 1) := by decide +kernel
theorem dX5_lengthenWord_29 : decode cX5_lengthenWord 29 = .ok (.bipush 6, 2) := by decide +kernel
theorem dX5_lengthenWord_31 : decode cX5_lengthenWord 31 = .ok (.imul, 1) := by decide +kernel
theorem dX5_lengthenWord_32 : decode cX5_lengthenWord 32 = .ok (.aload_n 0, 1) := by decide +kernel
theorem dX5_lengthenWord_33 : decode cX5_lengthenWord 33 = .ok (.getfield 22, 3) := by decide +kernel
theorem dX5_lengthenWord_36 : decode cX5_lengthenWord 36 = .ok (.iload_n 2, 1) := by decide +kernel
theorem dX5_lengthenWord_37 : decode cX5_lengthenWord 37 = .ok (.iaload, 1) := by decide +kernel
theorem dX5_lengthenWord_38 : decode cX5_lengthenWord 38 = .ok (.iadd, 1) := by decide +kernel
theorem dX5_lengthenWord_39 : decode cX5_lengthenWord 39 = .ok (.iload_n 1, 1) := by decide +kernel
theorem dX5_lengthenWord_40 : decode cX5_lengthenWord 40 = .ok (.iastore, 1) := by decide +kernel
theorem dX5_lengthenWord_41 : decode cX5_lengthenWord 41 = .ok (.aload_n 0, 1) := by decide +kernel
theorem dX5_lengthenWord_42 : decode cX5_lengthenWord 42 = .ok (.getfield 22, 3) := by decide +kernel
theorem dX5_lengthenWord_45 : decode cX5_lengthenWord 45 = .ok (.iload_n 2, 1) := by decide +kernel
theorem dX5_lengthenWord_46 : decode cX5_lengthenWord 46 = .ok (.dup2, 1) := by decide +kernel
theorem dX5_lengthenWord_47 : decode cX5_lengthenWord 47 = .ok (.iaload, 1) := by decide +kernel
theorem dX5_lengthenWord_48 : decode cX5_lengthenWord 48 = .ok (.iconst 1, 1) := by decide +kernel
theorem dX5_lengthenWord_49 : decode cX5_lengthenWord 49 = .ok (.iadd, 1) := by decide +kernel
theorem dX5_lengthenWord_50 : decode cX5_lengthenWord 50 = .ok (.iastore, 1) := by decide +kernel
theorem dX5_lengthenWord_51 : decode cX5_lengthenWord 51 = .ok (.iconst 1, 1) := by decide +kernel
theorem dX5_lengthenWord_52 : decode cX5_lengthenWord 52 = .ok (.ireturn, 1) := by decide +kernel
theorem dX5_turn_0 : decode cX5_turn 0 = .ok (.aload_n 0, 1) := by decide +kernel
theorem dX5_turn_1 : decode cX5_turn 1 = .ok (.aload_n 0, 1) := by decide +kernel
theorem dX5_turn_2 : decode cX5_turn 2 = .ok (.getfield 34, 3) := by decide +kernel
theorem dX5_turn_5 : decode cX5_turn 5 = .ok (.ldc 53, 2) := by decide +kernel
theorem dX5_turn_7 : decode cX5_turn 7 = .ok (.imul, 1) := by decide +kernel
theorem dX5_turn_8 : decode cX5_turn 8 = .ok (.sipush 12345, 3) := by decide +kernel
theorem dX5_turn_11 : decode cX5_turn 11 = .ok (.iadd, 1) := by decide +kernel
theorem dX5_turn_12 : decode cX5_turn 12 = .ok (.ldc 54, 2) := by decide +kernel
theorem dX5_turn_14 : decode cX5_turn 14 = .ok (.iand, 1) := by decide +kernel
theorem dX5_turn_15 : decode cX5_turn 15 = .ok (.putfield 34, 3) := by decide +kernel
theorem dX5_turn_18 : decode cX5_turn 18 = .ok (.aload_n 0, 1) := by decide +kernel
theorem dX5_turn_19 : decode cX5_turn 19 = .ok (.getfield 34, 3) := by decide +kernel
theorem dX5_turn_22 : decode cX5_turn 22 = .ok (.ldc 55, 2) := by decide +kernel
theorem dX5_turn_24 : decode cX5_turn 24 = .ok (.idiv, 1) := by decide +kernel
theorem dX5_turn_25 : decode cX5_turn 25 = .ok (.istore_n 1, 1) := by decide +kernel
theorem dX5_turn_26 : decode cX5_turn 26 = .ok (.iload_n 1, 1) := by decide +kernel
theorem dX5_turn_27 : decode cX5_turn 27 = .ok (.bipush 8, 2) := by decide +kernel
theorem dX5_turn_29 : decode cX5_turn 29 = .ok (.idiv, 1) := by decide +kernel
theorem dX5_turn_30 : decode cX5_turn 30 = .ok (.istore_n 2, 1) := by decide +kernel
theorem dX5_turn_31 : decode cX5_turn 31 = .ok (.iload_n 1, 1) := by decide +kernel
theorem dX5_turn_32 : decode cX5_turn 32 = .ok (.bipush 8, 2) := by decide +kernel
theorem dX5_turn_34 : decode cX5_turn 34 = .ok (.irem, 1) := by decide +kernel
theorem dX5_turn_35 : decode cX5_turn 35 = .ok (.tableswitch 77 4 7 #[29, 37, 49, 63], 29) := by decide +kernel
theorem dX5_turn_64 : decode cX5_turn 64 = .ok (.aload_n 0, 1) := by decide +kernel
theorem dX5_turn_65 : decode cX5_turn 65 = .ok (.invokevirtual 56, 3) := by decide +kernel
theorem dX5_turn_68 : decode cX5_turn 68 = .ok (.pop, 1) := by decide +kernel
theorem dX5_turn_69 : decode cX5_turn 69 = .ok (.goto 52, 3) := by decide +kernel
theorem dX5_turn_72 : decode cX5_turn 72 = .ok (.aload_n 0, 1) := by decide +kernel
theorem dX5_turn_73 : decode cX5_turn 73 = .ok (.iload_n 2, 1) := by decide +kernel
theorem dX5_turn_74 : decode cX5_turn 74 = .ok (.bipush 6, 2) := by decide +kernel
theorem dX5_turn_76 : decode cX5_turn 76 = .ok (.irem, 1) := by decide +kernel
theorem dX5_turn_77 : decode cX5_turn 77 = .ok (.invokevirtual 60, 3) := by decide +kernel
theorem dX5_turn_80 : decode cX5_turn 80 = .ok (.pop, 1) := by decide +kernel
theorem dX5_turn_81 : decode cX5_turn 81 = .ok (.goto 40, 3) := by decide +kernel
theorem dX5_turn_84 : decode cX5_turn 84 = .ok (.aload_n 0, 1) := by decide +kernel
theorem dX5_turn_85 : decode cX5_turn 85 = .ok (.iconst 0, 1) := by decide +kernel
theorem dX5_turn_86 : decode cX5_turn 86 = .ok (.iload_n 2, 1) := by decide +kernel
theorem dX5_turn_87 : decode cX5_turn 87 = .ok (.iconst 4, 1) := by decide +kernel
theorem dX5_turn_88 : decode cX5_turn 88 = .ok (.irem, 1) := by decide +kernel
theorem dX5_turn_89 : decode cX5_turn 89 = .ok (.iconst 1, 1) := by decide +kernel
theorem dX5_turn_90 : decode cX5_turn 90 = .ok (.iadd, 1) := by decide +kernel
theorem dX5_turn_91 : decode cX5_turn 91 = .ok (.invokevirtual 64, 3) := by decide +kernel
theorem dX5_turn_94 : decode cX5_turn 94 = .ok (.pop, 1) := by decide +kernel
theorem dX5_turn_95 : decode cX5_turn 95 = .ok (.goto 26, 3) := by decide +kernel
theorem dX5_turn_98 : decode cX5_turn 98 = .ok (.aload_n 0, 1) := by decide +kernel
theorem dX5_turn_99 : decode cX5_turn 99 = .ok (.iconst 1, 1) := by decide +kernel
theorem dX5_turn_100 : decode cX5_turn 100 = .ok (.iload_n 2, 1) := by decide +kernel
theorem dX5_turn_101 : decode cX5_turn 101 = .ok (.iconst 4, 1) := by decide +kernel
theorem dX5_turn_102 : decode cX5_turn 102 = .ok (.irem, 1) := by decide +kernel
theorem dX5_turn_103 : decode cX5_turn 103 = .ok (.iconst 1, 1) := by decide +kernel
theorem dX5_turn_104 : decode cX5_turn 104 = .ok (.iadd, 1) := by decide +kernel
theorem dX5_turn_105 : decode cX5_turn 105 = .ok (.invokevirtual 64, 3) := by decide +kernel
theorem dX5_turn_108 : decode cX5_turn 108 = .ok (.pop, 1) := by decide +kernel
theorem dX5_turn_109 : decode cX5_turn 109 = .ok (.goto 12, 3) := by decide +kernel
theorem dX5_turn_112 : decode cX5_turn 112 = .ok (.aload_n 0, 1) := by decide +kernel
theorem dX5_turn_113 : decode cX5_turn 113 = .ok (.iload_n 2, 1) := by decide +kernel
theorem dX5_turn_114 : decode cX5_turn 114 = .ok (.bipush 26, 2) := by decide +kernel
theorem dX5_turn_116 : decode cX5_turn 116 = .ok (.irem, 1) := by decide +kernel
theorem dX5_turn_117 : decode cX5_turn 117 = .ok (.invokevirtual 68, 3) := by decide +kernel
theorem dX5_turn_120 : decode cX5_turn 120 = .ok (.pop, 1) := by decide +kernel
theorem dX5_turn_121 : decode cX5_turn 121 = .ok (.return_, 1) := by decide +kernel
theorem dX5_lettersFromBehind_0 : decode cX5_lettersFromBehind 0 = .ok (.iconst 0, 1) := by decide +kernel
theorem dX5_lettersFromBehind_1 : decode cX5_lettersFromBehind 1 = .ok (.istore_n 1, 1) := by decide +kernel
theorem dX5_lettersFromBehind_2 : decode cX5_lettersFromBehind 2 = .ok (.iconst 0, 1) := by decide +kernel
theorem dX5_lettersFromBehind_3 : decode cX5_lettersFromBehind 3 = .ok (.istore_n 2, 1) := by decide +kernel
theorem dX5_lettersFromBehind_4 : decode cX5_lettersFromBehind 4 = .ok (.iload_n 2, 1) := by decide +kernel
theorem dX5_lettersFromBehind_5 : decode cX5_lettersFromBehind 5 = .ok (.aload_n 0, 1) := by decide +kernel
theorem dX5_lettersFromBehind_6 : decode cX5_lettersFromBehind 6 = .ok (.getfield 15, 3) := by decide +kernel
theorem dX5_lettersFromBehind_9 : decode cX5_lettersFromBehind 9 = .ok (.if_icmp .ge 26, 3) := by decide +kernel
theorem dX5_lettersFromBehind_12 : decode cX5_lettersFromBehind 12 = .ok (.aload_n 0, 1) := by decide +kernel
theorem dX5_lettersFromBehind_13 : decode cX5_lettersFromBehind 13 = .ok (.getfield 9, 3) := by decide +kernel
theorem dX5_lettersFromBehind_16 : decode cX5_lettersFromBehind 16 = .ok (.iload_n 2, 1) := by decide +kernel
theorem dX5_lettersFromBehind_17 : decode cX5_lettersFromBehind 17 = .ok (.iaload, 1) := by decide +kernel
theorem dX5_lettersFromBehind_18 : decode cX5_lettersFromBehind 18 = .ok (.invokestatic 71, 3) := by decide +kernel
theorem dX5_lettersFromBehind_21 : decode cX5_lettersFromBehind 21 = .ok (.bipush (-4), 2) := by decide +kernel
theorem dX5_lettersFromBehind_23 : decode cX5_lettersFromBehind 23 = .ok (.if_icmp .eq 6, 3) := by decide +kernel
theorem dX5_lettersFromBehind_26 : decode cX5_lettersFromBehind 26 = .ok (.iinc 1 1, 3) := by decide +kernel
theorem dX5_lettersFromBehind_29 : decode cX5_lettersFromBehind 29 = .ok (.iinc 2 1, 3) := by decide +kernel
theorem dX5_lettersFromBehind_32 : decode cX5_lettersFromBehind 32 = .ok (.goto (-28), 3) := by decide +kernel
theorem dX5_lettersFromBehind_35 : decode cX5_lettersFromBehind 35 = .ok (.iload_n 1, 1) := by decide +kernel
theorem dX5_lettersFromBehind_36 : decode cX5_lettersFromBehind 36 = .ok (.ireturn, 1) := by decide +kernel
theorem dX5_hasWordAt_0 : decode cX5_hasWordAt 0 = .ok (.iload_n 2, 1) := by decide +kernel
theorem dX5_hasWordAt_1 : decode cX5_hasWordAt 1 = .ok (.aload_n 0, 1) := by decide +kernel
theorem dX5_hasWordAt_2 : decode cX5_hasWordAt 2 = .ok (.getfield 22, 3) := by decide +kernel
theorem dX5_hasWordAt_5 : decode cX5_hasWordAt 5 = .ok (.iload_n 1, 1) := by decide +kernel
theorem dX5_hasWordAt_6 : decode cX5_hasWordAt 6 = .ok (.iaload, 1) := by decide +kernel
theorem dX5_hasWordAt_7 : decode cX5_hasWordAt 7 = .ok (.iadd, 1) := by decide +kernel
theorem dX5_hasWordAt_8 : decode cX5_hasWordAt 8 = .ok (.aload_n 0, 1) := by decide +kernel
theorem dX5_hasWordAt_9 : decode cX5_hasWordAt 9 = .ok (.getfield 15, 3) := by decide +kernel
theorem dX5_hasWordAt_12 : decode cX5_hasWordAt 12 = .ok (.if_icmp .le 5, 3) := by decide +kernel
theorem dX5_hasWordAt_15 : decode cX5_hasWordAt 15 = .ok (.iconst 0, 1) := by decide +kernel
theorem dX5_hasWordAt_16 : decode cX5_hasWordAt 16 = .ok (.ireturn, 1) := by decide +kernel
theorem dX5_hasWordAt_17 : decode cX5_hasWordAt 17 = .ok (.iconst 0, 1) := by decide +kernel
theorem dX5_hasWordAt_18 : decode cX5_hasWordAt 18 = .ok (.istore_n 3, 1) := by decide +kernel
theorem dX5_hasWordAt_19 : decode cX5_hasWordAt 19 = .ok (.iload_n 3, 1) := by decide +kernel
theorem dX5_hasWordAt_20 : decode cX5_hasWordAt 20 = .ok (.aload_n 0, 1) := by decide +kernel
theorem dX5_hasWordAt_21 : decode cX5_hasWordAt 21 = .ok (.getfield 22, 3) := by decide +kernel
theorem dX5_hasWordAt_24 : decode cX5_hasWordAt 24 = .ok (.iload_n 1, 1) := by decide +kernel
theorem dX5_hasWordAt_25 : decode cX5_hasWordAt 25 = .ok (.iaload, 1) := by decide +kernel
theorem dX5_hasWordAt_26 : decode cX5_hasWordAt 26 = .ok (.if_icmp .ge 28, 3) := by decide +kernel
theorem dX5_hasWordAt_29 : decode cX5_hasWordAt 29 = .ok (.aload_n 0, 1) := by decide +kernel
theorem dX5_hasWordAt_30 : decode cX5_hasWordAt 30 = .ok (.getfield 9, 3) := by decide +kernel
theorem dX5_hasWordAt_33 : decode cX5_hasWordAt 33 = .ok (.iload_n 2, 1) := by decide +kernel
theorem dX5_hasWordAt_34 : decode cX5_hasWordAt 34 = .ok (.iload_n 3, 1) := by decide +kernel
theorem dX5_hasWordAt_35 : decode cX5_hasWordAt 35 = .ok (.iadd, 1) := by decide +kernel
theorem dX5_hasWordAt_36 : decode cX5_hasWordAt 36 = .ok (.iaload, 1) := by decide +kernel
theorem dX5_hasWordAt_37 : decode cX5_hasWordAt 37 = .ok (.aload_n 0, 1) := by decide +kernel
theorem dX5_hasWordAt_38 : decode cX5_hasWordAt 38 = .ok (.iload_n 1, 1) := by decide +kernel
theorem dX5_hasWordAt_39 : decode cX5_hasWordAt 39 = .ok (.iload_n 3, 1) := by decide +kernel
theorem dX5_hasWordAt_40 : decode cX5_hasWordAt 40 = .ok (.invokevirtual 74, 3) := by decide +kernel
theorem dX5_hasWordAt_43 : decode cX5_hasWordAt 43 = .ok (.if_icmp .eq 5, 3) := by decide +kernel
theorem dX5_hasWordAt_46 : decode cX5_hasWordAt 46 = .ok (.iconst 0, 1) := by decide +kernel
theorem dX5_hasWordAt_47 : decode cX5_hasWordAt 47 = .ok (.ireturn, 1) := by decide +kernel
theorem dX5_hasWordAt_48 : decode cX5_hasWordAt 48 = .ok (.iinc 3 1, 3) := by decide +kernel
theorem dX5_hasWordAt_51 : decode cX5_hasWordAt 51 = .ok (.goto (-32), 3) := by decide +kernel
theorem dX5_hasWordAt_54 : decode cX5_hasWordAt 54 = .ok (.iconst 1, 1) := by decide +kernel
theorem dX5_hasWordAt_55 : decode cX5_hasWordAt 55 = .ok (.ireturn, 1) := by decide +kernel
theorem dX5_effortOf_0 : decode cX5_effortOf 0 = .ok (.aload_n 0, 1) := by decide +kernel
theorem dX5_effortOf_1 : decode cX5_effortOf 1 = .ok (.getfield 28, 3) := by decide +kernel
theorem dX5_effortOf_4 : decode cX5_effortOf 4 = .ok (.iload_n 1, 1) := by decide +kernel
theorem dX5_effortOf_5 : decode cX5_effortOf 5 = .ok (.iload_n 3, 1) := by decide +kernel
theorem dX5_effortOf_6 : decode cX5_effortOf 6 = .ok (.invokestatic 77, 3) := by decide +kernel
theorem dX5_effortOf_9 : decode cX5_effortOf 9 = .ok (.imul, 1) := by decide +kernel
theorem dX5_effortOf_10 : decode cX5_effortOf 10 = .ok (.aload_n 0, 1) := by decide +kernel
theorem dX5_effortOf_11 : decode cX5_effortOf 11 = .ok (.getfield 31, 3) := by decide +kernel
theorem dX5_effortOf_14 : decode cX5_effortOf 14 = .ok (.iload_n 2, 1) := by decide +kernel
theorem dX5_effortOf_15 : decode cX5_effortOf 15 = .ok (.iload 4, 2) := by decide +kernel
theorem dX5_effortOf_17 : decode cX5_effortOf 17 = .ok (.invokestatic 77, 3) := by decide +kernel
theorem dX5_effortOf_20 : decode cX5_effortOf 20 = .ok (.imul, 1) := by decide +kernel
theorem dX5_effortOf_21 : decode cX5_effortOf 21 = .ok (.iadd, 1) := by decide +kernel
theorem dX5_effortOf_22 : decode cX5_effortOf 22 = .ok (.ireturn, 1) := by decide +kernel
theorem dX8_sign_0 : decode cX8_sign 0 = .ok (.iload_n 1, 1) := by decide +kernel
theorem dX8_sign_1 : decode cX8_sign 1 = .ok (.invokestatic 78, 3) := by decide +kernel
theorem dX8_sign_4 : decode cX8_sign 4 = .ok (.ifCond .ne 5, 3) := by decide +kernel
theorem dX8_sign_7 : decode cX8_sign 7 = .ok (.iconst (-1), 1) := by decide +kernel
theorem dX8_sign_8 : decode cX8_sign 8 = .ok (.ireturn, 1) := by decide +kernel
theorem dX8_sign_9 : decode cX8_sign 9 = .ok (.iload_n 2, 1) := by decide +kernel
theorem dX8_sign_10 : decode cX8_sign 10 = .ok (.tableswitch 43 0 2 #[26, 32, 38], 26) := by decide +kernel
theorem dX8_sign_36 : decode cX8_sign 36 = .ok (.getstatic 82, 3) := by decide +kernel
theorem dX8_sign_39 : decode cX8_sign 39 = .ok (.iload_n 1, 1) := by decide +kernel
theorem dX8_sign_40 : decode cX8_sign 40 = .ok (.iaload, 1) := by decide +kernel
theorem dX8_sign_41 : decode cX8_sign 41 = .ok (.ireturn, 1) := by decide +kernel
theorem dX8_sign_42 : decode cX8_sign 42 = .ok (.getstatic 86, 3) := by decide +kernel
theorem dX8_sign_45 : decode cX8_sign 45 = .ok (.iload_n 1, 1) := by decide +kernel
theorem dX8_sign_46 : decode cX8_sign 46 = .ok (.iaload, 1) := by decide +kernel
theorem dX8_sign_47 : decode cX8_sign 47 = .ok (.ireturn, 1) := by decide +kernel
theorem dX8_sign_48 : decode cX8_sign 48 = .ok (.iload_n 1, 1) := by decide +kernel
theorem dX8_sign_49 : decode cX8_sign 49 = .ok (.invokestatic 89, 3) := by decide +kernel
theorem dX8_sign_52 : decode cX8_sign 52 = .ok (.ireturn, 1) := by decide +kernel
theorem dX8_sign_53 : decode cX8_sign 53 = .ok (.iconst (-1), 1) := by decide +kernel
theorem dX8_sign_54 : decode cX8_sign 54 = .ok (.ireturn, 1) := by decide +kernel
theorem dX8_letter_0 : decode cX8_letter 0 = .ok (.iload_n 1, 1) := by decide +kernel
theorem dX8_letter_1 : decode cX8_letter 1 = .ok (.i2l, 1) := by decide +kernel
theorem dX8_letter_2 : decode cX8_letter 2 = .ok (.invokestatic 93, 3) := by decide +kernel
theorem dX8_letter_5 : decode cX8_letter 5 = .ok (.ifCond .eq 19, 3) := by decide +kernel
theorem dX8_letter_8 : decode cX8_letter 8 = .ok (.iload_n 2, 1) := by decide +kernel
theorem dX8_letter_9 : decode cX8_letter 9 = .ok (.i2l, 1) := by decide +kernel
theorem dX8_letter_10 : decode cX8_letter 10 = .ok (.invokestatic 93, 3) := by decide +kernel
theorem dX8_letter_13 : decode cX8_letter 13 = .ok (.ifCond .eq 11, 3) := by decide +kernel
theorem dX8_letter_16 : decode cX8_letter 16 = .ok (.iload_n 1, 1) := by decide +kernel
theorem dX8_letter_17 : decode cX8_letter 17 = .ok (.iload_n 2, 1) := by decide +kernel
theorem dX8_letter_18 : decode cX8_letter 18 = .ok (.invokestatic 97, 3) := by decide +kernel
theorem dX8_letter_21 : decode cX8_letter 21 = .ok (.goto 4, 3) := by decide +kernel
theorem dX8_letter_24 : decode cX8_letter 24 = .ok (.iconst (-1), 1) := by decide +kernel
theorem dX8_letter_25 : decode cX8_letter 25 = .ok (.ireturn, 1) := by decide +kernel
theorem dX8_apart_0 : decode cX8_apart 0 = .ok (.iload_n 1, 1) := by decide +kernel
theorem dX8_apart_1 : decode cX8_apart 1 = .ok (.invokestatic 101, 3) := by decide +kernel
theorem dX8_apart_4 : decode cX8_apart 4 = .ok (.ifCond .eq 10, 3) := by decide +kernel
theorem dX8_apart_7 : decode cX8_apart 7 = .ok (.iload_n 2, 1) := by decide +kernel
theorem dX8_apart_8 : decode cX8_apart 8 = .ok (.invokestatic 101, 3) := by decide +kernel
theorem dX8_apart_11 : decode cX8_apart 11 = .ok (.ifCond .ne 5, 3) := by decide +kernel
theorem dX8_apart_14 : decode cX8_apart 14 = .ok (.iconst (-1), 1) := by decide +kernel
theorem dX8_apart_15 : decode cX8_apart 15 = .ok (.ireturn, 1) := by decide +kernel
theorem dX8_apart_16 : decode cX8_apart 16 = .ok (.getstatic 82, 3) := by decide +kernel
theorem dX8_apart_19 : decode cX8_apart 19 = .ok (.iload_n 1, 1) := by decide +kernel
theorem dX8_apart_20 : decode cX8_apart 20 = .ok (.iaload, 1) := by decide +kernel
theorem dX8_apart_21 : decode cX8_apart 21 = .ok (.getstatic 86, 3) := by decide +kernel
theorem dX8_apart_24 : decode cX8_apart 24 = .ok (.iload_n 1, 1) := by decide +kernel
theorem dX8_apart_25 : decode cX8_apart 25 = .ok (.iaload, 1) := by decide +kernel
theorem dX8_apart_26 : decode cX8_apart 26 = .ok (.getstatic 82, 3) := by decide +kernel
theorem dX8_apart_29 : decode cX8_apart 29 = .ok (.iload_n 2, 1) := by decide +kernel
theorem dX8_apart_30 : decode cX8_apart 30 = .ok (.iaload, 1) := by decide +kernel
theorem dX8_apart_31 : decode cX8_apart 31 = .ok (.getstatic 86, 3) := by decide +kernel
theorem dX8_apart_34 : decode cX8_apart 34 = .ok (.iload_n 2, 1) := by decide +kernel
theorem dX8_apart_35 : decode cX8_apart 35 = .ok (.iaload, 1) := by decide +kernel
theorem dX8_apart_36 : decode cX8_apart 36 = .ok (.invokestatic 104, 3) := by decide +kernel
theorem dX8_apart_39 : decode cX8_apart 39 = .ok (.ireturn, 1) := by decide +kernel
theorem dX8_say_0 : decode cX8_say 0 = .ok (.aload_n 0, 1) := by decide +kernel
theorem dX8_say_1 : decode cX8_say 1 = .ok (.getfield 33, 3) := by decide +kernel
theorem dX8_say_4 : decode cX8_say 4 = .ok (.aload_n 0, 1) := by decide +kernel
theorem dX8_say_5 : decode cX8_say 5 = .ok (.getfield 10, 3) := by decide +kernel
theorem dX8_say_8 : decode cX8_say 8 = .ok (.invokevirtual 108, 3) := by decide +kernel
theorem dX8_say_11 : decode cX8_say 11 = .ok (.aload_n 0, 1) := by decide +kernel
theorem dX8_say_12 : decode cX8_say 12 = .ok (.aload_n 0, 1) := by decide +kernel
theorem dX8_say_13 : decode cX8_say 13 = .ok (.getfield 10, 3) := by decide +kernel
theorem dX8_say_16 : decode cX8_say 16 = .ok (.iload_n 1, 1) := by decide +kernel
theorem dX8_say_17 : decode cX8_say 17 = .ok (.invokevirtual 112, 3) := by decide +kernel
theorem dX8_say_20 : decode cX8_say 20 = .ok (.invokevirtual 115, 3) := by decide +kernel
theorem dX8_say_23 : decode cX8_say 23 = .ok (.ireturn, 1) := by decide +kernel
theorem dX8_back_0 : decode cX8_back 0 = .ok (.aload_n 0, 1) := by decide +kernel
theorem dX8_back_1 : decode cX8_back 1 = .ok (.getfield 33, 3) := by decide +kernel
theorem dX8_back_4 : decode cX8_back 4 = .ok (.aload_n 0, 1) := by decide +kernel
theorem dX8_back_5 : decode cX8_back 5 = .ok (.getfield 10, 3) := by decide +kernel
theorem dX8_back_8 : decode cX8_back 8 = .ok (.invokevirtual 108, 3) := by decide +kernel
theorem dX8_back_11 : decode cX8_back 11 = .ok (.aload_n 0, 1) := by decide +kernel
theorem dX8_back_12 : decode cX8_back 12 = .ok (.aload_n 0, 1) := by decide +kernel
theorem dX8_back_13 : decode cX8_back 13 = .ok (.getfield 10, 3) := by decide +kernel
theorem dX8_back_16 : decode cX8_back 16 = .ok (.invokevirtual 118, 3) := by decide +kernel
theorem dX8_back_19 : decode cX8_back 19 = .ok (.invokevirtual 115, 3) := by decide +kernel
theorem dX8_back_22 : decode cX8_back 22 = .ok (.ireturn, 1) := by decide +kernel
theorem dX8_keep_0 : decode cX8_keep 0 = .ok (.aload_n 0, 1) := by decide +kernel
theorem dX8_keep_1 : decode cX8_keep 1 = .ok (.getfield 33, 3) := by decide +kernel
theorem dX8_keep_4 : decode cX8_keep 4 = .ok (.aload_n 0, 1) := by decide +kernel
theorem dX8_keep_5 : decode cX8_keep 5 = .ok (.getfield 10, 3) := by decide +kernel
theorem dX8_keep_8 : decode cX8_keep 8 = .ok (.invokevirtual 108, 3) := by decide +kernel
theorem dX8_keep_11 : decode cX8_keep 11 = .ok (.aload_n 0, 1) := by decide +kernel
theorem dX8_keep_12 : decode cX8_keep 12 = .ok (.aload_n 0, 1) := by decide +kernel
theorem dX8_keep_13 : decode cX8_keep 13 = .ok (.getfield 10, 3) := by decide +kernel
theorem dX8_keep_16 : decode cX8_keep 16 = .ok (.invokevirtual 122, 3) := by decide +kernel
theorem dX8_keep_19 : decode cX8_keep 19 = .ok (.invokevirtual 115, 3) := by decide +kernel
theorem dX8_keep_22 : decode cX8_keep 22 = .ok (.ireturn, 1) := by decide +kernel
theorem dX8_lose_0 : decode cX8_lose 0 = .ok (.aload_n 0, 1) := by decide +kernel
theorem dX8_lose_1 : decode cX8_lose 1 = .ok (.getfield 33, 3) := by decide +kernel
theorem dX8_lose_4 : decode cX8_lose 4 = .ok (.aload_n 0, 1) := by decide +kernel
theorem dX8_lose_5 : decode cX8_lose 5 = .ok (.getfield 10, 3) := by decide +kernel
theorem dX8_lose_8 : decode cX8_lose 8 = .ok (.invokevirtual 108, 3) := by decide +kernel
theorem dX8_lose_11 : decode cX8_lose 11 = .ok (.aload_n 0, 1) := by decide +kernel
theorem dX8_lose_12 : decode cX8_lose 12 = .ok (.aload_n 0, 1) := by decide +kernel
theorem dX8_lose_13 : decode cX8_lose 13 = .ok (.getfield 10, 3) := by decide +kernel
theorem dX8_lose_16 : decode cX8_lose 16 = .ok (.iload_n 1, 1) := by decide +kernel
theorem dX8_lose_17 : decode cX8_lose 17 = .ok (.invokevirtual 125, 3) := by decide +kernel
theorem dX8_lose_20 : decode cX8_lose 20 = .ok (.invokevirtual 115, 3) := by decide +kernel
theorem dX8_lose_23 : decode cX8_lose 23 = .ok (.ireturn, 1) := by decide +kernel
theorem dX8_call_0 : decode cX8_call 0 = .ok (.aload_n 0, 1) := by decide +kernel
theorem dX8_call_1 : decode cX8_call 1 = .ok (.getfield 33, 3) := by decide +kernel
theorem dX8_call_4 : decode cX8_call 4 = .ok (.aload_n 0, 1) := by decide +kernel
theorem dX8_call_5 : decode cX8_call 5 = .ok (.getfield 10, 3) := by decide +kernel
theorem dX8_call_8 : decode cX8_call 8 = .ok (.invokevirtual 108, 3) := by decide +kernel
theorem dX8_call_11 : decode cX8_call 11 = .ok (.aload_n 0, 1) := by decide +kernel
theorem dX8_call_12 : decode cX8_call 12 = .ok (.aload_n 0, 1) := by decide +kernel
theorem dX8_call_13 : decode cX8_call 13 = .ok (.getfield 10, 3) := by decide +kernel
theorem dX8_call_16 : decode cX8_call 16 = .ok (.iload_n 1, 1) := by decide +kernel
theorem dX8_call_17 : decode cX8_call 17 = .ok (.invokevirtual 128, 3) := by decide +kernel
theorem dX8_call_20 : decode cX8_call 20 = .ok (.invokevirtual 115, 3) := by decide +kernel
theorem dX8_call_23 : decode cX8_call 23 = .ok (.ireturn, 1) := by decide +kernel
theorem dX8_tell_0 : decode cX8_tell 0 = .ok (.aload_n 0, 1) := by decide +kernel
theorem dX8_tell_1 : decode cX8_tell 1 = .ok (.getfield 33, 3) := by decide +kernel
theorem dX8_tell_4 : decode cX8_tell 4 = .ok (.aload_n 0, 1) := by decide +kernel
theorem dX8_tell_5 : decode cX8_tell 5 = .ok (.getfield 10, 3) := by decide +kernel
theorem dX8_tell_8 : decode cX8_tell 8 = .ok (.invokevirtual 108, 3) := by decide +kernel
theorem dX8_tell_11 : decode cX8_tell 11 = .ok (.aload_n 0, 1) := by decide +kernel
theorem dX8_tell_12 : decode cX8_tell 12 = .ok (.aload_n 0, 1) := by decide +kernel
theorem dX8_tell_13 : decode cX8_tell 13 = .ok (.getfield 10, 3) := by decide +kernel
theorem dX8_tell_16 : decode cX8_tell 16 = .ok (.iload_n 1, 1) := by decide +kernel
theorem dX8_tell_17 : decode cX8_tell 17 = .ok (.iload_n 2, 1) := by decide +kernel
theorem dX8_tell_18 : decode cX8_tell 18 = .ok (.invokevirtual 131, 3) := by decide +kernel
theorem dX8_tell_21 : decode cX8_tell 21 = .ok (.invokevirtual 115, 3) := by decide +kernel
theorem dX8_tell_24 : decode cX8_tell 24 = .ok (.ireturn, 1) := by decide +kernel
theorem dX8_said_0 : decode cX8_said 0 = .ok (.iload_n 2, 1) := by decide +kernel
theorem dX8_said_1 : decode cX8_said 1 = .ok (.ifCond .lt 19, 3) := by decide +kernel
theorem dX8_said_4 : decode cX8_said 4 = .ok (.iload_n 1, 1) := by decide +kernel
theorem dX8_said_5 : decode cX8_said 5 = .ok (.iconst (-1), 1) := by decide +kernel
theorem dX8_said_6 : decode cX8_said 6 = .ok (.if_icmp .eq 16, 3) := by decide +kernel
theorem dX8_said_9 : decode cX8_said 9 = .ok (.aload_n 0, 1) := by decide +kernel
theorem dX8_said_10 : decode cX8_said 10 = .ok (.getfield 10, 3) := by decide +kernel
theorem dX8_said_13 : decode cX8_said 13 = .ok (.iload_n 1, 1) := by decide +kernel
theorem dX8_said_14 : decode cX8_said 14 = .ok (.invokevirtual 134, 3) := by decide +kernel
theorem dX8_said_17 : decode cX8_said 17 = .ok (.ifCond .ne 5, 3) := by decide +kernel
theorem dX8_said_20 : decode cX8_said 20 = .ok (.iconst (-1), 1) := by decide +kernel
theorem dX8_said_21 : decode cX8_said 21 = .ok (.ireturn, 1) := by decide +kernel
theorem dX8_said_22 : decode cX8_said 22 = .ok (.iload_n 1, 1) := by decide +kernel
theorem dX8_said_23 : decode cX8_said 23 = .ok (.iconst (-1), 1) := by decide +kernel
theorem dX8_said_24 : decode cX8_said 24 = .ok (.if_icmp .ne 29, 3) := by decide +kernel
theorem dX8_said_27 : decode cX8_said 27 = .ok (.iload_n 2, 1) := by decide +kernel
theorem dX8_said_28 : decode cX8_said 28 = .ok (.aload_n 0, 1) := by decide +kernel
theorem dX8_said_29 : decode cX8_said 29 = .ok (.getfield 10, 3) := by decide +kernel
theorem dX8_said_32 : decode cX8_said 32 = .ok (.getfield 137, 3) := by decide +kernel
theorem dX8_said_35 : decode cX8_said 35 = .ok (.if_icmp .ge 15, 3) := by decide +kernel
theorem dX8_said_38 : decode cX8_said 38 = .ok (.aload_n 0, 1) := by decide +kernel
theorem dX8_said_39 : decode cX8_said 39 = .ok (.getfield 10, 3) := by decide +kernel
theorem dX8_said_42 : decode cX8_said 42 = .ok (.getfield 141, 3) := by decide +kernel
theorem dX8_said_45 : decode cX8_said 45 = .ok (.iload_n 2, 1) := by decide +kernel
theorem dX8_said_46 : decode cX8_said 46 = .ok (.iaload, 1) := by decide +kernel
theorem dX8_said_47 : decode cX8_said 47 = .ok (.goto 5, 3) := by decide +kernel
theorem dX8_said_50 : decode cX8_said 50 = .ok (.bipush (-4), 2) := by decide +kernel
theorem dX8_said_52 : decode cX8_said 52 = .ok (.ireturn, 1) := by decide +kernel
theorem dX8_said_53 : decode cX8_said 53 = .ok (.iload_n 2, 1) := by decide +kernel
theorem dX8_said_54 : decode cX8_said 54 = .ok (.aload_n 0, 1) := by decide +kernel
theorem dX8_said_55 : decode cX8_said 55 = .ok (.getfield 10, 3) := by decide +kernel
theorem dX8_said_58 : decode cX8_said 58 = .ok (.getfield 144, 3) := by decide +kernel
theorem dX8_said_61 : decode cX8_said 61 = .ok (.iload_n 1, 1) := by decide +kernel
theorem dX8_said_62 : decode cX8_said 62 = .ok (.iaload, 1) := by decide +kernel
theorem dX8_said_63 : decode cX8_said 63 = .ok (.if_icmp .ge 15, 3) := by decide +kernel
theorem dX8_said_66 : decode cX8_said 66 = .ok (.aload_n 0, 1) := by decide +kernel
theorem dX8_said_67 : decode cX8_said 67 = .ok (.getfield 10, 3) := by decide +kernel
theorem dX8_said_70 : decode cX8_said 70 = .ok (.iload_n 1, 1) := by decide +kernel
theorem dX8_said_71 : decode cX8_said 71 = .ok (.iload_n 2, 1) := by decide +kernel
theorem dX8_said_72 : decode cX8_said 72 = .ok (.invokevirtual 147, 3) := by decide +kernel
theorem dX8_said_75 : decode cX8_said 75 = .ok (.goto 5, 3) := by decide +kernel
theorem dX8_said_78 : decode cX8_said 78 = .ok (.bipush (-4), 2) := by decide +kernel
theorem dX8_said_80 : decode cX8_said 80 = .ok (.ireturn, 1) := by decide +kernel
theorem dX8_count_0 : decode cX8_count 0 = .ok (.iload_n 1, 1) := by decide +kernel
theorem dX8_count_1 : decode cX8_count 1 = .ok (.tableswitch 87 0 5 #[39, 47, 55, 63, 71, 79], 39) := by decide +kernel
theorem dX8_count_40 : decode cX8_count 40 = .ok (.aload_n 0, 1) := by decide +kernel
theorem dX8_count_41 : decode cX8_count 41 = .ok (.getfield 10, 3) := by decide +kernel
theorem dX8_count_44 : decode cX8_count 44 = .ok (.getfield 137, 3) := by decide +kernel
theorem dX8_count_47 : decode cX8_count 47 = .ok (.ireturn, 1) := by decide +kernel
theorem dX8_count_48 : decode cX8_count 48 = .ok (.aload_n 0, 1) := by decide +kernel
theorem dX8_count_49 : decode cX8_count 49 = .ok (.getfield 10, 3) := by decide +kernel
theorem dX8_count_52 : decode cX8_count 52 = .ok (.getfield 150, 3) := by decide +kernel
theorem dX8_count_55 : decode cX8_count 55 = .ok (.ireturn, 1) := by decide +kernel
theorem dX8_count_56 : decode cX8_count 56 = .ok (.aload_n 0, 1) := by decide +kernel
theorem dX8_count_57 : decode cX8_count 57 = .ok (.getfield 10, 3) := by decide +kernel
theorem dX8_count_60 : decode cX8_count 60 = .ok (.getfield 153, 3) := by decide +kernel
theorem dX8_count_63 : decode cX8_count 63 = .ok (.ireturn, 1) := by decide +kernel
theorem dX8_count_64 : decode cX8_count 64 = .ok (.aload_n 0, 1) := by decide +kernel
theorem dX8_count_65 : decode cX8_count 65 = .ok (.getfield 10, 3) := by decide +kernel
theorem dX8_count_68 : decode cX8_count 68 = .ok (.getfield 156, 3) := by decide +kernel
theorem dX8_count_71 : decode cX8_count 71 = .ok (.ireturn, 1) := by decide +kernel
theorem dX8_count_72 : decode cX8_count 72 = .ok (.aload_n 0, 1) := by decide +kernel
theorem dX8_count_73 : decode cX8_count 73 = .ok (.getfield 10, 3) := by decide +kernel
theorem dX8_count_76 : decode cX8_count 76 = .ok (.invokevirtual 159, 3) := by decide +kernel
theorem dX8_count_79 : decode cX8_count 79 = .ok (.ireturn, 1) := by decide +kernel
theorem dX8_count_80 : decode cX8_count 80 = .ok (.aload_n 0, 1) := by decide +kernel
theorem dX8_count_81 : decode cX8_count 81 = .ok (.getfield 19, 3) := by decide +kernel
theorem dX8_count_84 : decode cX8_count 84 = .ok (.getfield 162, 3) := by decide +kernel
theorem dX8_count_87 : decode cX8_count 87 = .ok (.ireturn, 1) := by decide +kernel
theorem dX8_count_88 : decode cX8_count 88 = .ok (.iconst (-1), 1) := by decide +kernel
theorem dX8_count_89 : decode cX8_count 89 = .ok (.ireturn, 1) := by decide +kernel
theorem dX8_least_0 : decode cX8_least 0 = .ok (.iload_n 1, 1) := by decide +kernel
theorem dX8_least_1 : decode cX8_least 1 = .ok (.ifCond .lt 8, 3) := by decide +kernel
theorem dX8_least_4 : decode cX8_least 4 = .ok (.iload_n 1, 1) := by decide +kernel
theorem dX8_least_5 : decode cX8_least 5 = .ok (.iconst 3, 1) := by decide +kernel
theorem dX8_least_6 : decode cX8_least 6 = .ok (.if_icmp .le 5, 3) := by decide +kernel
theorem dX8_least_9 : decode cX8_least 9 = .ok (.iconst (-1), 1) := by decide +kernel
theorem dX8_least_10 : decode cX8_least 10 = .ok (.ireturn, 1) := by decide +kernel
theorem dX8_least_11 : decode cX8_least 11 = .ok (.aload_n 0, 1) := by decide +kernel
theorem dX8_least_12 : decode cX8_least 12 = .ok (.getfield 39, 3) := by decide +kernel
theorem dX8_least_15 : decode cX8_least 15 = .ok (.aload_n 0, 1) := by decide +kernel
theorem dX8_least_16 : decode cX8_least 16 = .ok (.getfield 10, 3) := by decide +kernel
theorem dX8_least_19 : decode cX8_least 19 = .ok (.invokevirtual 165, 3) := by decide +kernel
theorem dX8_least_22 : decode cX8_least 22 = .ok (.iload_n 1, 1) := by decide +kernel
theorem dX8_least_23 : decode cX8_least 23 = .ok (.tableswitch 49 0 2 #[25, 33, 41], 25) := by decide +kernel
theorem dX8_least_48 : decode cX8_least 48 = .ok (.aload_n 0, 1) := by decide +kernel
theorem dX8_least_49 : decode cX8_least 49 = .ok (.getfield 39, 3) := by decide +kernel
theorem dX8_least_52 : decode cX8_least 52 = .ok (.invokevirtual 168, 3) := by decide +kernel
theorem dX8_least_55 : decode cX8_least 55 = .ok (.ireturn, 1) := by decide +kernel
theorem dX8_least_56 : decode cX8_least 56 = .ok (.aload_n 0, 1) := by decide +kernel
theorem dX8_least_57 : decode cX8_least 57 = .ok (.getfield 39, 3) := by decide +kernel
theorem dX8_least_60 : decode cX8_least 60 = .ok (.invokevirtual 171, 3) := by decide +kernel
theorem dX8_least_63 : decode cX8_least 63 = .ok (.ireturn, 1) := by decide +kernel
theorem dX8_least_64 : decode cX8_least 64 = .ok (.aload_n 0, 1) := by decide +kernel
theorem dX8_least_65 : decode cX8_least 65 = .ok (.getfield 39, 3) := by decide +kernel
theorem dX8_least_68 : decode cX8_least 68 = .ok (.invokevirtual 174, 3) := by decide +kernel
theorem dX8_least_71 : decode cX8_least 71 = .ok (.ireturn, 1) := by decide +kernel
theorem dX8_least_72 : decode cX8_least 72 = .ok (.aload_n 0, 1) := by decide +kernel
theorem dX8_least_73 : decode cX8_least 73 = .ok (.getfield 39, 3) := by decide +kernel
theorem dX8_least_76 : decode cX8_least 76 = .ok (.invokevirtual 177, 3) := by decide +kernel
theorem dX8_least_79 : decode cX8_least 79 = .ok (.ireturn, 1) := by decide +kernel
theorem dX8_arm_0 : decode cX8_arm 0 = .ok (.iload_n 1, 1) := by decide +kernel
theorem dX8_arm_1 : decode cX8_arm 1 = .ok (.ifCond .lt 23, 3) := by decide +kernel
theorem dX8_arm_4 : decode cX8_arm 4 = .ok (.iload_n 1, 1) := by decide +kernel
theorem dX8_arm_5 : decode cX8_arm 5 = .ok (.aload_n 0, 1) := by decide +kernel
theorem dX8_arm_6 : decode cX8_arm 6 = .ok (.getfield 10, 3) := by decide +kernel
theorem dX8_arm_9 : decode cX8_arm 9 = .ok (.getfield 137, 3) := by decide +kernel
theorem dX8_arm_12 : decode cX8_arm 12 = .ok (.if_icmp .ge 12, 3) := by decide +kernel
theorem dX8_arm_15 : decode cX8_arm 15 = .ok (.iload_n 2, 1) := by decide +kernel
theorem dX8_arm_16 : decode cX8_arm 16 = .ok (.ifCond .lt 8, 3) := by decide +kernel
theorem dX8_arm_19 : decode cX8_arm 19 = .ok (.iload_n 2, 1) := by decide +kernel
theorem dX8_arm_20 : decode cX8_arm 20 = .ok (.iconst 1, 1) := by decide +kernel
theorem dX8_arm_21 : decode cX8_arm 21 = .ok (.if_icmp .le 5, 3) := by decide +kernel
theorem dX8_arm_24 : decode cX8_arm 24 = .ok (.iconst (-1), 1) := by decide +kernel
theorem dX8_arm_25 : decode cX8_arm 25 = .ok (.ireturn, 1) := by decide +kernel
theorem dX8_arm_26 : decode cX8_arm 26 = .ok (.aload_n 0, 1) := by decide +kernel
theorem dX8_arm_27 : decode cX8_arm 27 = .ok (.getfield 39, 3) := by decide +kernel
theorem dX8_arm_30 : decode cX8_arm 30 = .ok (.aload_n 0, 1) := by decide +kernel
theorem dX8_arm_31 : decode cX8_arm 31 = .ok (.getfield 10, 3) := by decide +kernel
theorem dX8_arm_34 : decode cX8_arm 34 = .ok (.invokevirtual 165, 3) := by decide +kernel
theorem dX8_arm_37 : decode cX8_arm 37 = .ok (.iload_n 2, 1) := by decide +kernel
theorem dX8_arm_38 : decode cX8_arm 38 = .ok (.ifCond .ne 16, 3) := by decide +kernel
theorem dX8_arm_41 : decode cX8_arm 41 = .ok (.aload_n 0, 1) := by decide +kernel
theorem dX8_arm_42 : decode cX8_arm 42 = .ok (.getfield 39, 3) := by decide +kernel
theorem dX8_arm_45 : decode cX8_arm 45 = .ok (.iload_n 1, 1) := by decide +kernel
theorem dX8_arm_46 : decode cX8_arm 46 = .ok (.iconst 1, 1) := by decide +kernel
theorem dX8_arm_47 : decode cX8_arm 47 = .ok (.iadd, 1) := by decide +kernel
theorem dX8_arm_48 : decode cX8_arm 48 = .ok (.invokevirtual 180, 3) := by decide +kernel
theorem dX8_arm_51 : decode cX8_arm 51 = .ok (.goto 13, 3) := by decide +kernel
theorem dX8_arm_54 : decode cX8_arm 54 = .ok (.aload_n 0, 1) := by decide +kernel
theorem dX8_arm_55 : decode cX8_arm 55 = .ok (.getfield 39, 3) := by decide +kernel
theorem dX8_arm_58 : decode cX8_arm 58 = .ok (.iload_n 1, 1) := by decide +kernel
theorem dX8_arm_59 : decode cX8_arm 59 = .ok (.iconst 1, 1) := by decide +kernel
theorem dX8_arm_60 : decode cX8_arm 60 = .ok (.iadd, 1) := by decide +kernel
theorem dX8_arm_61 : decode cX8_arm 61 = .ok (.invokevirtual 183, 3) := by decide +kernel
theorem dX8_arm_64 : decode cX8_arm 64 = .ok (.ireturn, 1) := by decide +kernel
theorem dX8_brief_0 : decode cX8_brief 0 = .ok (.iload_n 1, 1) := by decide +kernel
theorem dX8_brief_1 : decode cX8_brief 1 = .ok (.ifCond .lt 8, 3) := by decide +kernel
theorem dX8_brief_4 : decode cX8_brief 4 = .ok (.iload_n 1, 1) := by decide +kernel
theorem dX8_brief_5 : decode cX8_brief 5 = .ok (.iconst 1, 1) := by decide +kernel
theorem dX8_brief_6 : decode cX8_brief 6 = .ok (.if_icmp .le 5, 3) := by decide +kernel
theorem dX8_brief_9 : decode cX8_brief 9 = .ok (.iconst (-1), 1) := by decide +kernel
theorem dX8_brief_10 : decode cX8_brief 10 = .ok (.ireturn, 1) := by decide +kernel
theorem dX8_brief_11 : decode cX8_brief 11 = .ok (.aload_n 0, 1) := by decide +kernel
theorem dX8_brief_12 : decode cX8_brief 12 = .ok (.getfield 46, 3) := by decide +kernel
theorem dX8_brief_15 : decode cX8_brief 15 = .ok (.aload_n 0, 1) := by decide +kernel
theorem dX8_brief_16 : decode cX8_brief 16 = .ok (.getfield 10, 3) := by decide +kernel
theorem dX8_brief_19 : decode cX8_brief 19 = .ok (.invokevirtual 186, 3) := by decide +kernel
theorem dX8_brief_22 : decode cX8_brief 22 = .ok (.iload_n 1, 1) := by decide +kernel
theorem dX8_brief_23 : decode cX8_brief 23 = .ok (.ifCond .ne 13, 3) := by decide +kernel
theorem dX8_brief_26 : decode cX8_brief 26 = .ok (.aload_n 0, 1) := by decide +kernel
theorem dX8_brief_27 : decode cX8_brief 27 = .ok (.getfield 46, 3) := by decide +kernel
theorem dX8_brief_30 : decode cX8_brief 30 = .ok (.invokevirtual 187, 3) := by decide +kernel
theorem dX8_brief_33 : decode cX8_brief 33 = .ok (.goto 10, 3) := by decide +kernel
theorem dX8_brief_36 : decode cX8_brief 36 = .ok (.aload_n 0, 1) := by decide +kernel
theorem dX8_brief_37 : decode cX8_brief 37 = .ok (.getfield 46, 3) := by decide +kernel
theorem dX8_brief_40 : decode cX8_brief 40 = .ok (.invokevirtual 190, 3) := by decide +kernel
theorem dX8_brief_43 : decode cX8_brief 43 = .ok (.ireturn, 1) := by decide +kernel
theorem dX8_nearest_0 : decode cX8_nearest 0 = .ok (.iload_n 1, 1) := by decide +kernel
theorem dX8_nearest_1 : decode cX8_nearest 1 = .ok (.ifCond .lt 8, 3) := by decide +kernel
theorem dX8_nearest_4 : decode cX8_nearest 4 = .ok (.iload_n 1, 1) := by decide +kernel
theorem dX8_nearest_5 : decode cX8_nearest 5 = .ok (.iconst 2, 1) := by decide +kernel
theorem dX8_nearest_6 : decode cX8_nearest 6 = .ok (.if_icmp .le 5, 3) := by decide +kernel
theorem dX8_nearest_9 : decode cX8_nearest 9 = .ok (.iconst (-1), 1) := by decide +kernel
theorem dX8_nearest_10 : decode cX8_nearest 10 = .ok (.ireturn, 1) := by decide +kernel
theorem dX8_nearest_11 : decode cX8_nearest 11 = .ok (.aload_n 0, 1) := by decide +kernel
theorem dX8_nearest_12 : decode cX8_nearest 12 = .ok (.getfield 53, 3) := by decide +kernel
theorem dX8_nearest_15 : decode cX8_nearest 15 = .ok (.aload_n 0, 1) := by decide +kernel
theorem dX8_nearest_16 : decode cX8_nearest 16 = .ok (.getfield 10, 3) := by decide +kernel
theorem dX8_nearest_19 : decode cX8_nearest 19 = .ok (.invokevirtual 193, 3) := by decide +kernel
theorem dX8_nearest_22 : decode cX8_nearest 22 = .ok (.aload_n 0, 1) := by decide +kernel
theorem dX8_nearest_23 : decode cX8_nearest 23 = .ok (.getfield 53, 3) := by decide +kernel
theorem dX8_nearest_26 : decode cX8_nearest 26 = .ok (.aload_n 0, 1) := by decide +kernel
theorem dX8_nearest_27 : decode cX8_nearest 27 = .ok (.getfield 10, 3) := by decide +kernel
theorem dX8_nearest_30 : decode cX8_nearest 30 = .ok (.invokevirtual 196, 3) := by decide +kernel
theorem dX8_nearest_33 : decode cX8_nearest 33 = .ok (.aload_n 0, 1) := by decide +kernel
theorem dX8_nearest_34 : decode cX8_nearest 34 = .ok (.getfield 53, 3) := by decide +kernel
theorem dX8_nearest_37 : decode cX8_nearest 37 = .ok (.getfield 199, 3) := by decide +kernel
theorem dX8_nearest_40 : decode cX8_nearest 40 = .ok (.bipush (-4), 2) := by decide +kernel
theorem dX8_nearest_42 : decode cX8_nearest 42 = .ok (.if_icmp .ne 6, 3) := by decide +kernel
theorem dX8_nearest_45 : decode cX8_nearest 45 = .ok (.bipush (-4), 2) := by decide +kernel
theorem dX8_nearest_47 : decode cX8_nearest 47 = .ok (.ireturn, 1) := by decide +kernel
theorem dX8_nearest_48 : decode cX8_nearest 48 = .ok (.iload_n 1, 1) := by decide +kernel
theorem dX8_nearest_49 : decode cX8_nearest 49 = .ok (.lookupswitch 43 #[(0, 27), (1, 35)], 27) := by decide +kernel
theorem dX8_nearest_76 : decode cX8_nearest 76 = .ok (.aload_n 0, 1) := by decide +kernel
theorem dX8_nearest_77 : decode cX8_nearest 77 = .ok (.getfield 53, 3) := by decide +kernel
theorem dX8_nearest_80 : decode cX8_nearest 80 = .ok (.getfield 199, 3) := by decide +kernel
theorem dX8_nearest_83 : decode cX8_nearest 83 = .ok (.ireturn, 1) := by decide +kernel
theorem dX8_nearest_84 : decode cX8_nearest 84 = .ok (.aload_n 0, 1) := by decide +kernel
theorem dX8_nearest_85 : decode cX8_nearest 85 = .ok (.getfield 53, 3) := by decide +kernel
theorem dX8_nearest_88 : decode cX8_nearest 88 = .ok (.getfield 202, 3) := by decide +kernel
theorem dX8_nearest_91 : decode cX8_nearest 91 = .ok (.ireturn, 1) := by decide +kernel
theorem dX8_nearest_92 : decode cX8_nearest 92 = .ok (.aload_n 0, 1) := by decide +kernel
theorem dX8_nearest_93 : decode cX8_nearest 93 = .ok (.getfield 53, 3) := by decide +kernel
theorem dX8_nearest_96 : decode cX8_nearest 96 = .ok (.getfield 205, 3) := by decide +kernel
theorem dX8_nearest_99 : decode cX8_nearest 99 = .ok (.ifCond .eq 7, 3) := by decide +kernel
theorem dX8_nearest_102 : decode cX8_nearest 102 = .ok (.iconst 1, 1) := by decide +kernel
theorem dX8_nearest_103 : decode cX8_nearest 103 = .ok (.goto 4, 3) := by decide +kernel
theorem dX8_nearest_106 : decode cX8_nearest 106 = .ok (.iconst 0, 1) := by decide +kernel
theorem dX8_nearest_107 : decode cX8_nearest 107 = .ok (.ireturn, 1) := by decide +kernel
theorem dX8_slips_0 : decode cX8_slips 0 = .ok (.iload_n 1, 1) := by decide +kernel
theorem dX8_slips_1 : decode cX8_slips 1 = .ok (.tableswitch 52 0 2 #[27, 42, 47], 27) := by decide +kernel
theorem dX8_slips_28 : decode cX8_slips 28 = .ok (.iconst 4, 1) := by decide +kernel
theorem dX8_slips_29 : decode cX8_slips 29 = .ok (.aload_n 0, 1) := by decide +kernel
theorem dX8_slips_30 : decode cX8_slips 30 = .ok (.getfield 10, 3) := by decide +kernel
theorem dX8_slips_33 : decode cX8_slips 33 = .ok (.getfield 137, 3) := by decide +kernel
theorem dX8_slips_36 : decode cX8_slips 36 = .ok (.imul, 1) := by decide +kernel
theorem dX8_slips_37 : decode cX8_slips 37 = .ok (.aload_n 0, 1) := by decide +kernel
theorem dX8_slips_38 : decode cX8_slips 38 = .ok (.invokevirtual 208, 3) := by decide +kernel
theorem dX8_slips_41 : decode cX8_slips 41 = .ok (.isub, 1) := by decide +kernel
theorem dX8_slips_42 : decode cX8_slips 42 = .ok (.ireturn, 1) := by decide +kernel
theorem dX8_slips_43 : decode cX8_slips 43 = .ok (.aload_n 0, 1) := by decide +kernel
theorem dX8_slips_44 : decode cX8_slips 44 = .ok (.invokevirtual 208, 3) := by decide +kernel
theorem dX8_slips_47 : decode cX8_slips 47 = .ok (.ireturn, 1) := by decide +kernel
theorem dX8_slips_48 : decode cX8_slips 48 = .ok (.aload_n 0, 1) := by decide +kernel
theorem dX8_slips_49 : decode cX8_slips 49 = .ok (.invokevirtual 211, 3) := by decide +kernel
theorem dX8_slips_52 : decode cX8_slips 52 = .ok (.ireturn, 1) := by decide +kernel
theorem dX8_slips_53 : decode cX8_slips 53 = .ok (.iconst (-1), 1) := by decide +kernel
theorem dX8_slips_54 : decode cX8_slips 54 = .ok (.ireturn, 1) := by decide +kernel
theorem dX8_still_0 : decode cX8_still 0 = .ok (.aload_n 0, 1) := by decide +kernel
theorem dX8_still_1 : decode cX8_still 1 = .ok (.getfield 10, 3) := by decide +kernel
theorem dX8_still_4 : decode cX8_still 4 = .ok (.iload_n 1, 1) := by decide +kernel
theorem dX8_still_5 : decode cX8_still 5 = .ok (.invokevirtual 134, 3) := by decide +kernel
theorem dX8_still_8 : decode cX8_still 8 = .ok (.ifCond .eq 22, 3) := by decide +kernel
theorem dX8_still_11 : decode cX8_still 11 = .ok (.iload_n 2, 1) := by decide +kernel
theorem dX8_still_12 : decode cX8_still 12 = .ok (.ifCond .lt 18, 3) := by decide +kernel
theorem dX8_still_15 : decode cX8_still 15 = .ok (.iload_n 2, 1) := by decide +kernel
theorem dX8_still_16 : decode cX8_still 16 = .ok (.bipush 10, 2) := by decide +kernel
theorem dX8_still_18 : decode cX8_still 18 = .ok (.if_icmp .gt 12, 3) := by decide +kernel
theorem dX8_still_21 : decode cX8_still 21 = .ok (.iload_n 3, 1) := by decide +kernel
theorem dX8_still_22 : decode cX8_still 22 = .ok (.ifCond .lt 8, 3) := by decide +kernel
theorem dX8_still_25 : decode cX8_still 25 = .ok (.iload_n 3, 1) := by decide +kernel
theorem dX8_still_26 : decode cX8_still 26 = .ok (.iconst 1, 1) := by decide +kernel
theorem dX8_still_27 : decode cX8_still 27 = .ok (.if_icmp .le 5, 3) := by decide +kernel
theorem dX8_still_30 : decode cX8_still 30 = .ok (.iconst (-1), 1) := by decide +kernel
theorem dX8_still_31 : decode cX8_still 31 = .ok (.ireturn, 1) := by decide +kernel
theorem dX8_still_32 : decode cX8_still 32 = .ok (.aload_n 0, 1) := by decide +kernel
theorem dX8_still_33 : decode cX8_still 33 = .ok (.getfield 60, 3) := by decide +kernel
theorem dX8_still_36 : decode cX8_still 36 = .ok (.aload_n 0, 1) := by decide +kernel
theorem dX8_still_37 : decode cX8_still 37 = .ok (.getfield 10, 3) := by decide +kernel
theorem dX8_still_40 : decode cX8_still 40 = .ok (.iload_n 1, 1) := by decide +kernel
theorem dX8_still_41 : decode cX8_still 41 = .ok (.iload_n 2, 1) := by decide +kernel
theorem dX8_still_42 : decode cX8_still 42 = .ok (.invokevirtual 214, 3) := by decide +kernel
theorem dX8_still_45 : decode cX8_still 45 = .ok (.iload_n 3, 1) := by decide +kernel
theorem dX8_still_46 : decode cX8_still 46 = .ok (.ifCond .ne 13, 3) := by decide +kernel
theorem dX8_still_49 : decode cX8_still 49 = .ok (.aload_n 0, 1) := by decide +kernel
theorem dX8_still_50 : decode cX8_still 50 = .ok (.getfield 60, 3) := by decide +kernel
theorem dX8_still_53 : decode cX8_still 53 = .ok (.getfield 217, 3) := by decide +kernel
theorem dX8_still_56 : decode cX8_still 56 = .ok (.goto 10, 3) := by decide +kernel
theorem dX8_still_59 : decode cX8_still 59 = .ok (.aload_n 0, 1) := by decide +kernel
theorem dX8_still_60 : decode cX8_still 60 = .ok (.getfield 60, 3) := by decide +kernel
theorem dX8_still_63 : decode cX8_still 63 = .ok (.getfield 220, 3) := by decide +kernel
theorem dX8_still_66 : decode cX8_still 66 = .ok (.ireturn, 1) := by decide +kernel
theorem dX8_type_0 : decode cX8_type 0 = .ok (.iload_n 1, 1) := by decide +kernel
theorem dX8_type_1 : decode cX8_type 1 = .ok (.bipush 32, 2) := by decide +kernel
theorem dX8_type_3 : decode cX8_type 3 = .ok (.if_icmp .lt 9, 3) := by decide +kernel
theorem dX8_type_6 : decode cX8_type 6 = .ok (.iload_n 1, 1) := by decide +kernel
theorem dX8_type_7 : decode cX8_type 7 = .ok (.bipush 126, 2) := by decide +kernel
theorem dX8_type_9 : decode cX8_type 9 = .ok (.if_icmp .le 5, 3) := by decide +kernel
theorem dX8_type_12 : decode cX8_type 12 = .ok (.iconst (-1), 1) := by decide +kernel
theorem dX8_type_13 : decode cX8_type 13 = .ok (.ireturn, 1) := by decide +kernel
theorem dX8_type_14 : decode cX8_type 14 = .ok (.aload_n 0, 1) := by decide +kernel
theorem dX8_type_15 : decode cX8_type 15 = .ok (.getfield 67, 3) := by decide +kernel
theorem dX8_type_18 : decode cX8_type 18 = .ok (.iload_n 1, 1) := by decide +kernel
theorem dX8_type_19 : decode cX8_type 19 = .ok (.invokevirtual 223, 3) := by decide +kernel
theorem dX8_type_22 : decode cX8_type 22 = .ok (.ireturn, 1) := by decide +kernel
theorem dX8_read_0 : decode cX8_read 0 = .ok (.aload_n 0, 1) := by decide +kernel
theorem dX8_read_1 : decode cX8_read 1 = .ok (.getfield 33, 3) := by decide +kernel
theorem dX8_read_4 : decode cX8_read 4 = .ok (.aload_n 0, 1) := by decide +kernel
theorem dX8_read_5 : decode cX8_read 5 = .ok (.getfield 10, 3) := by decide +kernel
theorem dX8_read_8 : decode cX8_read 8 = .ok (.invokevirtual 108, 3) := by decide +kernel
theorem dX8_read_11 : decode cX8_read 11 = .ok (.aload_n 0, 1) := by decide +kernel
theorem dX8_read_12 : decode cX8_read 12 = .ok (.getfield 33, 3) := by decide +kernel
theorem dX8_read_15 : decode cX8_read 15 = .ok (.invokevirtual 226, 3) := by decide +kernel
theorem dX8_read_18 : decode cX8_read 18 = .ok (.aload_n 0, 1) := by decide +kernel
theorem dX8_read_19 : decode cX8_read 19 = .ok (.getfield 67, 3) := by decide +kernel
theorem dX8_read_22 : decode cX8_read 22 = .ok (.aload_n 0, 1) := by decide +kernel
theorem dX8_read_23 : decode cX8_read 23 = .ok (.getfield 33, 3) := by decide +kernel
theorem dX8_read_26 : decode cX8_read 26 = .ok (.invokevirtual 229, 3) := by decide +kernel
theorem dX8_read_29 : decode cX8_read 29 = .ok (.istore_n 1, 1) := by decide +kernel
theorem dX8_read_30 : decode cX8_read 30 = .ok (.aload_n 0, 1) := by decide +kernel
theorem dX8_read_31 : decode cX8_read 31 = .ok (.getfield 67, 3) := by decide +kernel
theorem dX8_read_34 : decode cX8_read 34 = .ok (.iconst 0, 1) := by decide +kernel
theorem dX8_read_35 : decode cX8_read 35 = .ok (.putfield 233, 3) := by decide +kernel
theorem dX8_read_38 : decode cX8_read 38 = .ok (.iload_n 1, 1) := by decide +kernel
theorem dX8_read_39 : decode cX8_read 39 = .ok (.ifCond .lt 8, 3) := by decide +kernel
theorem dX8_read_42 : decode cX8_read 42 = .ok (.bipush (-20), 2) := by decide +kernel
theorem dX8_read_44 : decode cX8_read 44 = .ok (.iload_n 1, 1) := by decide +kernel
theorem dX8_read_45 : decode cX8_read 45 = .ok (.isub, 1) := by decide +kernel
theorem dX8_read_46 : decode cX8_read 46 = .ok (.ireturn, 1) := by decide +kernel
theorem dX8_read_47 : decode cX8_read 47 = .ok (.aload_n 0, 1) := by decide +kernel
theorem dX8_read_48 : decode cX8_read 48 = .ok (.getfield 19, 3) := by decide +kernel
theorem dX8_read_51 : decode cX8_read 51 = .ok (.aload_n 0, 1) := by decide +kernel
theorem dX8_read_52 : decode cX8_read 52 = .ok (.getfield 10, 3) := by decide +kernel
theorem dX8_read_55 : decode cX8_read 55 = .ok (.invokevirtual 236, 3) := by decide +kernel
theorem dX8_read_58 : decode cX8_read 58 = .ok (.aload_n 0, 1) := by decide +kernel
theorem dX8_read_59 : decode cX8_read 59 = .ok (.getfield 10, 3) := by decide +kernel
theorem dX8_read_62 : decode cX8_read 62 = .ok (.aload_n 0, 1) := by decide +kernel
theorem dX8_read_63 : decode cX8_read 63 = .ok (.getfield 33, 3) := by decide +kernel
theorem dX8_read_66 : decode cX8_read 66 = .ok (.invokevirtual 108, 3) := by decide +kernel
theorem dX8_read_69 : decode cX8_read 69 = .ok (.aload_n 0, 1) := by decide +kernel
theorem dX8_read_70 : decode cX8_read 70 = .ok (.getfield 10, 3) := by decide +kernel
theorem dX8_read_73 : decode cX8_read 73 = .ok (.getfield 137, 3) := by decide +kernel
theorem dX8_read_76 : decode cX8_read 76 = .ok (.ireturn, 1) := by decide +kernel
theorem dX8_drift_0 : decode cX8_drift 0 = .ok (.iload_n 1, 1) := by decide +kernel
theorem dX8_drift_1 : decode cX8_drift 1 = .ok (.iconst 1, 1) := by decide +kernel
theorem dX8_drift_2 : decode cX8_drift 2 = .ok (.if_icmp .lt 9, 3) := by decide +kernel
theorem dX8_drift_5 : decode cX8_drift 5 = .ok (.iload_n 1, 1) := by decide +kernel
theorem dX8_drift_6 : decode cX8_drift 6 = .ok (.bipush 40, 2) := by decide +kernel
theorem dX8_drift_8 : decode cX8_drift 8 = .ok (.if_icmp .le 5, 3) := by decide +kernel
theorem dX8_drift_11 : decode cX8_drift 11 = .ok (.iconst (-1), 1) := by decide +kernel
theorem dX8_drift_12 : decode cX8_drift 12 = .ok (.ireturn, 1) := by decide +kernel
theorem dX8_drift_13 : decode cX8_drift 13 = .ok (.iconst 0, 1) := by decide +kernel
theorem dX8_drift_14 : decode cX8_drift 14 = .ok (.istore_n 2, 1) := by decide +kernel
theorem dX8_drift_15 : decode cX8_drift 15 = .ok (.iload_n 2, 1) := by decide +kernel
theorem dX8_drift_16 : decode cX8_drift 16 = .ok (.iload_n 1, 1) := by decide +kernel
theorem dX8_drift_17 : decode cX8_drift 17 = .ok (.if_icmp .ge 27, 3) := by decide +kernel
theorem dX8_drift_20 : decode cX8_drift 20 = .ok (.aload_n 0, 1) := by decide +kernel
theorem dX8_drift_21 : decode cX8_drift 21 = .ok (.getfield 19, 3) := by decide +kernel
theorem dX8_drift_24 : decode cX8_drift 24 = .ok (.aload_n 0, 1) := by decide +kernel
theorem dX8_drift_25 : decode cX8_drift 25 = .ok (.getfield 10, 3) := by decide +kernel
theorem dX8_drift_28 : decode cX8_drift 28 = .ok (.invokevirtual 236, 3) := by decide +kernel
theorem dX8_drift_31 : decode cX8_drift 31 = .ok (.aload_n 0, 1) := by decide +kernel
theorem dX8_drift_32 : decode cX8_drift 32 = .ok (.getfield 10, 3) := by decide +kernel
theorem dX8_drift_35 : decode cX8_drift 35 = .ok (.invokevirtual 238, 3) := by decide +kernel
theorem dX8_drift_38 : decode cX8_drift 38 = .ok (.iinc 2 1, 3) := by decide +kernel
theorem dX8_drift_41 : decode cX8_drift 41 = .ok (.goto (-26), 3) := by decide +kernel
theorem dX8_drift_44 : decode cX8_drift 44 = .ok (.aload_n 0, 1) := by decide +kernel
theorem dX8_drift_45 : decode cX8_drift 45 = .ok (.getfield 10, 3) := by decide +kernel
theorem dX8_drift_48 : decode cX8_drift 48 = .ok (.getfield 137, 3) := by decide +kernel
theorem dX8_drift_51 : decode cX8_drift 51 = .ok (.ireturn, 1) := by decide +kernel
theorem dX8_undo_0 : decode cX8_undo 0 = .ok (.aload_n 0, 1) := by decide +kernel
theorem dX8_undo_1 : decode cX8_undo 1 = .ok (.getfield 19, 3) := by decide +kernel
theorem dX8_undo_4 : decode cX8_undo 4 = .ok (.aload_n 0, 1) := by decide +kernel
theorem dX8_undo_5 : decode cX8_undo 5 = .ok (.getfield 10, 3) := by decide +kernel
theorem dX8_undo_8 : decode cX8_undo 8 = .ok (.invokevirtual 241, 3) := by decide +kernel
theorem dX8_undo_11 : decode cX8_undo 11 = .ok (.ifCond .eq 13, 3) := by decide +kernel
theorem dX8_undo_14 : decode cX8_undo 14 = .ok (.aload_n 0, 1) := by decide +kernel
theorem dX8_undo_15 : decode cX8_undo 15 = .ok (.getfield 19, 3) := by decide +kernel
theorem dX8_undo_18 : decode cX8_undo 18 = .ok (.getfield 162, 3) := by decide +kernel
theorem dX8_undo_21 : decode cX8_undo 21 = .ok (.goto 5, 3) := by decide +kernel
theorem dX8_undo_24 : decode cX8_undo 24 = .ok (.bipush (-4), 2) := by decide +kernel
theorem dX8_undo_26 : decode cX8_undo 26 = .ok (.ireturn, 1) := by decide +kernel
theorem dX8_seed_0 : decode cX8_seed 0 = .ok (.iload_n 1, 1) := by decide +kernel
theorem dX8_seed_1 : decode cX8_seed 1 = .ok (.ifCond .ge 5, 3) := by decide +kernel
theorem dX8_seed_4 : decode cX8_seed 4 = .ok (.iconst (-1), 1) := by decide +kernel
theorem dX8_seed_5 : decode cX8_seed 5 = .ok (.ireturn, 1) := by decide +kernel
theorem dX8_seed_6 : decode cX8_seed 6 = .ok (.aload_n 0, 1) := by decide +kernel
theorem dX8_seed_7 : decode cX8_seed 7 = .ok (.getfield 10, 3) := by decide +kernel
theorem dX8_seed_10 : decode cX8_seed 10 = .ok (.getfield 245, 3) := by decide +kernel
theorem dX8_seed_13 : decode cX8_seed 13 = .ok (.istore_n 2, 1) := by decide +kernel
theorem dX8_seed_14 : decode cX8_seed 14 = .ok (.aload_n 0, 1) := by decide +kernel
theorem dX8_seed_15 : decode cX8_seed 15 = .ok (.getfield 10, 3) := by decide +kernel
theorem dX8_seed_18 : decode cX8_seed 18 = .ok (.iload_n 1, 1) := by decide +kernel
theorem dX8_seed_19 : decode cX8_seed 19 = .ok (.putfield 245, 3) := by decide +kernel
theorem dX8_seed_22 : decode cX8_seed 22 = .ok (.iload_n 2, 1) := by decide +kernel
theorem dX8_seed_23 : decode cX8_seed 23 = .ok (.ireturn, 1) := by decide +kernel
theorem dX8_image_0 : decode cX8_image 0 = .ok (.aload_n 0, 1) := by decide +kernel
theorem dX8_image_1 : decode cX8_image 1 = .ok (.getfield 23, 3) := by decide +kernel
theorem dX8_image_4 : decode cX8_image 4 = .ok (.aload_n 0, 1) := by decide +kernel
theorem dX8_image_5 : decode cX8_image 5 = .ok (.getfield 10, 3) := by decide +kernel
theorem dX8_image_8 : decode cX8_image 8 = .ok (.invokevirtual 108, 3) := by decide +kernel
theorem dX8_image_11 : decode cX8_image 11 = .ok (.aload_n 0, 1) := by decide +kernel
theorem dX8_image_12 : decode cX8_image 12 = .ok (.getfield 26, 3) := by decide +kernel
theorem dX8_image_15 : decode cX8_image 15 = .ok (.aload_n 0, 1) := by decide +kernel
theorem dX8_image_16 : decode cX8_image 16 = .ok (.getfield 19, 3) := by decide +kernel
theorem dX8_image_19 : decode cX8_image 19 = .ok (.invokevirtual 248, 3) := by decide +kernel
theorem dX8_image_22 : decode cX8_image 22 = .ok (.aload_n 0, 1) := by decide +kernel
theorem dX8_image_23 : decode cX8_image 23 = .ok (.iconst 1, 1) := by decide +kernel
theorem dX8_image_24 : decode cX8_image 24 = .ok (.putfield 29, 3) := by decide +kernel
theorem dX8_image_27 : decode cX8_image 27 = .ok (.iconst 1, 1) := by decide +kernel
theorem dX8_image_28 : decode cX8_image 28 = .ok (.ireturn, 1) := by decide +kernel
theorem dX8_restore_0 : decode cX8_restore 0 = .ok (.aload_n 0, 1) := by decide +kernel
theorem dX8_restore_1 : decode cX8_restore 1 = .ok (.getfield 29, 3) := by decide +kernel
theorem dX8_restore_4 : decode cX8_restore 4 = .ok (.ifCond .ne 6, 3) := by decide +kernel
theorem dX8_restore_7 : decode cX8_restore 7 = .ok (.bipush (-4), 2) := by decide +kernel
theorem dX8_restore_9 : decode cX8_restore 9 = .ok (.ireturn, 1) := by decide +kernel
theorem dX8_restore_10 : decode cX8_restore 10 = .ok (.aload_n 0, 1) := by decide +kernel
theorem dX8_restore_11 : decode cX8_restore 11 = .ok (.getfield 10, 3) := by decide +kernel
theorem dX8_restore_14 : decode cX8_restore 14 = .ok (.aload_n 0, 1) := by decide +kernel
theorem dX8_restore_15 : decode cX8_restore 15 = .ok (.getfield 23, 3) := by decide +kernel
theorem dX8_restore_18 : decode cX8_restore 18 = .ok (.invokevirtual 108, 3) := by decide +kernel
theorem dX8_restore_21 : decode cX8_restore 21 = .ok (.aload_n 0, 1) := by decide +kernel
theorem dX8_restore_22 : decode cX8_restore 22 = .ok (.getfield 19, 3) := by decide +kernel
theorem dX8_restore_25 : decode cX8_restore 25 = .ok (.aload_n 0, 1) := by decide +kernel
theorem dX8_restore_26 : decode cX8_restore 26 = .ok (.getfield 26, 3) := by decide +kernel
theorem dX8_restore_29 : decode cX8_restore 29 = .ok (.invokevirtual 248, 3) := by decide +kernel
theorem dX8_restore_32 : decode cX8_restore 32 = .ok (.iconst 1, 1) := by decide +kernel
theorem dX8_restore_33 : decode cX8_restore 33 = .ok (.ireturn, 1) := by decide +kernel
theorem dX8_seen_0 : decode cX8_seen 0 = .ok (.iload 4, 2) := by decide +kernel
theorem dX8_seen_2 : decode cX8_seen 2 = .ok (.iconst 1, 1) := by decide +kernel
theorem dX8_seen_3 : decode cX8_seen 3 = .ok (.if_icmp .lt 10, 3) := by decide +kernel
theorem dX8_seen_6 : decode cX8_seen 6 = .ok (.iload 4, 2) := by decide +kernel
theorem dX8_seen_8 : decode cX8_seen 8 = .ok (.bipush 6, 2) := by decide +kernel
theorem dX8_seen_10 : decode cX8_seen 10 = .ok (.if_icmp .le 5, 3) := by decide +kernel
theorem dX8_seen_13 : decode cX8_seen 13 = .ok (.iconst (-1), 1) := by decide +kernel
theorem dX8_seen_14 : decode cX8_seen 14 = .ok (.ireturn, 1) := by decide +kernel
theorem dX8_seen_15 : decode cX8_seen 15 = .ok (.aload_n 0, 1) := by decide +kernel
theorem dX8_seen_16 : decode cX8_seen 16 = .ok (.iload_n 1, 1) := by decide +kernel
theorem dX8_seen_17 : decode cX8_seen 17 = .ok (.iload_n 2, 1) := by decide +kernel
theorem dX8_seen_18 : decode cX8_seen 18 = .ok (.iload_n 3, 1) := by decide +kernel
theorem dX8_seen_19 : decode cX8_seen 19 = .ok (.iconst 2, 1) := by decide +kernel
theorem dX8_seen_20 : decode cX8_seen 20 = .ok (.iload 4, 2) := by decide +kernel
theorem dX8_seen_22 : decode cX8_seen 22 = .ok (.imul, 1) := by decide +kernel
theorem dX8_seen_23 : decode cX8_seen 23 = .ok (.invokevirtual 251, 3) := by decide +kernel
theorem dX8_seen_26 : decode cX8_seen 26 = .ok (.istore 5, 2) := by decide +kernel
theorem dX8_seen_28 : decode cX8_seen 28 = .ok (.iload 5, 2) := by decide +kernel
theorem dX8_seen_30 : decode cX8_seen 30 = .ok (.ifCond .ge 6, 3) := by decide +kernel
theorem dX8_seen_33 : decode cX8_seen 33 = .ok (.iload 5, 2) := by decide +kernel
theorem dX8_seen_35 : decode cX8_seen 35 = .ok (.ireturn, 1) := by decide +kernel
theorem dX8_seen_36 : decode cX8_seen 36 = .ok (.aload_n 0, 1) := by decide +kernel
theorem dX8_seen_37 : decode cX8_seen 37 = .ok (.getfield 53, 3) := by decide +kernel
theorem dX8_seen_40 : decode cX8_seen 40 = .ok (.aload_n 0, 1) := by decide +kernel
theorem dX8_seen_41 : decode cX8_seen 41 = .ok (.getfield 73, 3) := by decide +kernel
theorem dX8_seen_44 : decode cX8_seen 44 = .ok (.iload_n 1, 1) := by decide +kernel
theorem dX8_seen_45 : decode cX8_seen 45 = .ok (.aaload, 1) := by decide +kernel
theorem dX8_seen_46 : decode cX8_seen 46 = .ok (.iload_n 3, 1) := by decide +kernel
theorem dX8_seen_47 : decode cX8_seen 47 = .ok (.iload 4, 2) := by decide +kernel
theorem dX8_seen_49 : decode cX8_seen 49 = .ok (.invokevirtual 254, 3) := by decide +kernel
theorem dX8_seen_52 : decode cX8_seen 52 = .ok (.ifCond .ne 6, 3) := by decide +kernel
theorem dX8_seen_55 : decode cX8_seen 55 = .ok (.bipush (-2), 2) := by decide +kernel
theorem dX8_seen_57 : decode cX8_seen 57 = .ok (.ireturn, 1) := by decide +kernel
theorem dX8_seen_58 : decode cX8_seen 58 = .ok (.aload_n 0, 1) := by decide +kernel
theorem dX8_seen_59 : decode cX8_seen 59 = .ok (.getfield 53, 3) := by decide +kernel
theorem dX8_seen_62 : decode cX8_seen 62 = .ok (.aload_n 0, 1) := by decide +kernel
theorem dX8_seen_63 : decode cX8_seen 63 = .ok (.getfield 10, 3) := by decide +kernel
theorem dX8_seen_66 : decode cX8_seen 66 = .ok (.invokevirtual 196, 3) := by decide +kernel
theorem dX8_seen_69 : decode cX8_seen 69 = .ok (.aload_n 0, 1) := by decide +kernel
theorem dX8_seen_70 : decode cX8_seen 70 = .ok (.getfield 53, 3) := by decide +kernel
theorem dX8_seen_73 : decode cX8_seen 73 = .ok (.getfield 199, 3) := by decide +kernel
theorem dX8_seen_76 : decode cX8_seen 76 = .ok (.ireturn, 1) := by decide +kernel
theorem dX8_film_0 : decode cX8_film 0 = .ok (.iconst 2, 1) := by decide +kernel
theorem dX8_film_1 : decode cX8_film 1 = .ok (.aload_n 0, 1) := by decide +kernel
theorem dX8_film_2 : decode cX8_film 2 = .ok (.getfield 10, 3) := by decide +kernel
theorem dX8_film_5 : decode cX8_film 5 = .ok (.getfield 137, 3) := by decide +kernel
theorem dX8_film_8 : decode cX8_film 8 = .ok (.imul, 1) := by decide +kernel
theorem dX8_film_9 : decode cX8_film 9 = .ok (.istore 4, 2) := by decide +kernel
theorem dX8_film_11 : decode cX8_film 11 = .ok (.aload_n 0, 1) := by decide +kernel
theorem dX8_film_12 : decode cX8_film 12 = .ok (.iload_n 1, 1) := by decide +kernel
theorem dX8_film_13 : decode cX8_film 13 = .ok (.iload_n 2, 1) := by decide +kernel
theorem dX8_film_14 : decode cX8_film 14 = .ok (.iload_n 3, 1) := by decide +kernel
theorem dX8_film_15 : decode cX8_film 15 = .ok (.iload 4, 2) := by decide +kernel
theorem dX8_film_17 : decode cX8_film 17 = .ok (.invokevirtual 251, 3) := by decide +kernel
theorem dX8_film_20 : decode cX8_film 20 = .ok (.istore 5, 2) := by decide +kernel
theorem dX8_film_22 : decode cX8_film 22 = .ok (.iload 5, 2) := by decide +kernel
theorem dX8_film_24 : decode cX8_film 24 = .ok (.ifCond .ge 6, 3) := by decide +kernel
theorem dX8_film_27 : decode cX8_film 27 = .ok (.iload 5, 2) := by decide +kernel
theorem dX8_film_29 : decode cX8_film 29 = .ok (.ireturn, 1) := by decide +kernel
theorem dX8_film_30 : decode cX8_film 30 = .ok (.aload_n 0, 1) := by decide +kernel
theorem dX8_film_31 : decode cX8_film 31 = .ok (.getfield 39, 3) := by decide +kernel
theorem dX8_film_34 : decode cX8_film 34 = .ok (.aload_n 0, 1) := by decide +kernel
theorem dX8_film_35 : decode cX8_film 35 = .ok (.getfield 10, 3) := by decide +kernel
theorem dX8_film_38 : decode cX8_film 38 = .ok (.invokevirtual 165, 3) := by decide +kernel
theorem dX8_film_41 : decode cX8_film 41 = .ok (.iconst 0, 1) := by decide +kernel
theorem dX8_film_42 : decode cX8_film 42 = .ok (.istore 6, 2) := by decide +kernel
theorem dX8_film_44 : decode cX8_film 44 = .ok (.iload 6, 2) := by decide +kernel
theorem dX8_film_46 : decode cX8_film 46 = .ok (.aload_n 0, 1) := by decide +kernel
theorem dX8_film_47 : decode cX8_film 47 = .ok (.getfield 10, 3) := by decide +kernel
theorem dX8_film_50 : decode cX8_film 50 = .ok (.getfield 137, 3) := by decide +kernel
theorem dX8_film_53 : decode cX8_film 53 = .ok (.if_icmp .ge 67, 3) := by decide +kernel
theorem dX8_film_56 : decode cX8_film 56 = .ok (.aload_n 0, 1) := by decide +kernel
theorem dX8_film_57 : decode cX8_film 57 = .ok (.getfield 73, 3) := by decide +kernel
theorem dX8_film_60 : decode cX8_film 60 = .ok (.iload_n 1, 1) := by decide +kernel
theorem dX8_film_61 : decode cX8_film 61 = .ok (.aaload, 1) := by decide +kernel
theorem dX8_film_62 : decode cX8_film 62 = .ok (.getfield 258, 3) := by decide +kernel
theorem dX8_film_65 : decode cX8_film 65 = .ok (.iload_n 3, 1) := by decide +kernel
theorem dX8_film_66 : decode cX8_film 66 = .ok (.iconst 2, 1) := by decide +kernel
theorem dX8_film_67 : decode cX8_film 67 = .ok (.iload 6, 2) := by decide +kernel
theorem dX8_film_69 : decode cX8_film 69 = .ok (.imul, 1) := by decide +kernel
theorem dX8_film_70 : decode cX8_film 70 = .ok (.iadd, 1) := by decide +kernel
theorem dX8_film_71 : decode cX8_film 71 = .ok (.aload_n 0, 1) := by decide +kernel
theorem dX8_film_72 : decode cX8_film 72 = .ok (.getfield 39, 3) := by decide +kernel
theorem dX8_film_75 : decode cX8_film 75 = .ok (.iload 6, 2) := by decide +kernel
theorem dX8_film_77 : decode cX8_film 77 = .ok (.iconst 1, 1) := by decide +kernel
theorem dX8_film_78 : decode cX8_film 78 = .ok (.iadd, 1) := by decide +kernel
theorem dX8_film_79 : decode cX8_film 79 = .ok (.invokevirtual 180, 3) := by decide +kernel
theorem dX8_film_82 : decode cX8_film 82 = .ok (.i2l, 1) := by decide +kernel
theorem dX8_film_83 : decode cX8_film 83 = .ok (.lastore, 1) := by decide +kernel
theorem dX8_film_84 : decode cX8_film 84 = .ok (.aload_n 0, 1) := by decide +kernel
theorem dX8_film_85 : decode cX8_film 85 = .ok (.getfield 73, 3) := by decide +kernel
theorem dX8_film_88 : decode cX8_film 88 = .ok (.iload_n 1, 1) := by decide +kernel
theorem dX8_film_89 : decode cX8_film 89 = .ok (.aaload, 1) := by decide +kernel
theorem dX8_film_90 : decode cX8_film 90 = .ok (.getfield 258, 3) := by decide +kernel
theorem dX8_film_93 : decode cX8_film 93 = .ok (.iload_n 3, 1) := by decide +kernel
theorem dX8_film_94 : decode cX8_film 94 = .ok (.iconst 2, 1) := by decide +kernel
theorem dX8_film_95 : decode cX8_film 95 = .ok (.iload 6, 2) := by decide +kernel
theorem dX8_film_97 : decode cX8_film 97 = .ok (.imul, 1) := by decide +kernel
theorem dX8_film_98 : decode cX8_film 98 = .ok (.iadd, 1) := by decide +kernel
theorem dX8_film_99 : decode cX8_film 99 = .ok (.iconst 1, 1) := by decide +kernel
theorem dX8_film_100 : decode cX8_film 100 = .ok (.iadd, 1) := by decide +kernel
theorem dX8_film_101 : decode cX8_film 101 = .ok (.aload_n 0, 1) := by decide +kernel
theorem dX8_film_102 : decode cX8_film 102 = .ok (.getfield 39, 3) := by decide +kernel
theorem dX8_film_105 : decode cX8_film 105 = .ok (.iload 6, 2) := by decide +kernel
theorem dX8_film_107 : decode cX8_film 107 = .ok (.iconst 1, 1) := by decide +kernel
theorem dX8_film_108 : decode cX8_film 108 = .ok (.iadd, 1) := by decide +kernel
theorem dX8_film_109 : decode cX8_film 109 = .ok (.invokevirtual 183, 3) := by decide +kernel
theorem dX8_film_112 : decode cX8_film 112 = .ok (.i2l, 1) := by decide +kernel
theorem dX8_film_113 : decode cX8_film 113 = .ok (.lastore, 1) := by decide +kernel
theorem dX8_film_114 : decode cX8_film 114 = .ok (.iinc 6 1, 3) := by decide +kernel
theorem dX8_film_117 : decode cX8_film 117 = .ok (.goto (-73), 3) := by decide +kernel
theorem dX8_film_120 : decode cX8_film 120 = .ok (.iload 4, 2) := by decide +kernel
theorem dX8_film_122 : decode cX8_film 122 = .ok (.ireturn, 1) := by decide +kernel
theorem dX8_sheet_0 : decode cX8_sheet 0 = .ok (.iload_n 1, 1) := by decide +kernel
theorem dX8_sheet_1 : decode cX8_sheet 1 = .ok (.invokestatic 262, 3) := by decide +kernel
theorem dX8_sheet_4 : decode cX8_sheet 4 = .ok (.ifCond .eq 16, 3) := by decide +kernel
theorem dX8_sheet_7 : decode cX8_sheet 7 = .ok (.iload_n 2, 1) := by decide +kernel
theorem dX8_sheet_8 : decode cX8_sheet 8 = .ok (.invokestatic 265, 3) := by decide +kernel
theorem dX8_sheet_11 : decode cX8_sheet 11 = .ok (.ifCond .eq 9, 3) := by decide +kernel
theorem dX8_sheet_14 : decode cX8_sheet 14 = .ok (.iload_n 3, 1) := by decide +kernel
theorem dX8_sheet_15 : decode cX8_sheet 15 = .ok (.bipush 24, 2) := by decide +kernel
theorem dX8_sheet_17 : decode cX8_sheet 17 = .ok (.if_icmp .le 5, 3) := by decide +kernel
theorem dX8_sheet_20 : decode cX8_sheet 20 = .ok (.iconst (-1), 1) := by decide +kernel
theorem dX8_sheet_21 : decode cX8_sheet 21 = .ok (.ireturn, 1) := by decide +kernel
theorem dX8_sheet_22 : decode cX8_sheet 22 = .ok (.iload_n 3, 1) := by decide +kernel
theorem dX8_sheet_23 : decode cX8_sheet 23 = .ok (.ifCond .ge 6, 3) := by decide +kernel
theorem dX8_sheet_26 : decode cX8_sheet 26 = .ok (.bipush (-14), 2) := by decide +kernel
theorem dX8_sheet_28 : decode cX8_sheet 28 = .ok (.ireturn, 1) := by decide +kernel
theorem dX8_sheet_29 : decode cX8_sheet 29 = .ok (.aload_n 0, 1) := by decide +kernel
theorem dX8_sheet_30 : decode cX8_sheet 30 = .ok (.getfield 73, 3) := by decide +kernel
theorem dX8_sheet_33 : decode cX8_sheet 33 = .ok (.iload_n 1, 1) := by decide +kernel
theorem dX8_sheet_34 : decode cX8_sheet 34 = .ok (.aaload, 1) := by decide +kernel
theorem dX8_sheet_35 : decode cX8_sheet 35 = .ok (.iload_n 2, 1) := by decide +kernel
theorem dX8_sheet_36 : decode cX8_sheet 36 = .ok (.iload_n 3, 1) := by decide +kernel
theorem dX8_sheet_37 : decode cX8_sheet 37 = .ok (.invokevirtual 268, 3) := by decide +kernel
theorem dX8_sheet_40 : decode cX8_sheet 40 = .ok (.iload_n 3, 1) := by decide +kernel
theorem dX8_sheet_41 : decode cX8_sheet 41 = .ok (.ireturn, 1) := by decide +kernel
theorem dX8_drop_0 : decode cX8_drop 0 = .ok (.iload_n 1, 1) := by decide +kernel
theorem dX8_drop_1 : decode cX8_drop 1 = .ok (.invokestatic 262, 3) := by decide +kernel
theorem dX8_drop_4 : decode cX8_drop 4 = .ok (.ifCond .ne 5, 3) := by decide +kernel
theorem dX8_drop_7 : decode cX8_drop 7 = .ok (.iconst (-1), 1) := by decide +kernel
theorem dX8_drop_8 : decode cX8_drop 8 = .ok (.ireturn, 1) := by decide +kernel
theorem dX8_drop_9 : decode cX8_drop 9 = .ok (.aload_n 0, 1) := by decide +kernel
theorem dX8_drop_10 : decode cX8_drop 10 = .ok (.getfield 73, 3) := by decide +kernel
theorem dX8_drop_13 : decode cX8_drop 13 = .ok (.iload_n 1, 1) := by decide +kernel
theorem dX8_drop_14 : decode cX8_drop 14 = .ok (.aaload, 1) := by decide +kernel
theorem dX8_drop_15 : decode cX8_drop 15 = .ok (.getfield 272, 3) := by decide +kernel
theorem dX8_drop_18 : decode cX8_drop 18 = .ok (.ifCond .ne 6, 3) := by decide +kernel
theorem dX8_drop_21 : decode cX8_drop 21 = .ok (.bipush (-11), 2) := by decide +kernel
theorem dX8_drop_23 : decode cX8_drop 23 = .ok (.ireturn, 1) := by decide +kernel
theorem dX8_drop_24 : decode cX8_drop 24 = .ok (.aload_n 0, 1) := by decide +kernel
theorem dX8_drop_25 : decode cX8_drop 25 = .ok (.getfield 73, 3) := by decide +kernel
theorem dX8_drop_28 : decode cX8_drop 28 = .ok (.iload_n 1, 1) := by decide +kernel
theorem dX8_drop_29 : decode cX8_drop 29 = .ok (.aaload, 1) := by decide +kernel
theorem dX8_drop_30 : decode cX8_drop 30 = .ok (.iconst 0, 1) := by decide +kernel
theorem dX8_drop_31 : decode cX8_drop 31 = .ok (.putfield 272, 3) := by decide +kernel
theorem dX8_drop_34 : decode cX8_drop 34 = .ok (.aload_n 0, 1) := by decide +kernel
theorem dX8_drop_35 : decode cX8_drop 35 = .ok (.getfield 73, 3) := by decide +kernel
theorem dX8_drop_38 : decode cX8_drop 38 = .ok (.iload_n 1, 1) := by decide +kernel
theorem dX8_drop_39 : decode cX8_drop 39 = .ok (.aaload, 1) := by decide +kernel
theorem dX8_drop_40 : decode cX8_drop 40 = .ok (.getfield 275, 3) := by decide +kernel
theorem dX8_drop_43 : decode cX8_drop 43 = .ok (.ireturn, 1) := by decide +kernel
theorem dX8_item_0 : decode cX8_item 0 = .ok (.aload_n 0, 1) := by decide +kernel
theorem dX8_item_1 : decode cX8_item 1 = .ok (.iload_n 1, 1) := by decide +kernel
theorem dX8_item_2 : decode cX8_item 2 = .ok (.iload_n 2, 1) := by decide +kernel
theorem dX8_item_3 : decode cX8_item 3 = .ok (.iload_n 3, 1) := by decide +kernel
theorem dX8_item_4 : decode cX8_item 4 = .ok (.iconst 1, 1) := by decide +kernel
theorem dX8_item_5 : decode cX8_item 5 = .ok (.invokevirtual 251, 3) := by decide +kernel
theorem dX8_item_8 : decode cX8_item 8 = .ok (.istore 6, 2) := by decide +kernel
theorem dX8_item_10 : decode cX8_item 10 = .ok (.iload 6, 2) := by decide +kernel
theorem dX8_item_12 : decode cX8_item 12 = .ok (.ifCond .ge 6, 3) := by decide +kernel
theorem dX8_item_15 : decode cX8_item 15 = .ok (.iload 6, 2) := by decide +kernel
theorem dX8_item_17 : decode cX8_item 17 = .ok (.ireturn, 1) := by decide +kernel
theorem dX8_item_18 : decode cX8_item 18 = .ok (.aload_n 0, 1) := by decide +kernel
theorem dX8_item_19 : decode cX8_item 19 = .ok (.getfield 73, 3) := by decide +kernel
theorem dX8_item_22 : decode cX8_item 22 = .ok (.iload_n 1, 1) := by decide +kernel
theorem dX8_item_23 : decode cX8_item 23 = .ok (.aaload, 1) := by decide +kernel
theorem dX8_item_24 : decode cX8_item 24 = .ok (.getfield 258, 3) := by decide +kernel
theorem dX8_item_27 : decode cX8_item 27 = .ok (.iload_n 3, 1) := by decide +kernel
theorem dX8_item_28 : decode cX8_item 28 = .ok (.iload_n 2, 1) := by decide +kernel
theorem dX8_item_29 : decode cX8_item 29 = .ok (.lload 4, 2) := by decide +kernel
theorem dX8_item_31 : decode cX8_item 31 = .ok (.invokestatic 276, 3) := by decide +kernel
theorem dX8_item_34 : decode cX8_item 34 = .ok (.lastore, 1) := by decide +kernel
theorem dX8_item_35 : decode cX8_item 35 = .ok (.iconst 1, 1) := by decide +kernel
theorem dX8_item_36 : decode cX8_item 36 = .ok (.ireturn, 1) := by decide +kernel
theorem dX8_copy_0 : decode cX8_copy 0 = .ok (.iload_n 1, 1) := by decide +kernel
theorem dX8_copy_1 : decode cX8_copy 1 = .ok (.invokestatic 262, 3) := by decide +kernel
theorem dX8_copy_4 : decode cX8_copy 4 = .ok (.ifCond .eq 10, 3) := by decide +kernel
theorem dX8_copy_7 : decode cX8_copy 7 = .ok (.iload_n 3, 1) := by decide +kernel
theorem dX8_copy_8 : decode cX8_copy 8 = .ok (.invokestatic 262, 3) := by decide +kernel
theorem dX8_copy_11 : decode cX8_copy 11 = .ok (.ifCond .ne 5, 3) := by decide +kernel
theorem dX8_copy_14 : decode cX8_copy 14 = .ok (.iconst (-1), 1) := by decide +kernel
theorem dX8_copy_15 : decode cX8_copy 15 = .ok (.ireturn, 1) := by decide +kernel
theorem dX8_copy_16 : decode cX8_copy 16 = .ok (.aload_n 0, 1) := by decide +kernel
theorem dX8_copy_17 : decode cX8_copy 17 = .ok (.getfield 73, 3) := by decide +kernel
theorem dX8_copy_20 : decode cX8_copy 20 = .ok (.iload_n 1, 1) := by decide +kernel
theorem dX8_copy_21 : decode cX8_copy 21 = .ok (.aaload, 1) := by decide +kernel
theorem dX8_copy_22 : decode cX8_copy 22 = .ok (.astore 6, 2) := by decide +kernel
theorem dX8_copy_24 : decode cX8_copy 24 = .ok (.aload_n 0, 1) := by decide +kernel
theorem dX8_copy_25 : decode cX8_copy 25 = .ok (.getfield 73, 3) := by decide +kernel
theorem dX8_copy_28 : decode cX8_copy 28 = .ok (.iload_n 3, 1) := by decide +kernel
theorem dX8_copy_29 : decode cX8_copy 29 = .ok (.aaload, 1) := by decide +kernel
theorem dX8_copy_30 : decode cX8_copy 30 = .ok (.astore 7, 2) := by decide +kernel
theorem dX8_copy_32 : decode cX8_copy 32 = .ok (.aload 6, 2) := by decide +kernel
theorem dX8_copy_34 : decode cX8_copy 34 = .ok (.getfield 272, 3) := by decide +kernel
theorem dX8_copy_37 : decode cX8_copy 37 = .ok (.ifCond .eq 11, 3) := by decide +kernel
theorem dX8_copy_40 : decode cX8_copy 40 = .ok (.aload 7, 2) := by decide +kernel
theorem dX8_copy_42 : decode cX8_copy 42 = .ok (.getfield 272, 3) := by decide +kernel
theorem dX8_copy_45 : decode cX8_copy 45 = .ok (.ifCond .ne 6, 3) := by decide +kernel
theorem dX8_copy_48 : decode cX8_copy 48 = .ok (.bipush (-11), 2) := by decide +kernel
theorem dX8_copy_50 : decode cX8_copy 50 = .ok (.ireturn, 1) := by decide +kernel
theorem dX8_copy_51 : decode cX8_copy 51 = .ok (.aload 6, 2) := by decide +kernel
theorem dX8_copy_53 : decode cX8_copy 53 = .ok (.getfield 280, 3) := by decide +kernel
theorem dX8_copy_56 : decode cX8_copy 56 = .ok (.aload 7, 2) := by decide +kernel
theorem dX8_copy_58 : decode cX8_copy 58 = .ok (.getfield 280, 3) := by decide +kernel
theorem dX8_copy_61 : decode cX8_copy 61 = .ok (.if_icmp .eq 6, 3) := by decide +kernel
theorem dX8_copy_64 : decode cX8_copy 64 = .ok (.bipush (-12), 2) := by decide +kernel
theorem dX8_copy_66 : decode cX8_copy 66 = .ok (.ireturn, 1) := by decide +kernel
theorem dX8_copy_67 : decode cX8_copy 67 = .ok (.aload 6, 2) := by decide +kernel
theorem dX8_copy_69 : decode cX8_copy 69 = .ok (.iload_n 2, 1) := by decide +kernel
theorem dX8_copy_70 : decode cX8_copy 70 = .ok (.iload 5, 2) := by decide +kernel
theorem dX8_copy_72 : decode cX8_copy 72 = .ok (.invokevirtual 283, 3) := by decide +kernel
theorem dX8_copy_75 : decode cX8_copy 75 = .ok (.ifCond .eq 15, 3) := by decide +kernel
theorem dX8_copy_78 : decode cX8_copy 78 = .ok (.aload 7, 2) := by decide +kernel
theorem dX8_copy_80 : decode cX8_copy 80 = .ok (.iload 4, 2) := by decide +kernel
theorem dX8_copy_82 : decode cX8_copy 82 = .ok (.iload 5, 2) := by decide +kernel
theorem dX8_copy_84 : decode cX8_copy 84 = .ok (.invokevirtual 283, 3) := by decide +kernel
theorem dX8_copy_87 : decode cX8_copy 87 = .ok (.ifCond .ne 6, 3) := by decide +kernel
theorem dX8_copy_90 : decode cX8_copy 90 = .ok (.bipush (-13), 2) := by decide +kernel
theorem dX8_copy_92 : decode cX8_copy 92 = .ok (.ireturn, 1) := by decide +kernel
theorem dX8_copy_93 : decode cX8_copy 93 = .ok (.aload 6, 2) := by decide +kernel
theorem dX8_copy_95 : decode cX8_copy 95 = .ok (.getfield 258, 3) := by decide +kernel
theorem dX8_copy_98 : decode cX8_copy 98 = .ok (.iload_n 2, 1) := by decide +kernel
theorem dX8_copy_99 : decode cX8_copy 99 = .ok (.aload 7, 2) := by decide +kernel
theorem dX8_copy_101 : decode cX8_copy 101 = .ok (.getfield 258, 3) := by decide +kernel
theorem dX8_copy_104 : decode cX8_copy 104 = .ok (.iload 4, 2) := by decide +kernel
theorem dX8_copy_106 : decode cX8_copy 106 = .ok (.iload 5, 2) := by decide +kernel
theorem dX8_copy_108 : decode cX8_copy 108 = .ok (.invokestatic 287, 3) := by decide +kernel
theorem dX8_copy_111 : decode cX8_copy 111 = .ok (.iload 5, 2) := by decide +kernel
theorem dX8_copy_113 : decode cX8_copy 113 = .ok (.ireturn, 1) := by decide +kernel
theorem dX8_knownIfDone_0 : decode cX8_knownIfDone 0 = .ok (.iload_n 1, 1) := by decide +kernel
theorem dX8_knownIfDone_1 : decode cX8_knownIfDone 1 = .ok (.ifCond .lt 14, 3) := by decide +kernel
theorem dX8_knownIfDone_4 : decode cX8_knownIfDone 4 = .ok (.aload_n 0, 1) := by decide +kernel
theorem dX8_knownIfDone_5 : decode cX8_knownIfDone 5 = .ok (.getfield 19, 3) := by decide +kernel
theorem dX8_knownIfDone_8 : decode cX8_knownIfDone 8 = .ok (.aload_n 0, 1) := by decide +kernel
theorem dX8_knownIfDone_9 : decode cX8_knownIfDone 9 = .ok (.getfield 33, 3) := by decide +kernel
theorem dX8_knownIfDone_12 : decode cX8_knownIfDone 12 = .ok (.invokevirtual 236, 3) := by decide +kernel
theorem dX8_knownIfDone_15 : decode cX8_knownIfDone 15 = .ok (.iload_n 1, 1) := by decide +kernel
theorem dX8_knownIfDone_16 : decode cX8_knownIfDone 16 = .ok (.ireturn, 1) := by decide +kernel
theorem dX8_slipsToLetters_0 : decode cX8_slipsToLetters 0 = .ok (.iconst 0, 1) := by decide +kernel
theorem dX8_slipsToLetters_1 : decode cX8_slipsToLetters 1 = .ok (.istore_n 1, 1) := by decide +kernel
theorem dX8_slipsToLetters_2 : decode cX8_slipsToLetters 2 = .ok (.iconst 0, 1) := by decide +kernel
theorem dX8_slipsToLetters_3 : decode cX8_slipsToLetters 3 = .ok (.istore_n 2, 1) := by decide +kernel
theorem dX8_slipsToLetters_4 : decode cX8_slipsToLetters 4 = .ok (.iload_n 2, 1) := by decide +kernel
theorem dX8_slipsToLetters_5 : decode cX8_slipsToLetters 5 = .ok (.aload_n 0, 1) := by decide +kernel
theorem dX8_slipsToLetters_6 : decode cX8_slipsToLetters 6 = .ok (.getfield 10, 3) := by decide +kernel
theorem dX8_slipsToLetters_9 : decode cX8_slipsToLetters 9 = .ok (.getfield 137, 3) := by decide +kernel
theorem dX8_slipsToLetters_12 : decode cX8_slipsToLetters 12 = .ok (.if_icmp .ge 82, 3) := by decide +kernel
theorem dX8_slipsToLetters_15 : decode cX8_slipsToLetters 15 = .ok (.getstatic 82, 3) := by decide +kernel
theorem dX8_slipsToLetters_18 : decode cX8_slipsToLetters 18 = .ok (.aload_n 0, 1) := by decide +kernel
theorem dX8_slipsToLetters_19 : decode cX8_slipsToLetters 19 = .ok (.getfield 10, 3) := by decide +kernel
theorem dX8_slipsToLetters_22 : decode cX8_slipsToLetters 22 = .ok (.getfield 141, 3) := by decide +kernel
theorem dX8_slipsToLetters_25 : decode cX8_slipsToLetters 25 = .ok (.iload_n 2, 1) := by decide +kernel
theorem dX8_slipsToLetters_26 : decode cX8_slipsToLetters 26 = .ok (.iaload, 1) := by decide +kernel
theorem dX8_slipsToLetters_27 : decode cX8_slipsToLetters 27 = .ok (.iaload, 1) := by decide +kernel
theorem dX8_slipsToLetters_28 : decode cX8_slipsToLetters 28 = .ok (.istore_n 3, 1) := by decide +kernel
theorem dX8_slipsToLetters_29 : decode cX8_slipsToLetters 29 = .ok (.getstatic 86, 3) := by decide +kernel
theorem dX8_slipsToLetters_32 : decode cX8_slipsToLetters 32 = .ok (.aload_n 0, 1) := by decide +kernel
theorem dX8_slipsToLetters_33 : decode cX8_slipsToLetters 33 = .ok (.getfield 10, 3) := by decide +kernel
theorem dX8_slipsToLetters_36 : decode cX8_slipsToLetters 36 = .ok (.getfield 141, 3) := by decide +kernel
theorem dX8_slipsToLetters_39 : decode cX8_slipsToLetters 39 = .ok (.iload_n 2, 1) := by decide +kernel
theorem dX8_slipsToLetters_40 : decode cX8_slipsToLetters 40 = .ok (.iaload, 1) := by decide +kernel
theorem dX8_slipsToLetters_41 : decode cX8_slipsToLetters 41 = .ok (.iaload, 1) := by decide +kernel
theorem dX8_slipsToLetters_42 : decode cX8_slipsToLetters 42 = .ok (.istore 4, 2) := by decide +kernel
theorem dX8_slipsToLetters_44 : decode cX8_slipsToLetters 44 = .ok (.iload_n 1, 1) := by decide +kernel
theorem dX8_slipsToLetters_45 : decode cX8_slipsToLetters 45 = .ok (.iload_n 3, 1) := by decide +kernel
theorem dX8_slipsToLetters_46 : decode cX8_slipsToLetters 46 = .ok (.invokestatic 293, 3) := by decide +kernel
theorem dX8_slipsToLetters_49 : decode cX8_slipsToLetters 49 = .ok (.iload 4, 2) := by decide +kernel
theorem dX8_slipsToLetters_51 : decode cX8_slipsToLetters 51 = .ok (.invokestatic 296, 3) := by decide +kernel
theorem dX8_slipsToLetters_54 : decode cX8_slipsToLetters 54 = .ok (.iload_n 3, 1) := by decide +kernel
theorem dX8_slipsToLetters_55 : decode cX8_slipsToLetters 55 = .ok (.invokestatic 299, 3) := by decide +kernel
theorem dX8_slipsToLetters_58 : decode cX8_slipsToLetters 58 = .ok (.iload 4, 2) := by decide +kernel
theorem dX8_slipsToLetters_60 : decode cX8_slipsToLetters 60 = .ok (.invokestatic 296, 3) := by decide +kernel
theorem dX8_slipsToLetters_63 : decode cX8_slipsToLetters 63 = .ok (.iadd, 1) := by decide +kernel
theorem dX8_slipsToLetters_64 : decode cX8_slipsToLetters 64 = .ok (.iadd, 1) := by decide +kernel
theorem dX8_slipsToLetters_65 : decode cX8_slipsToLetters 65 = .ok (.istore_n 1, 1) := by decide +kernel
theorem dX8_slipsToLetters_66 : decode cX8_slipsToLetters 66 = .ok (.iload_n 1, 1) := by decide +kernel
theorem dX8_slipsToLetters_67 : decode cX8_slipsToLetters 67 = .ok (.iload_n 3, 1) := by decide +kernel
theorem dX8_slipsToLetters_68 : decode cX8_slipsToLetters 68 = .ok (.iload 4, 2) := by decide +kernel
theorem dX8_slipsToLetters_70 : decode cX8_slipsToLetters 70 = .ok (.invokestatic 293, 3) := by decide +kernel
theorem dX8_slipsToLetters_73 : decode cX8_slipsToLetters 73 = .ok (.invokestatic 296, 3) := by decide +kernel
theorem dX8_slipsToLetters_76 : decode cX8_slipsToLetters 76 = .ok (.iload_n 3, 1) := by decide +kernel
theorem dX8_slipsToLetters_77 : decode cX8_slipsToLetters 77 = .ok (.iload 4, 2) := by decide +kernel
theorem dX8_slipsToLetters_79 : decode cX8_slipsToLetters 79 = .ok (.invokestatic 299, 3) := by decide +kernel
theorem dX8_slipsToLetters_82 : decode cX8_slipsToLetters 82 = .ok (.invokestatic 296, 3) := by decide +kernel
theorem dX8_slipsToLetters_85 : decode cX8_slipsToLetters 85 = .ok (.iadd, 1) := by decide +kernel
theorem dX8_slipsToLetters_86 : decode cX8_slipsToLetters 86 = .ok (.iadd, 1) := by decide +kernel
theorem dX8_slipsToLetters_87 : decode cX8_slipsToLetters 87 = .ok (.istore_n 1, 1) := by decide +kernel
theorem dX8_slipsToLetters_88 : decode cX8_slipsToLetters 88 = .ok (.iinc 2 1, 3) := by decide +kernel
theorem dX8_slipsToLetters_91 : decode cX8_slipsToLetters 91 = .ok (.goto (-87), 3) := by decide +kernel
theorem dX8_slipsToLetters_94 : decode cX8_slipsToLetters 94 = .ok (.iload_n 1, 1) := by decide +kernel
theorem dX8_slipsToLetters_95 : decode cX8_slipsToLetters 95 = .ok (.ireturn, 1) := by decide +kernel
theorem dX8_slipsStillNearest_0 : decode cX8_slipsStillNearest 0 = .ok (.aload_n 0, 1) := by decide +kernel
theorem dX8_slipsStillNearest_1 : decode cX8_slipsStillNearest 1 = .ok (.getfield 53, 3) := by decide +kernel
theorem dX8_slipsStillNearest_4 : decode cX8_slipsStillNearest 4 = .ok (.aload_n 0, 1) := by decide +kernel
theorem dX8_slipsStillNearest_5 : decode cX8_slipsStillNearest 5 = .ok (.getfield 10, 3) := by decide +kernel
theorem dX8_slipsStillNearest_8 : decode cX8_slipsStillNearest 8 = .ok (.invokevirtual 193, 3) := by decide +kernel
theorem dX8_slipsStillNearest_11 : decode cX8_slipsStillNearest 11 = .ok (.aload_n 0, 1) := by decide +kernel
theorem dX8_slipsStillNearest_12 : decode cX8_slipsStillNearest 12 = .ok (.getfield 53, 3) := by decide +kernel
theorem dX8_slipsStillNearest_15 : decode cX8_slipsStillNearest 15 = .ok (.aload_n 0, 1) := by decide +kernel
theorem dX8_slipsStillNearest_16 : decode cX8_slipsStillNearest 16 = .ok (.getfield 10, 3) := by decide +kernel
theorem dX8_slipsStillNearest_19 : decode cX8_slipsStillNearest 19 = .ok (.invokevirtual 196, 3) := by decide +kernel
theorem dX8_slipsStillNearest_22 : decode cX8_slipsStillNearest 22 = .ok (.aload_n 0, 1) := by decide +kernel
theorem dX8_slipsStillNearest_23 : decode cX8_slipsStillNearest 23 = .ok (.getfield 53, 3) := by decide +kernel
theorem dX8_slipsStillNearest_26 : decode cX8_slipsStillNearest 26 = .ok (.getfield 199, 3) := by decide +kernel
theorem dX8_slipsStillNearest_29 : decode cX8_slipsStillNearest 29 = .ok (.istore_n 1, 1) := by decide +kernel
theorem dX8_slipsStillNearest_30 : decode cX8_slipsStillNearest 30 = .ok (.iload_n 1, 1) := by decide +kernel
theorem dX8_slipsStillNearest_31 : decode cX8_slipsStillNearest 31 = .ok (.bipush (-4), 2) := by decide +kernel
theorem dX8_slipsStillNearest_33 : decode cX8_slipsStillNearest 33 = .ok (.if_icmp .ne 5, 3) := by decide +kernel
theorem dX8_slipsStillNearest_36 : decode cX8_slipsStillNearest 36 = .ok (.iconst 0, 1) := by decide +kernel
theorem dX8_slipsStillNearest_37 : decode cX8_slipsStillNearest 37 = .ok (.ireturn, 1) := by decide +kernel
theorem dX8_slipsStillNearest_38 : decode cX8_slipsStillNearest 38 = .ok (.iconst 0, 1) := by decide +kernel
theorem dX8_slipsStillNearest_39 : decode cX8_slipsStillNearest 39 = .ok (.istore_n 2, 1) := by decide +kernel
theorem dX8_slipsStillNearest_40 : decode cX8_slipsStillNearest 40 = .ok (.iconst 0, 1) := by decide +kernel
theorem dX8_slipsStillNearest_41 : decode cX8_slipsStillNearest 41 = .ok (.istore_n 3, 1) := by decide +kernel
theorem dX8_slipsStillNearest_42 : decode cX8_slipsStillNearest 42 = .ok (.iload_n 3, 1) := by decide +kernel
theorem dX8_slipsStillNearest_43 : decode cX8_slipsStillNearest 43 = .ok (.aload_n 0, 1) := by decide +kernel
theorem dX8_slipsStillNearest_44 : decode cX8_slipsStillNearest 44 = .ok (.getfield 10, 3) := by decide +kernel
theorem dX8_slipsStillNearest_47 : decode cX8_slipsStillNearest 47 = .ok (.getfield 137, 3) := by decide +kernel
theorem dX8_slipsStillNearest_50 : decode cX8_slipsStillNearest 50 = .ok (.if_icmp .ge 111, 3) := by decide +kernel
theorem dX8_slipsStillNearest_53 : decode cX8_slipsStillNearest 53 = .ok (.getstatic 82, 3) := by decide +kernel
theorem dX8_slipsStillNearest_56 : decode cX8_slipsStillNearest 56 = .ok (.aload_n 0, 1) := by decide +kernel
theorem dX8_slipsStillNearest_57 : decode cX8_slipsStillNearest 57 = .ok (.getfield 10, 3) := by decide +kernel
theorem dX8_slipsStillNearest_60 : decode cX8_slipsStillNearest 60 = .ok (.getfield 141, 3) := by decide +kernel
theorem dX8_slipsStillNearest_63 : decode cX8_slipsStillNearest 63 = .ok (.iload_n 3, 1) := by decide +kernel
theorem dX8_slipsStillNearest_64 : decode cX8_slipsStillNearest 64 = .ok (.iaload, 1) := by decide +kernel
theorem dX8_slipsStillNearest_65 : decode cX8_slipsStillNearest 65 = .ok (.iaload, 1) := by decide +kernel
theorem dX8_slipsStillNearest_66 : decode cX8_slipsStillNearest 66 = .ok (.istore 4, 2) := by decide +kernel
theorem dX8_slipsStillNearest_68 : decode cX8_slipsStillNearest 68 = .ok (.getstatic 86, 3) := by decide +kernel
theorem dX8_slipsStillNearest_71 : decode cX8_slipsStillNearest 71 = .ok (.aload_n 0, 1) := by decide +kernel
theorem dX8_slipsStillNearest_72 : decode cX8_slipsStillNearest 72 = .ok (.getfield 10, 3) := by decide +kernel
theorem dX8_slipsStillNearest_75 : decode cX8_slipsStillNearest 75 = .ok (.getfield 141, 3) := by decide +kernel
theorem dX8_slipsStillNearest_78 : decode cX8_slipsStillNearest 78 = .ok (.iload_n 3, 1) := by decide +kernel
theorem dX8_slipsStillNearest_79 : decode cX8_slipsStillNearest 79 = .ok (.iaload, 1) := by decide +kernel
theorem dX8_slipsStillNearest_80 : decode cX8_slipsStillNearest 80 = .ok (.iaload, 1) := by decide +kernel
theorem dX8_slipsStillNearest_81 : decode cX8_slipsStillNearest 81 = .ok (.istore 5, 2) := by decide +kernel
theorem dX8_slipsStillNearest_83 : decode cX8_slipsStillNearest 83 = .ok (.iload_n 2, 1) := by decide +kernel
theorem dX8_slipsStillNearest_84 : decode cX8_slipsStillNearest 84 = .ok (.aload_n 0, 1) := by decide +kernel
theorem dX8_slipsStillNearest_85 : decode cX8_slipsStillNearest 85 = .ok (.iload_n 3, 1) := by decide +kernel
theorem dX8_slipsStillNearest_86 : decode cX8_slipsStillNearest 86 = .ok (.iload 4, 2) := by decide +kernel
theorem dX8_slipsStillNearest_88 : decode cX8_slipsStillNearest 88 = .ok (.invokestatic 293, 3) := by decide +kernel
theorem dX8_slipsStillNearest_91 : decode cX8_slipsStillNearest 91 = .ok (.iload 5, 2) := by decide +kernel
theorem dX8_slipsStillNearest_93 : decode cX8_slipsStillNearest 93 = .ok (.iload_n 1, 1) := by decide +kernel
theorem dX8_slipsStillNearest_94 : decode cX8_slipsStillNearest 94 = .ok (.invokevirtual 302, 3) := by decide +kernel
theorem dX8_slipsStillNearest_97 : decode cX8_slipsStillNearest 97 = .ok (.aload_n 0, 1) := by decide +kernel
theorem dX8_slipsStillNearest_98 : decode cX8_slipsStillNearest 98 = .ok (.iload_n 3, 1) := by decide +kernel
theorem dX8_slipsStillNearest_99 : decode cX8_slipsStillNearest 99 = .ok (.iload 4, 2) := by decide +kernel
theorem dX8_slipsStillNearest_101 : decode cX8_slipsStillNearest 101 = .ok (.invokestatic 299, 3) := by decide +kernel
theorem dX8_slipsStillNearest_104 : decode cX8_slipsStillNearest 104 = .ok (.iload 5, 2) := by decide +kernel
theorem dX8_slipsStillNearest_106 : decode cX8_slipsStillNearest 106 = .ok (.iload_n 1, 1) := by decide +kernel
theorem dX8_slipsStillNearest_107 : decode cX8_slipsStillNearest 107 = .ok (.invokevirtual 302, 3) := by decide +kernel
theorem dX8_slipsStillNearest_110 : decode cX8_slipsStillNearest 110 = .ok (.iadd, 1) := by decide +kernel
theorem dX8_slipsStillNearest_111 : decode cX8_slipsStillNearest 111 = .ok (.iadd, 1) := by decide +kernel
theorem dX8_slipsStillNearest_112 : decode cX8_slipsStillNearest 112 = .ok (.istore_n 2, 1) := by decide +kernel
theorem dX8_slipsStillNearest_113 : decode cX8_slipsStillNearest 113 = .ok (.iload_n 2, 1) := by decide +kernel
theorem dX8_slipsStillNearest_114 : decode cX8_slipsStillNearest 114 = .ok (.aload_n 0, 1) := by decide +kernel
theorem dX8_slipsStillNearest_115 : decode cX8_slipsStillNearest 115 = .ok (.iload_n 3, 1) := by decide +kernel
theorem dX8_slipsStillNearest_116 : decode cX8_slipsStillNearest 116 = .ok (.iload 4, 2) := by decide +kernel
theorem dX8_slipsStillNearest_118 : decode cX8_slipsStillNearest 118 = .ok (.iload 5, 2) := by decide +kernel
theorem dX8_slipsStillNearest_120 : decode cX8_slipsStillNearest 120 = .ok (.invokestatic 293, 3) := by decide +kernel
theorem dX8_slipsStillNearest_123 : decode cX8_slipsStillNearest 123 = .ok (.iload_n 1, 1) := by decide +kernel
theorem dX8_slipsStillNearest_124 : decode cX8_slipsStillNearest 124 = .ok (.invokevirtual 302, 3) := by decide +kernel
theorem dX8_slipsStillNearest_127 : decode cX8_slipsStillNearest 127 = .ok (.aload_n 0, 1) := by decide +kernel
theorem dX8_slipsStillNearest_128 : decode cX8_slipsStillNearest 128 = .ok (.iload_n 3, 1) := by decide +kernel
theorem dX8_slipsStillNearest_129 : decode cX8_slipsStillNearest 129 = .ok (.iload 4, 2) := by decide +kernel
theorem dX8_slipsStillNearest_131 : decode cX8_slipsStillNearest 131 = .ok (.iload 5, 2) := by decide +kernel
theorem dX8_slipsStillNearest_133 : decode cX8_slipsStillNearest 133 = .ok (.invokestatic 299, 3) := by decide +kernel
theorem dX8_slipsStillNearest_136 : decode cX8_slipsStillNearest 136 = .ok (.iload_n 1, 1) := by decide +kernel
theorem dX8_slipsStillNearest_137 : decode cX8_slipsStillNearest 137 = .ok (.invokevirtual 302, 3) := by decide +kernel
theorem dX8_slipsStillNearest_140 : decode cX8_slipsStillNearest 140 = .ok (.iadd, 1) := by decide +kernel
theorem dX8_slipsStillNearest_141 : decode cX8_slipsStillNearest 141 = .ok (.iadd, 1) := by decide +kernel
theorem dX8_slipsStillNearest_142 : decode cX8_slipsStillNearest 142 = .ok (.istore_n 2, 1) := by decide +kernel
theorem dX8_slipsStillNearest_143 : decode cX8_slipsStillNearest 143 = .ok (.aload_n 0, 1) := by decide +kernel
theorem dX8_slipsStillNearest_144 : decode cX8_slipsStillNearest 144 = .ok (.getfield 53, 3) := by decide +kernel
theorem dX8_slipsStillNearest_147 : decode cX8_slipsStillNearest 147 = .ok (.iload_n 3, 1) := by decide +kernel
theorem dX8_slipsStillNearest_148 : decode cX8_slipsStillNearest 148 = .ok (.iload 4, 2) := by decide +kernel
theorem dX8_slipsStillNearest_150 : decode cX8_slipsStillNearest 150 = .ok (.iload 5, 2) := by decide +kernel
theorem dX8_slipsStillNearest_152 : decode cX8_slipsStillNearest 152 = .ok (.invokevirtual 305, 3) := by decide +kernel
theorem dX8_slipsStillNearest_155 : decode cX8_slipsStillNearest 155 = .ok (.iinc 3 1, 3) := by decide +kernel
theorem dX8_slipsStillNearest_158 : decode cX8_slipsStillNearest 158 = .ok (.goto (-116), 3) := by decide +kernel
theorem dX8_slipsStillNearest_161 : decode cX8_slipsStillNearest 161 = .ok (.iload_n 2, 1) := by decide +kernel
theorem dX8_slipsStillNearest_162 : decode cX8_slipsStillNearest 162 = .ok (.ireturn, 1) := by decide +kernel
theorem dX8_tellsAt_0 : decode cX8_tellsAt 0 = .ok (.aload_n 0, 1) := by decide +kernel
theorem dX8_tellsAt_1 : decode cX8_tellsAt 1 = .ok (.getfield 53, 3) := by decide +kernel
theorem dX8_tellsAt_4 : decode cX8_tellsAt 4 = .ok (.iload_n 1, 1) := by decide +kernel
theorem dX8_tellsAt_5 : decode cX8_tellsAt 5 = .ok (.iload_n 2, 1) := by decide +kernel
theorem dX8_tellsAt_6 : decode cX8_tellsAt 6 = .ok (.iload_n 3, 1) := by decide +kernel
theorem dX8_tellsAt_7 : decode cX8_tellsAt 7 = .ok (.invokevirtual 305, 3) := by decide +kernel
theorem dX8_tellsAt_10 : decode cX8_tellsAt 10 = .ok (.aload_n 0, 1) := by decide +kernel
theorem dX8_tellsAt_11 : decode cX8_tellsAt 11 = .ok (.getfield 53, 3) := by decide +kernel
theorem dX8_tellsAt_14 : decode cX8_tellsAt 14 = .ok (.aload_n 0, 1) := by decide +kernel
theorem dX8_tellsAt_15 : decode cX8_tellsAt 15 = .ok (.getfield 10, 3) := by decide +kernel
theorem dX8_tellsAt_18 : decode cX8_tellsAt 18 = .ok (.invokevirtual 196, 3) := by decide +kernel
theorem dX8_tellsAt_21 : decode cX8_tellsAt 21 = .ok (.aload_n 0, 1) := by decide +kernel
theorem dX8_tellsAt_22 : decode cX8_tellsAt 22 = .ok (.getfield 53, 3) := by decide +kernel
theorem dX8_tellsAt_25 : decode cX8_tellsAt 25 = .ok (.getfield 199, 3) := by decide +kernel
theorem dX8_tellsAt_28 : decode cX8_tellsAt 28 = .ok (.iload 4, 2) := by decide +kernel
theorem dX8_tellsAt_30 : decode cX8_tellsAt 30 = .ok (.if_icmp .ne 17, 3) := by decide +kernel
theorem dX8_tellsAt_33 : decode cX8_tellsAt 33 = .ok (.aload_n 0, 1) := by decide +kernel
theorem dX8_tellsAt_34 : decode cX8_tellsAt 34 = .ok (.getfield 53, 3) := by decide +kernel
theorem dX8_tellsAt_37 : decode cX8_tellsAt 37 = .ok (.getfield 205, 3) := by decide +kernel
theorem dX8_tellsAt_40 : decode cX8_tellsAt 40 = .ok (.ifCond .eq 7, 3) := by decide +kernel
theorem dX8_tellsAt_43 : decode cX8_tellsAt 43 = .ok (.iconst 1, 1) := by decide +kernel
theorem dX8_tellsAt_44 : decode cX8_tellsAt 44 = .ok (.goto 4, 3) := by decide +kernel
theorem dX8_tellsAt_47 : decode cX8_tellsAt 47 = .ok (.iconst 0, 1) := by decide +kernel
theorem dX8_tellsAt_48 : decode cX8_tellsAt 48 = .ok (.ireturn, 1) := by decide +kernel
theorem dX8_refusal_0 : decode cX8_refusal 0 = .ok (.iload_n 1, 1) := by decide +kernel
theorem dX8_refusal_1 : decode cX8_refusal 1 = .ok (.invokestatic 262, 3) := by decide +kernel
theorem dX8_refusal_4 : decode cX8_refusal 4 = .ok (.ifCond .eq 10, 3) := by decide +kernel
theorem dX8_refusal_7 : decode cX8_refusal 7 = .ok (.iload_n 2, 1) := by decide +kernel
theorem dX8_refusal_8 : decode cX8_refusal 8 = .ok (.invokestatic 265, 3) := by decide +kernel
theorem dX8_refusal_11 : decode cX8_refusal 11 = .ok (.ifCond .ne 5, 3) := by decide +kernel
theorem dX8_refusal_14 : decode cX8_refusal 14 = .ok (.iconst (-1), 1) := by decide +kernel
theorem dX8_refusal_15 : decode cX8_refusal 15 = .ok (.ireturn, 1) := by decide +kernel
theorem dX8_refusal_16 : decode cX8_refusal 16 = .ok (.aload_n 0, 1) := by decide +kernel
theorem dX8_refusal_17 : decode cX8_refusal 17 = .ok (.getfield 73, 3) := by decide +kernel
theorem dX8_refusal_20 : decode cX8_refusal 20 = .ok (.iload_n 1, 1) := by decide +kernel
theorem dX8_refusal_21 : decode cX8_refusal 21 = .ok (.aaload, 1) := by decide +kernel
theorem dX8_refusal_22 : decode cX8_refusal 22 = .ok (.getfield 272, 3) := by decide +kernel
theorem dX8_refusal_25 : decode cX8_refusal 25 = .ok (.ifCond .ne 6, 3) := by decide +kernel
theorem dX8_refusal_28 : decode cX8_refusal 28 = .ok (.bipush (-11), 2) := by decide +kernel
theorem dX8_refusal_30 : decode cX8_refusal 30 = .ok (.ireturn, 1) := by decide +kernel
theorem dX8_refusal_31 : decode cX8_refusal 31 = .ok (.aload_n 0, 1) := by decide +kernel
theorem dX8_refusal_32 : decode cX8_refusal 32 = .ok (.getfield 73, 3) := by decide +kernel
theorem dX8_refusal_35 : decode cX8_refusal 35 = .ok (.iload_n 1, 1) := by decide +kernel
theorem dX8_refusal_36 : decode cX8_refusal 36 = .ok (.aaload, 1) := by decide +kernel
theorem dX8_refusal_37 : decode cX8_refusal 37 = .ok (.getfield 280, 3) := by decide +kernel
theorem dX8_refusal_40 : decode cX8_refusal 40 = .ok (.iload_n 2, 1) := by decide +kernel
theorem dX8_refusal_41 : decode cX8_refusal 41 = .ok (.if_icmp .eq 6, 3) := by decide +kernel
theorem dX8_refusal_44 : decode cX8_refusal 44 = .ok (.bipush (-12), 2) := by decide +kernel
theorem dX8_refusal_46 : decode cX8_refusal 46 = .ok (.ireturn, 1) := by decide +kernel
theorem dX8_refusal_47 : decode cX8_refusal 47 = .ok (.aload_n 0, 1) := by decide +kernel
theorem dX8_refusal_48 : decode cX8_refusal 48 = .ok (.getfield 73, 3) := by decide +kernel
theorem dX8_refusal_51 : decode cX8_refusal 51 = .ok (.iload_n 1, 1) := by decide +kernel
theorem dX8_refusal_52 : decode cX8_refusal 52 = .ok (.aaload, 1) := by decide +kernel
theorem dX8_refusal_53 : decode cX8_refusal 53 = .ok (.iload_n 3, 1) := by decide +kernel
theorem dX8_refusal_54 : decode cX8_refusal 54 = .ok (.iload 4, 2) := by decide +kernel
theorem dX8_refusal_56 : decode cX8_refusal 56 = .ok (.invokevirtual 283, 3) := by decide +kernel
theorem dX8_refusal_59 : decode cX8_refusal 59 = .ok (.ifCond .eq 7, 3) := by decide +kernel
theorem dX8_refusal_62 : decode cX8_refusal 62 = .ok (.iconst 0, 1) := by decide +kernel
theorem dX8_refusal_63 : decode cX8_refusal 63 = .ok (.goto 5, 3) := by decide +kernel
theorem dX8_refusal_66 : decode cX8_refusal 66 = .ok (.bipush (-13), 2) := by decide +kernel
theorem dX8_refusal_68 : decode cX8_refusal 68 = .ok (.ireturn, 1) := by decide +kernel
theorem dX8_isLetter_0 : decode cX8_isLetter 0 = .ok (.iload_n 0, 1) := by decide +kernel
theorem dX8_isLetter_1 : decode cX8_isLetter 1 = .ok (.ifCond .lt 13, 3) := by decide +kernel
theorem dX8_isLetter_4 : decode cX8_isLetter 4 = .ok (.iload_n 0, 1) := by decide +kernel
theorem dX8_isLetter_5 : decode cX8_isLetter 5 = .ok (.bipush 26, 2) := by decide +kernel
theorem dX8_isLetter_7 : decode cX8_isLetter 7 = .ok (.if_icmp .ge 7, 3) := by decide +kernel
theorem dX8_isLetter_10 : decode cX8_isLetter 10 = .ok (.iconst 1, 1) := by decide +kernel
theorem dX8_isLetter_11 : decode cX8_isLetter 11 = .ok (.goto 4, 3) := by decide +kernel
theorem dX8_isLetter_14 : decode cX8_isLetter 14 = .ok (.iconst 0, 1) := by decide +kernel
theorem dX8_isLetter_15 : decode cX8_isLetter 15 = .ok (.ireturn, 1) := by decide +kernel
theorem dX8_isSign_0 : decode cX8_isSign 0 = .ok (.iload_n 0, 1) := by decide +kernel
theorem dX8_isSign_1 : decode cX8_isSign 1 = .ok (.ifCond .lt 13, 3) := by decide +kernel
theorem dX8_isSign_4 : decode cX8_isSign 4 = .ok (.iload_n 0, 1) := by decide +kernel
theorem dX8_isSign_5 : decode cX8_isSign 5 = .ok (.bipush 27, 2) := by decide +kernel
theorem dX8_isSign_7 : decode cX8_isSign 7 = .ok (.if_icmp .ge 7, 3) := by decide +kernel
theorem dX8_isSign_10 : decode cX8_isSign 10 = .ok (.iconst 1, 1) := by decide +kernel
theorem dX8_isSign_11 : decode cX8_isSign 11 = .ok (.goto 4, 3) := by decide +kernel
theorem dX8_isSign_14 : decode cX8_isSign 14 = .ok (.iconst 0, 1) := by decide +kernel
theorem dX8_isSign_15 : decode cX8_isSign 15 = .ok (.ireturn, 1) := by decide +kernel
theorem dX8_isDirection_0 : decode cX8_isDirection 0 = .ok (.lload_n 0, 1) := by decide +kernel
theorem dX8_isDirection_1 : decode cX8_isDirection 1 = .ok (.lconst 0, 1) := by decide +kernel
theorem dX8_isDirection_2 : decode cX8_isDirection 2 = .ok (.lcmp, 1) := by decide +kernel
theorem dX8_isDirection_3 : decode cX8_isDirection 3 = .ok (.ifCond .lt 15, 3) := by decide +kernel
theorem dX8_isDirection_6 : decode cX8_isDirection 6 = .ok (.lload_n 0, 1) := by decide +kernel
theorem dX8_isDirection_7 : decode cX8_isDirection 7 = .ok (.ldc2_w 309, 3) := by decide +kernel
theorem dX8_isDirection_10 : decode cX8_isDirection 10 = .ok (.lcmp, 1) := by decide +kernel
theorem dX8_isDirection_11 : decode cX8_isDirection 11 = .ok (.ifCond .ge 7, 3) := by decide +kernel
theorem dX8_isDirection_14 : decode cX8_isDirection 14 = .ok (.iconst 1, 1) := by decide +kernel
theorem dX8_isDirection_15 : decode cX8_isDirection 15 = .ok (.goto 4, 3) := by decide +kernel
theorem dX8_isDirection_18 : decode cX8_isDirection 18 = .ok (.iconst 0, 1) := by decide +kernel
theorem dX8_isDirection_19 : decode cX8_isDirection 19 = .ok (.ireturn, 1) := by decide +kernel
theorem dX8_isSheet_0 : decode cX8_isSheet 0 = .ok (.iload_n 0, 1) := by decide +kernel
theorem dX8_isSheet_1 : decode cX8_isSheet 1 = .ok (.ifCond .lt 12, 3) := by decide +kernel
theorem dX8_isSheet_4 : decode cX8_isSheet 4 = .ok (.iload_n 0, 1) := by decide +kernel
theorem dX8_isSheet_5 : decode cX8_isSheet 5 = .ok (.iconst 4, 1) := by decide +kernel
theorem dX8_isSheet_6 : decode cX8_isSheet 6 = .ok (.if_icmp .ge 7, 3) := by decide +kernel
theorem dX8_isSheet_9 : decode cX8_isSheet 9 = .ok (.iconst 1, 1) := by decide +kernel
theorem dX8_isSheet_10 : decode cX8_isSheet 10 = .ok (.goto 4, 3) := by decide +kernel
theorem dX8_isSheet_13 : decode cX8_isSheet 13 = .ok (.iconst 0, 1) := by decide +kernel
theorem dX8_isSheet_14 : decode cX8_isSheet 14 = .ok (.ireturn, 1) := by decide +kernel
theorem dX8_isLane_0 : decode cX8_isLane 0 = .ok (.iload_n 0, 1) := by decide +kernel
theorem dX8_isLane_1 : decode cX8_isLane 1 = .ok (.ifCond .lt 12, 3) := by decide +kernel
theorem dX8_isLane_4 : decode cX8_isLane 4 = .ok (.iload_n 0, 1) := by decide +kernel
theorem dX8_isLane_5 : decode cX8_isLane 5 = .ok (.iconst 4, 1) := by decide +kernel
theorem dX8_isLane_6 : decode cX8_isLane 6 = .ok (.if_icmp .ge 7, 3) := by decide +kernel
theorem dX8_isLane_9 : decode cX8_isLane 9 = .ok (.iconst 1, 1) := by decide +kernel
theorem dX8_isLane_10 : decode cX8_isLane 10 = .ok (.goto 4, 3) := by decide +kernel
theorem dX8_isLane_13 : decode cX8_isLane 13 = .ok (.iconst 0, 1) := by decide +kernel
theorem dX8_isLane_14 : decode cX8_isLane 14 = .ok (.ireturn, 1) := by decide +kernel
theorem dX8_lowestBits_0 : decode cX8_lowestBits 0 = .ok (.iload_n 0, 1) := by decide +kernel
theorem dX8_lowestBits_1 : decode cX8_lowestBits 1 = .ok (.tableswitch 41 0 2 #[27, 32, 37], 27) := by decide +kernel
theorem dX8_lowestBits_28 : decode cX8_lowestBits 28 = .ok (.lload_n 1, 1) := by decide +kernel
theorem dX8_lowestBits_29 : decode cX8_lowestBits 29 = .ok (.l2i, 1) := by decide +kernel
theorem dX8_lowestBits_30 : decode cX8_lowestBits 30 = .ok (.i2b, 1) := by decide +kernel
theorem dX8_lowestBits_31 : decode cX8_lowestBits 31 = .ok (.i2l, 1) := by decide +kernel
theorem dX8_lowestBits_32 : decode cX8_lowestBits 32 = .ok (.lreturn, 1) := by decide +kernel
theorem dX8_lowestBits_33 : decode cX8_lowestBits 33 = .ok (.lload_n 1, 1) := by decide +kernel
theorem dX8_lowestBits_34 : decode cX8_lowestBits 34 = .ok (.l2i, 1) := by decide +kernel
theorem dX8_lowestBits_35 : decode cX8_lowestBits 35 = .ok (.i2s, 1) := by decide +kernel
theorem dX8_lowestBits_36 : decode cX8_lowestBits 36 = .ok (.i2l, 1) := by decide +kernel
theorem dX8_lowestBits_37 : decode cX8_lowestBits 37 = .ok (.lreturn, 1) := by decide +kernel
theorem dX8_lowestBits_38 : decode cX8_lowestBits 38 = .ok (.lload_n 1, 1) := by decide +kernel
theorem dX8_lowestBits_39 : decode cX8_lowestBits 39 = .ok (.l2i, 1) := by decide +kernel
theorem dX8_lowestBits_40 : decode cX8_lowestBits 40 = .ok (.i2l, 1) := by decide +kernel
theorem dX8_lowestBits_41 : decode cX8_lowestBits 41 = .ok (.lreturn, 1) := by decide +kernel
theorem dX8_lowestBits_42 : decode cX8_lowestBits 42 = .ok (.lload_n 1, 1) := by decide +kernel
theorem dX8_lowestBits_43 : decode cX8_lowestBits 43 = .ok (.lreturn, 1) := by decide +kernel
theorem dX8_oneOn_0 : decode cX8_oneOn 0 = .ok (.iload_n 0, 1) := by decide +kernel
theorem dX8_oneOn_1 : decode cX8_oneOn 1 = .ok (.iconst 1, 1) := by decide +kernel
theorem dX8_oneOn_2 : decode cX8_oneOn 2 = .ok (.iadd, 1) := by decide +kernel
theorem dX8_oneOn_3 : decode cX8_oneOn 3 = .ok (.bipush 8, 2) := by decide +kernel
theorem dX8_oneOn_5 : decode cX8_oneOn 5 = .ok (.irem, 1) := by decide +kernel
theorem dX8_oneOn_6 : decode cX8_oneOn 6 = .ok (.ireturn, 1) := by decide +kernel
theorem dX8_oneBack_0 : decode cX8_oneBack 0 = .ok (.iload_n 0, 1) := by decide +kernel
theorem dX8_oneBack_1 : decode cX8_oneBack 1 = .ok (.bipush 8, 2) := by decide +kernel
theorem dX8_oneBack_3 : decode cX8_oneBack 3 = .ok (.iadd, 1) := by decide +kernel
theorem dX8_oneBack_4 : decode cX8_oneBack 4 = .ok (.iconst 1, 1) := by decide +kernel
theorem dX8_oneBack_5 : decode cX8_oneBack 5 = .ok (.isub, 1) := by decide +kernel
theorem dX8_oneBack_6 : decode cX8_oneBack 6 = .ok (.bipush 8, 2) := by decide +kernel
theorem dX8_oneBack_8 : decode cX8_oneBack 8 = .ok (.irem, 1) := by decide +kernel
theorem dX8_oneBack_9 : decode cX8_oneBack 9 = .ok (.ireturn, 1) := by decide +kernel
theorem dX8_fromBehind_0 : decode cX8_fromBehind 0 = .ok (.bipush 8, 2) := by decide +kernel
theorem dX8_fromBehind_2 : decode cX8_fromBehind 2 = .ok (.iload_n 0, 1) := by decide +kernel
theorem dX8_fromBehind_3 : decode cX8_fromBehind 3 = .ok (.isub, 1) := by decide +kernel
theorem dX8_fromBehind_4 : decode cX8_fromBehind 4 = .ok (.bipush 8, 2) := by decide +kernel
theorem dX8_fromBehind_6 : decode cX8_fromBehind 6 = .ok (.irem, 1) := by decide +kernel
theorem dX8_fromBehind_7 : decode cX8_fromBehind 7 = .ok (.ireturn, 1) := by decide +kernel
theorem dX8_stepsBetween_0 : decode cX8_stepsBetween 0 = .ok (.iload_n 0, 1) := by decide +kernel
theorem dX8_stepsBetween_1 : decode cX8_stepsBetween 1 = .ok (.iload_n 1, 1) := by decide +kernel
theorem dX8_stepsBetween_2 : decode cX8_stepsBetween 2 = .ok (.if_icmp .ge 9, 3) := by decide +kernel
theorem dX8_stepsBetween_5 : decode cX8_stepsBetween 5 = .ok (.iload_n 1, 1) := by decide +kernel
theorem dX8_stepsBetween_6 : decode cX8_stepsBetween 6 = .ok (.iload_n 0, 1) := by decide +kernel
theorem dX8_stepsBetween_7 : decode cX8_stepsBetween 7 = .ok (.isub, 1) := by decide +kernel
theorem dX8_stepsBetween_8 : decode cX8_stepsBetween 8 = .ok (.goto 6, 3) := by decide +kernel
theorem dX8_stepsBetween_11 : decode cX8_stepsBetween 11 = .ok (.iload_n 0, 1) := by decide +kernel
theorem dX8_stepsBetween_12 : decode cX8_stepsBetween 12 = .ok (.iload_n 1, 1) := by decide +kernel
theorem dX8_stepsBetween_13 : decode cX8_stepsBetween 13 = .ok (.isub, 1) := by decide +kernel
theorem dX8_stepsBetween_14 : decode cX8_stepsBetween 14 = .ok (.istore_n 2, 1) := by decide +kernel
theorem dX8_stepsBetween_15 : decode cX8_stepsBetween 15 = .ok (.iload_n 2, 1) := by decide +kernel
theorem dX8_stepsBetween_16 : decode cX8_stepsBetween 16 = .ok (.iconst 4, 1) := by decide +kernel
theorem dX8_stepsBetween_17 : decode cX8_stepsBetween 17 = .ok (.if_icmp .gt 7, 3) := by decide +kernel
theorem dX8_stepsBetween_20 : decode cX8_stepsBetween 20 = .ok (.iload_n 2, 1) := by decide +kernel
theorem dX8_stepsBetween_21 : decode cX8_stepsBetween 21 = .ok (.goto 7, 3) := by decide +kernel
theorem dX8_stepsBetween_24 : decode cX8_stepsBetween 24 = .ok (.bipush 8, 2) := by decide +kernel
theorem dX8_stepsBetween_26 : decode cX8_stepsBetween 26 = .ok (.iload_n 2, 1) := by decide +kernel
theorem dX8_stepsBetween_27 : decode cX8_stepsBetween 27 = .ok (.isub, 1) := by decide +kernel
theorem dX8_stepsBetween_28 : decode cX8_stepsBetween 28 = .ok (.ireturn, 1) := by decide +kernel
theorem dX8_between_0 : decode cX8_between 0 = .ok (.iload_n 0, 1) := by decide +kernel
theorem dX8_between_1 : decode cX8_between 1 = .ok (.iload_n 2, 1) := by decide +kernel
theorem dX8_between_2 : decode cX8_between 2 = .ok (.invokestatic 311, 3) := by decide +kernel
theorem dX8_between_5 : decode cX8_between 5 = .ok (.iload_n 1, 1) := by decide +kernel
theorem dX8_between_6 : decode cX8_between 6 = .ok (.iload_n 3, 1) := by decide +kernel
theorem dX8_between_7 : decode cX8_between 7 = .ok (.invokestatic 311, 3) := by decide +kernel
theorem dX8_between_10 : decode cX8_between 10 = .ok (.iadd, 1) := by decide +kernel
theorem dX8_between_11 : decode cX8_between 11 = .ok (.iload_n 0, 1) := by decide +kernel
theorem dX8_between_12 : decode cX8_between 12 = .ok (.iload_n 3, 1) := by decide +kernel
theorem dX8_between_13 : decode cX8_between 13 = .ok (.invokestatic 311, 3) := by decide +kernel
theorem dX8_between_16 : decode cX8_between 16 = .ok (.iload_n 1, 1) := by decide +kernel
theorem dX8_between_17 : decode cX8_between 17 = .ok (.iload_n 2, 1) := by decide +kernel
theorem dX8_between_18 : decode cX8_between 18 = .ok (.invokestatic 311, 3) := by decide +kernel
theorem dX8_between_21 : decode cX8_between 21 = .ok (.iadd, 1) := by decide +kernel
theorem dX8_between_22 : decode cX8_between 22 = .ok (.invokestatic 314, 3) := by decide +kernel
theorem dX8_between_25 : decode cX8_between 25 = .ok (.ireturn, 1) := by decide +kernel
theorem dX8_signOf_0 : decode cX8_signOf 0 = .ok (.iload_n 0, 1) := by decide +kernel
theorem dX8_signOf_1 : decode cX8_signOf 1 = .ok (.iload_n 1, 1) := by decide +kernel
theorem dX8_signOf_2 : decode cX8_signOf 2 = .ok (.invokestatic 314, 3) := by decide +kernel
theorem dX8_signOf_5 : decode cX8_signOf 5 = .ok (.istore_n 2, 1) := by decide +kernel
theorem dX8_signOf_6 : decode cX8_signOf 6 = .ok (.iload_n 0, 1) := by decide +kernel
theorem dX8_signOf_7 : decode cX8_signOf 7 = .ok (.iload_n 1, 1) := by decide +kernel
theorem dX8_signOf_8 : decode cX8_signOf 8 = .ok (.invokestatic 319, 3) := by decide +kernel
theorem dX8_signOf_11 : decode cX8_signOf 11 = .ok (.istore_n 3, 1) := by decide +kernel
theorem dX8_signOf_12 : decode cX8_signOf 12 = .ok (.iconst 0, 1) := by decide +kernel
theorem dX8_signOf_13 : decode cX8_signOf 13 = .ok (.istore 4, 2) := by decide +kernel
theorem dX8_signOf_15 : decode cX8_signOf 15 = .ok (.iload 4, 2) := by decide +kernel
theorem dX8_signOf_17 : decode cX8_signOf 17 = .ok (.bipush 27, 2) := by decide +kernel
theorem dX8_signOf_19 : decode cX8_signOf 19 = .ok (.if_icmp .ge 32, 3) := by decide +kernel
theorem dX8_signOf_22 : decode cX8_signOf 22 = .ok (.getstatic 82, 3) := by decide +kernel
theorem dX8_signOf_25 : decode cX8_signOf 25 = .ok (.iload 4, 2) := by decide +kernel
theorem dX8_signOf_27 : decode cX8_signOf 27 = .ok (.iaload, 1) := by decide +kernel
theorem dX8_signOf_28 : decode cX8_signOf 28 = .ok (.iload_n 2, 1) := by decide +kernel
theorem dX8_signOf_29 : decode cX8_signOf 29 = .ok (.if_icmp .ne 16, 3) := by decide +kernel
theorem dX8_signOf_32 : decode cX8_signOf 32 = .ok (.getstatic 86, 3) := by decide +kernel
theorem dX8_signOf_35 : decode cX8_signOf 35 = .ok (.iload 4, 2) := by decide +kernel
theorem dX8_signOf_37 : decode cX8_signOf 37 = .ok (.iaload, 1) := by decide +kernel
theorem dX8_signOf_38 : decode cX8_signOf 38 = .ok (.iload_n 3, 1) := by decide +kernel
theorem dX8_signOf_39 : decode cX8_signOf 39 = .ok (.if_icmp .ne 6, 3) := by decide +kernel
theorem dX8_signOf_42 : decode cX8_signOf 42 = .ok (.iload 4, 2) := by decide +kernel
theorem dX8_signOf_44 : decode cX8_signOf 44 = .ok (.ireturn, 1) := by decide +kernel
theorem dX8_signOf_45 : decode cX8_signOf 45 = .ok (.iinc 4 1, 3) := by decide +kernel
theorem dX8_signOf_48 : decode cX8_signOf 48 = .ok (.goto (-33), 3) := by decide +kernel
theorem dX8_signOf_51 : decode cX8_signOf 51 = .ok (.bipush (-4), 2) := by decide +kernel
theorem dX8_signOf_53 : decode cX8_signOf 53 = .ok (.ireturn, 1) := by decide +kernel
theorem dX8_letterOrNot_0 : decode cX8_letterOrNot 0 = .ok (.iload_n 0, 1) := by decide +kernel
theorem dX8_letterOrNot_1 : decode cX8_letterOrNot 1 = .ok (.iload_n 1, 1) := by decide +kernel
theorem dX8_letterOrNot_2 : decode cX8_letterOrNot 2 = .ok (.invokestatic 97, 3) := by decide +kernel
theorem dX8_letterOrNot_5 : decode cX8_letterOrNot 5 = .ok (.invokestatic 78, 3) := by decide +kernel
theorem dX8_letterOrNot_8 : decode cX8_letterOrNot 8 = .ok (.ifCond .eq 7, 3) := by decide +kernel
theorem dX8_letterOrNot_11 : decode cX8_letterOrNot 11 = .ok (.iconst 1, 1) := by decide +kernel
theorem dX8_letterOrNot_12 : decode cX8_letterOrNot 12 = .ok (.goto 4, 3) := by decide +kernel
theorem dX8_letterOrNot_15 : decode cX8_letterOrNot 15 = .ok (.iconst 0, 1) := by decide +kernel
theorem dX8_letterOrNot_16 : decode cX8_letterOrNot 16 = .ok (.ireturn, 1) := by decide +kernel
theorem dX8_turnedLetter_0 : decode cX8_turnedLetter 0 = .ok (.getstatic 82, 3) := by decide +kernel
theorem dX8_turnedLetter_3 : decode cX8_turnedLetter 3 = .ok (.iload_n 0, 1) := by decide +kernel
theorem dX8_turnedLetter_4 : decode cX8_turnedLetter 4 = .ok (.iaload, 1) := by decide +kernel
theorem dX8_turnedLetter_5 : decode cX8_turnedLetter 5 = .ok (.invokestatic 322, 3) := by decide +kernel
theorem dX8_turnedLetter_8 : decode cX8_turnedLetter 8 = .ok (.getstatic 86, 3) := by decide +kernel
theorem dX8_turnedLetter_11 : decode cX8_turnedLetter 11 = .ok (.iload_n 0, 1) := by decide +kernel
theorem dX8_turnedLetter_12 : decode cX8_turnedLetter 12 = .ok (.iaload, 1) := by decide +kernel
theorem dX8_turnedLetter_13 : decode cX8_turnedLetter 13 = .ok (.invokestatic 322, 3) := by decide +kernel
theorem dX8_turnedLetter_16 : decode cX8_turnedLetter 16 = .ok (.invokestatic 97, 3) := by decide +kernel
theorem dX8_turnedLetter_19 : decode cX8_turnedLetter 19 = .ok (.istore_n 1, 1) := by decide +kernel
theorem dX8_turnedLetter_20 : decode cX8_turnedLetter 20 = .ok (.iload_n 1, 1) := by decide +kernel
theorem dX8_turnedLetter_21 : decode cX8_turnedLetter 21 = .ok (.invokestatic 78, 3) := by decide +kernel
theorem dX8_turnedLetter_24 : decode cX8_turnedLetter 24 = .ok (.ifCond .eq 7, 3) := by decide +kernel
theorem dX8_turnedLetter_27 : decode cX8_turnedLetter 27 = .ok (.iload_n 1, 1) := by decide +kernel
theorem dX8_turnedLetter_28 : decode cX8_turnedLetter 28 = .ok (.goto 5, 3) := by decide +kernel
theorem dX8_turnedLetter_31 : decode cX8_turnedLetter 31 = .ok (.bipush (-4), 2) := by decide +kernel
theorem dX8_turnedLetter_33 : decode cX8_turnedLetter 33 = .ok (.ireturn, 1) := by decide +kernel
