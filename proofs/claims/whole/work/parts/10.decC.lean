theorem dX9_in_0 : decode cX9_in 0 = .ok (.lload_n 0, 1) := by decide +kernel
theorem dX9_in_1 : decode cX9_in 1 = .ok (.lload_n 2, 1) := by decide +kernel
theorem dX9_in_2 : decode cX9_in 2 = .ok (.lcmp, 1) := by decide +kernel
theorem dX9_in_3 : decode cX9_in 3 = .ok (.ifCond .lt 14, 3) := by decide +kernel
theorem dX9_in_6 : decode cX9_in 6 = .ok (.lload_n 0, 1) := by decide +kernel
theorem dX9_in_7 : decode cX9_in 7 = .ok (.lload 4, 2) := by decide +kernel
theorem dX9_in_9 : decode cX9_in 9 = .ok (.lcmp, 1) := by decide +kernel
theorem dX9_in_10 : decode cX9_in 10 = .ok (.ifCond .gt 7, 3) := by decide +kernel
theorem dX9_in_13 : decode cX9_in 13 = .ok (.iconst 1, 1) := by decide +kernel
theorem dX9_in_14 : decode cX9_in 14 = .ok (.goto 4, 3) := by decide +kernel
theorem dX9_in_17 : decode cX9_in 17 = .ok (.iconst 0, 1) := by decide +kernel
theorem dX9_in_18 : decode cX9_in 18 = .ok (.ireturn, 1) := by decide +kernel
theorem dX9_steps_0 : decode cX9_steps 0 = .ok (.iload_n 0, 1) := by decide +kernel
theorem dX9_steps_1 : decode cX9_steps 1 = .ok (.iload_n 1, 1) := by decide +kernel
theorem dX9_steps_2 : decode cX9_steps 2 = .ok (.if_icmp .le 9, 3) := by decide +kernel
theorem dX9_steps_5 : decode cX9_steps 5 = .ok (.iload_n 0, 1) := by decide +kernel
theorem dX9_steps_6 : decode cX9_steps 6 = .ok (.iload_n 1, 1) := by decide +kernel
theorem dX9_steps_7 : decode cX9_steps 7 = .ok (.isub, 1) := by decide +kernel
theorem dX9_steps_8 : decode cX9_steps 8 = .ok (.goto 6, 3) := by decide +kernel
theorem dX9_steps_11 : decode cX9_steps 11 = .ok (.iload_n 1, 1) := by decide +kernel
theorem dX9_steps_12 : decode cX9_steps 12 = .ok (.iload_n 0, 1) := by decide +kernel
theorem dX9_steps_13 : decode cX9_steps 13 = .ok (.isub, 1) := by decide +kernel
theorem dX9_steps_14 : decode cX9_steps 14 = .ok (.istore_n 2, 1) := by decide +kernel
theorem dX9_steps_15 : decode cX9_steps 15 = .ok (.iload_n 2, 1) := by decide +kernel
theorem dX9_steps_16 : decode cX9_steps 16 = .ok (.iconst 4, 1) := by decide +kernel
theorem dX9_steps_17 : decode cX9_steps 17 = .ok (.if_icmp .le 10, 3) := by decide +kernel
theorem dX9_steps_20 : decode cX9_steps 20 = .ok (.bipush 8, 2) := by decide +kernel
theorem dX9_steps_22 : decode cX9_steps 22 = .ok (.iload_n 2, 1) := by decide +kernel
theorem dX9_steps_23 : decode cX9_steps 23 = .ok (.isub, 1) := by decide +kernel
theorem dX9_steps_24 : decode cX9_steps 24 = .ok (.goto 4, 3) := by decide +kernel
theorem dX9_steps_27 : decode cX9_steps 27 = .ok (.iload_n 2, 1) := by decide +kernel
theorem dX9_steps_28 : decode cX9_steps 28 = .ok (.ireturn, 1) := by decide +kernel
theorem dX9_signOf_0 : decode cX9_signOf 0 = .ok (.bipush (-4), 2) := by decide +kernel
theorem dX9_signOf_2 : decode cX9_signOf 2 = .ok (.istore_n 3, 1) := by decide +kernel
theorem dX9_signOf_3 : decode cX9_signOf 3 = .ok (.iconst 0, 1) := by decide +kernel
theorem dX9_signOf_4 : decode cX9_signOf 4 = .ok (.istore 4, 2) := by decide +kernel
theorem dX9_signOf_6 : decode cX9_signOf 6 = .ok (.iload 4, 2) := by decide +kernel
theorem dX9_signOf_8 : decode cX9_signOf 8 = .ok (.bipush 26, 2) := by decide +kernel
theorem dX9_signOf_10 : decode cX9_signOf 10 = .ok (.if_icmp .gt 51, 3) := by decide +kernel
theorem dX9_signOf_13 : decode cX9_signOf 13 = .ok (.aload_n 0, 1) := by decide +kernel
theorem dX9_signOf_14 : decode cX9_signOf 14 = .ok (.getfield 7, 3) := by decide +kernel
theorem dX9_signOf_17 : decode cX9_signOf 17 = .ok (.iload 4, 2) := by decide +kernel
theorem dX9_signOf_19 : decode cX9_signOf 19 = .ok (.iaload, 1) := by decide +kernel
theorem dX9_signOf_20 : decode cX9_signOf 20 = .ok (.iload_n 1, 1) := by decide +kernel
theorem dX9_signOf_21 : decode cX9_signOf 21 = .ok (.iload_n 2, 1) := by decide +kernel
theorem dX9_signOf_22 : decode cX9_signOf 22 = .ok (.if_icmp .ge 12, 3) := by decide +kernel
theorem dX9_signOf_25 : decode cX9_signOf 25 = .ok (.bipush 10, 2) := by decide +kernel
theorem dX9_signOf_27 : decode cX9_signOf 27 = .ok (.iload_n 1, 1) := by decide +kernel
theorem dX9_signOf_28 : decode cX9_signOf 28 = .ok (.imul, 1) := by decide +kernel
theorem dX9_signOf_29 : decode cX9_signOf 29 = .ok (.iload_n 2, 1) := by decide +kernel
theorem dX9_signOf_30 : decode cX9_signOf 30 = .ok (.iadd, 1) := by decide +kernel
theorem dX9_signOf_31 : decode cX9_signOf 31 = .ok (.goto 9, 3) := by decide +kernel
theorem dX9_signOf_34 : decode cX9_signOf 34 = .ok (.bipush 10, 2) := by decide +kernel
theorem dX9_signOf_36 : decode cX9_signOf 36 = .ok (.iload_n 2, 1) := by decide +kernel
theorem dX9_signOf_37 : decode cX9_signOf 37 = .ok (.imul, 1) := by decide +kernel
theorem dX9_signOf_38 : decode cX9_signOf 38 = .ok (.iload_n 1, 1) := by decide +kernel
theorem dX9_signOf_39 : decode cX9_signOf 39 = .ok (.iadd, 1) := by decide +kernel
theorem dX9_signOf_40 : decode cX9_signOf 40 = .ok (.if_icmp .ne 13, 3) := by decide +kernel
theorem dX9_signOf_43 : decode cX9_signOf 43 = .ok (.iload_n 1, 1) := by decide +kernel
theorem dX9_signOf_44 : decode cX9_signOf 44 = .ok (.iload_n 2, 1) := by decide +kernel
theorem dX9_signOf_45 : decode cX9_signOf 45 = .ok (.if_icmp .eq 8, 3) := by decide +kernel
theorem dX9_signOf_48 : decode cX9_signOf 48 = .ok (.iload 4, 2) := by decide +kernel
theorem dX9_signOf_50 : decode cX9_signOf 50 = .ok (.goto 4, 3) := by decide +kernel
theorem dX9_signOf_53 : decode cX9_signOf 53 = .ok (.iload_n 3, 1) := by decide +kernel
theorem dX9_signOf_54 : decode cX9_signOf 54 = .ok (.istore_n 3, 1) := by decide +kernel
theorem dX9_signOf_55 : decode cX9_signOf 55 = .ok (.iinc 4 1, 3) := by decide +kernel
theorem dX9_signOf_58 : decode cX9_signOf 58 = .ok (.goto (-52), 3) := by decide +kernel
theorem dX9_signOf_61 : decode cX9_signOf 61 = .ok (.iload_n 3, 1) := by decide +kernel
theorem dX9_signOf_62 : decode cX9_signOf 62 = .ok (.ireturn, 1) := by decide +kernel
theorem dX9_letterOf_0 : decode cX9_letterOf 0 = .ok (.aload_n 0, 1) := by decide +kernel
theorem dX9_letterOf_1 : decode cX9_letterOf 1 = .ok (.iload_n 1, 1) := by decide +kernel
theorem dX9_letterOf_2 : decode cX9_letterOf 2 = .ok (.iload_n 2, 1) := by decide +kernel
theorem dX9_letterOf_3 : decode cX9_letterOf 3 = .ok (.invokevirtual 57, 3) := by decide +kernel
theorem dX9_letterOf_6 : decode cX9_letterOf 6 = .ok (.istore_n 3, 1) := by decide +kernel
theorem dX9_letterOf_7 : decode cX9_letterOf 7 = .ok (.iload_n 3, 1) := by decide +kernel
theorem dX9_letterOf_8 : decode cX9_letterOf 8 = .ok (.bipush 26, 2) := by decide +kernel
theorem dX9_letterOf_10 : decode cX9_letterOf 10 = .ok (.if_icmp .ne 8, 3) := by decide +kernel
theorem dX9_letterOf_13 : decode cX9_letterOf 13 = .ok (.bipush (-4), 2) := by decide +kernel
theorem dX9_letterOf_15 : decode cX9_letterOf 15 = .ok (.goto 4, 3) := by decide +kernel
theorem dX9_letterOf_18 : decode cX9_letterOf 18 = .ok (.iload_n 3, 1) := by decide +kernel
theorem dX9_letterOf_19 : decode cX9_letterOf 19 = .ok (.ireturn, 1) := by decide +kernel
theorem dX9_low_0 : decode cX9_low 0 = .ok (.aload_n 0, 1) := by decide +kernel
theorem dX9_low_1 : decode cX9_low 1 = .ok (.getfield 7, 3) := by decide +kernel
theorem dX9_low_4 : decode cX9_low 4 = .ok (.iload_n 1, 1) := by decide +kernel
theorem dX9_low_5 : decode cX9_low 5 = .ok (.iaload, 1) := by decide +kernel
theorem dX9_low_6 : decode cX9_low 6 = .ok (.bipush 10, 2) := by decide +kernel
theorem dX9_low_8 : decode cX9_low 8 = .ok (.idiv, 1) := by decide +kernel
theorem dX9_low_9 : decode cX9_low 9 = .ok (.ireturn, 1) := by decide +kernel
theorem dX9_high_0 : decode cX9_high 0 = .ok (.aload_n 0, 1) := by decide +kernel
theorem dX9_high_1 : decode cX9_high 1 = .ok (.getfield 7, 3) := by decide +kernel
theorem dX9_high_4 : decode cX9_high 4 = .ok (.iload_n 1, 1) := by decide +kernel
theorem dX9_high_5 : decode cX9_high 5 = .ok (.iaload, 1) := by decide +kernel
theorem dX9_high_6 : decode cX9_high 6 = .ok (.bipush 10, 2) := by decide +kernel
theorem dX9_high_8 : decode cX9_high 8 = .ok (.irem, 1) := by decide +kernel
theorem dX9_high_9 : decode cX9_high 9 = .ok (.ireturn, 1) := by decide +kernel
theorem dX9_turnedOf_0 : decode cX9_turnedOf 0 = .ok (.aload_n 0, 1) := by decide +kernel
theorem dX9_turnedOf_1 : decode cX9_turnedOf 1 = .ok (.bipush 8, 2) := by decide +kernel
theorem dX9_turnedOf_3 : decode cX9_turnedOf 3 = .ok (.aload_n 0, 1) := by decide +kernel
theorem dX9_turnedOf_4 : decode cX9_turnedOf 4 = .ok (.iload_n 1, 1) := by decide +kernel
theorem dX9_turnedOf_5 : decode cX9_turnedOf 5 = .ok (.invokevirtual 61, 3) := by decide +kernel
theorem dX9_turnedOf_8 : decode cX9_turnedOf 8 = .ok (.isub, 1) := by decide +kernel
theorem dX9_turnedOf_9 : decode cX9_turnedOf 9 = .ok (.bipush 8, 2) := by decide +kernel
theorem dX9_turnedOf_11 : decode cX9_turnedOf 11 = .ok (.irem, 1) := by decide +kernel
theorem dX9_turnedOf_12 : decode cX9_turnedOf 12 = .ok (.bipush 8, 2) := by decide +kernel
theorem dX9_turnedOf_14 : decode cX9_turnedOf 14 = .ok (.aload_n 0, 1) := by decide +kernel
theorem dX9_turnedOf_15 : decode cX9_turnedOf 15 = .ok (.iload_n 1, 1) := by decide +kernel
theorem dX9_turnedOf_16 : decode cX9_turnedOf 16 = .ok (.invokevirtual 65, 3) := by decide +kernel
theorem dX9_turnedOf_19 : decode cX9_turnedOf 19 = .ok (.isub, 1) := by decide +kernel
theorem dX9_turnedOf_20 : decode cX9_turnedOf 20 = .ok (.bipush 8, 2) := by decide +kernel
theorem dX9_turnedOf_22 : decode cX9_turnedOf 22 = .ok (.irem, 1) := by decide +kernel
theorem dX9_turnedOf_23 : decode cX9_turnedOf 23 = .ok (.invokevirtual 68, 3) := by decide +kernel
theorem dX9_turnedOf_26 : decode cX9_turnedOf 26 = .ok (.ireturn, 1) := by decide +kernel
theorem dX9_apartOf_0 : decode cX9_apartOf 0 = .ok (.iload_n 0, 1) := by decide +kernel
theorem dX9_apartOf_1 : decode cX9_apartOf 1 = .ok (.iload_n 2, 1) := by decide +kernel
theorem dX9_apartOf_2 : decode cX9_apartOf 2 = .ok (.invokestatic 71, 3) := by decide +kernel
theorem dX9_apartOf_5 : decode cX9_apartOf 5 = .ok (.iload_n 1, 1) := by decide +kernel
theorem dX9_apartOf_6 : decode cX9_apartOf 6 = .ok (.iload_n 3, 1) := by decide +kernel
theorem dX9_apartOf_7 : decode cX9_apartOf 7 = .ok (.invokestatic 71, 3) := by decide +kernel
theorem dX9_apartOf_10 : decode cX9_apartOf 10 = .ok (.iadd, 1) := by decide +kernel
theorem dX9_apartOf_11 : decode cX9_apartOf 11 = .ok (.istore 4, 2) := by decide +kernel
theorem dX9_apartOf_13 : decode cX9_apartOf 13 = .ok (.iload_n 0, 1) := by decide +kernel
theorem dX9_apartOf_14 : decode cX9_apartOf 14 = .ok (.iload_n 3, 1) := by decide +kernel
theorem dX9_apartOf_15 : decode cX9_apartOf 15 = .ok (.invokestatic 71, 3) := by decide +kernel
theorem dX9_apartOf_18 : decode cX9_apartOf 18 = .ok (.iload_n 1, 1) := by decide +kernel
theorem dX9_apartOf_19 : decode cX9_apartOf 19 = .ok (.iload_n 2, 1) := by decide +kernel
theorem dX9_apartOf_20 : decode cX9_apartOf 20 = .ok (.invokestatic 71, 3) := by decide +kernel
theorem dX9_apartOf_23 : decode cX9_apartOf 23 = .ok (.iadd, 1) := by decide +kernel
theorem dX9_apartOf_24 : decode cX9_apartOf 24 = .ok (.istore 5, 2) := by decide +kernel
theorem dX9_apartOf_26 : decode cX9_apartOf 26 = .ok (.iload 4, 2) := by decide +kernel
theorem dX9_apartOf_28 : decode cX9_apartOf 28 = .ok (.iload 5, 2) := by decide +kernel
theorem dX9_apartOf_30 : decode cX9_apartOf 30 = .ok (.if_icmp .ge 8, 3) := by decide +kernel
theorem dX9_apartOf_33 : decode cX9_apartOf 33 = .ok (.iload 4, 2) := by decide +kernel
theorem dX9_apartOf_35 : decode cX9_apartOf 35 = .ok (.goto 5, 3) := by decide +kernel
theorem dX9_apartOf_38 : decode cX9_apartOf 38 = .ok (.iload 5, 2) := by decide +kernel
theorem dX9_apartOf_40 : decode cX9_apartOf 40 = .ok (.ireturn, 1) := by decide +kernel
theorem dX9_sign_0 : decode cX9_sign 0 = .ok (.iload_n 1, 1) := by decide +kernel
theorem dX9_sign_1 : decode cX9_sign 1 = .ok (.i2l, 1) := by decide +kernel
theorem dX9_sign_2 : decode cX9_sign 2 = .ok (.lconst 0, 1) := by decide +kernel
theorem dX9_sign_3 : decode cX9_sign 3 = .ok (.ldc2_w 74, 3) := by decide +kernel
theorem dX9_sign_6 : decode cX9_sign 6 = .ok (.invokestatic 76, 3) := by decide +kernel
theorem dX9_sign_9 : decode cX9_sign 9 = .ok (.ifCond .ne 5, 3) := by decide +kernel
theorem dX9_sign_12 : decode cX9_sign 12 = .ok (.iconst (-1), 1) := by decide +kernel
theorem dX9_sign_13 : decode cX9_sign 13 = .ok (.ireturn, 1) := by decide +kernel
theorem dX9_sign_14 : decode cX9_sign 14 = .ok (.iload_n 2, 1) := by decide +kernel
theorem dX9_sign_15 : decode cX9_sign 15 = .ok (.ifCond .ne 11, 3) := by decide +kernel
theorem dX9_sign_18 : decode cX9_sign 18 = .ok (.aload_n 0, 1) := by decide +kernel
theorem dX9_sign_19 : decode cX9_sign 19 = .ok (.iload_n 1, 1) := by decide +kernel
theorem dX9_sign_20 : decode cX9_sign 20 = .ok (.invokevirtual 61, 3) := by decide +kernel
theorem dX9_sign_23 : decode cX9_sign 23 = .ok (.goto 30, 3) := by decide +kernel
theorem dX9_sign_26 : decode cX9_sign 26 = .ok (.iload_n 2, 1) := by decide +kernel
theorem dX9_sign_27 : decode cX9_sign 27 = .ok (.iconst 1, 1) := by decide +kernel
theorem dX9_sign_28 : decode cX9_sign 28 = .ok (.if_icmp .ne 11, 3) := by decide +kernel
theorem dX9_sign_31 : decode cX9_sign 31 = .ok (.aload_n 0, 1) := by decide +kernel
theorem dX9_sign_32 : decode cX9_sign 32 = .ok (.iload_n 1, 1) := by decide +kernel
theorem dX9_sign_33 : decode cX9_sign 33 = .ok (.invokevirtual 65, 3) := by decide +kernel
theorem dX9_sign_36 : decode cX9_sign 36 = .ok (.goto 17, 3) := by decide +kernel
theorem dX9_sign_39 : decode cX9_sign 39 = .ok (.iload_n 2, 1) := by decide +kernel
theorem dX9_sign_40 : decode cX9_sign 40 = .ok (.iconst 2, 1) := by decide +kernel
theorem dX9_sign_41 : decode cX9_sign 41 = .ok (.if_icmp .ne 11, 3) := by decide +kernel
theorem dX9_sign_44 : decode cX9_sign 44 = .ok (.aload_n 0, 1) := by decide +kernel
theorem dX9_sign_45 : decode cX9_sign 45 = .ok (.iload_n 1, 1) := by decide +kernel
theorem dX9_sign_46 : decode cX9_sign 46 = .ok (.invokevirtual 80, 3) := by decide +kernel
theorem dX9_sign_49 : decode cX9_sign 49 = .ok (.goto 4, 3) := by decide +kernel
theorem dX9_sign_52 : decode cX9_sign 52 = .ok (.iconst (-1), 1) := by decide +kernel
theorem dX9_sign_53 : decode cX9_sign 53 = .ok (.ireturn, 1) := by decide +kernel
theorem dX9_letter_0 : decode cX9_letter 0 = .ok (.iload_n 1, 1) := by decide +kernel
theorem dX9_letter_1 : decode cX9_letter 1 = .ok (.i2l, 1) := by decide +kernel
theorem dX9_letter_2 : decode cX9_letter 2 = .ok (.lconst 0, 1) := by decide +kernel
theorem dX9_letter_3 : decode cX9_letter 3 = .ok (.ldc2_w 83, 3) := by decide +kernel
theorem dX9_letter_6 : decode cX9_letter 6 = .ok (.invokestatic 76, 3) := by decide +kernel
theorem dX9_letter_9 : decode cX9_letter 9 = .ok (.ifCond .eq 24, 3) := by decide +kernel
theorem dX9_letter_12 : decode cX9_letter 12 = .ok (.iload_n 2, 1) := by decide +kernel
theorem dX9_letter_13 : decode cX9_letter 13 = .ok (.i2l, 1) := by decide +kernel
theorem dX9_letter_14 : decode cX9_letter 14 = .ok (.lconst 0, 1) := by decide +kernel
theorem dX9_letter_15 : decode cX9_letter 15 = .ok (.ldc2_w 83, 3) := by decide +kernel
theorem dX9_letter_18 : decode cX9_letter 18 = .ok (.invokestatic 76, 3) := by decide +kernel
theorem dX9_letter_21 : decode cX9_letter 21 = .ok (.ifCond .eq 12, 3) := by decide +kernel
theorem dX9_letter_24 : decode cX9_letter 24 = .ok (.aload_n 0, 1) := by decide +kernel
theorem dX9_letter_25 : decode cX9_letter 25 = .ok (.iload_n 1, 1) := by decide +kernel
theorem dX9_letter_26 : decode cX9_letter 26 = .ok (.iload_n 2, 1) := by decide +kernel
theorem dX9_letter_27 : decode cX9_letter 27 = .ok (.invokevirtual 57, 3) := by decide +kernel
theorem dX9_letter_30 : decode cX9_letter 30 = .ok (.goto 4, 3) := by decide +kernel
theorem dX9_letter_33 : decode cX9_letter 33 = .ok (.iconst (-1), 1) := by decide +kernel
theorem dX9_letter_34 : decode cX9_letter 34 = .ok (.ireturn, 1) := by decide +kernel
theorem dX9_apart_0 : decode cX9_apart 0 = .ok (.iload_n 1, 1) := by decide +kernel
theorem dX9_apart_1 : decode cX9_apart 1 = .ok (.i2l, 1) := by decide +kernel
theorem dX9_apart_2 : decode cX9_apart 2 = .ok (.lconst 0, 1) := by decide +kernel
theorem dX9_apart_3 : decode cX9_apart 3 = .ok (.ldc2_w 85, 3) := by decide +kernel
theorem dX9_apart_6 : decode cX9_apart 6 = .ok (.invokestatic 76, 3) := by decide +kernel
theorem dX9_apart_9 : decode cX9_apart 9 = .ok (.ifCond .eq 41, 3) := by decide +kernel
theorem dX9_apart_12 : decode cX9_apart 12 = .ok (.iload_n 2, 1) := by decide +kernel
theorem dX9_apart_13 : decode cX9_apart 13 = .ok (.i2l, 1) := by decide +kernel
theorem dX9_apart_14 : decode cX9_apart 14 = .ok (.lconst 0, 1) := by decide +kernel
theorem dX9_apart_15 : decode cX9_apart 15 = .ok (.ldc2_w 85, 3) := by decide +kernel
theorem dX9_apart_18 : decode cX9_apart 18 = .ok (.invokestatic 76, 3) := by decide +kernel
theorem dX9_apart_21 : decode cX9_apart 21 = .ok (.ifCond .eq 29, 3) := by decide +kernel
theorem dX9_apart_24 : decode cX9_apart 24 = .ok (.aload_n 0, 1) := by decide +kernel
theorem dX9_apart_25 : decode cX9_apart 25 = .ok (.iload_n 1, 1) := by decide +kernel
theorem dX9_apart_26 : decode cX9_apart 26 = .ok (.invokevirtual 61, 3) := by decide +kernel
theorem dX9_apart_29 : decode cX9_apart 29 = .ok (.aload_n 0, 1) := by decide +kernel
theorem dX9_apart_30 : decode cX9_apart 30 = .ok (.iload_n 1, 1) := by decide +kernel
theorem dX9_apart_31 : decode cX9_apart 31 = .ok (.invokevirtual 65, 3) := by decide +kernel
theorem dX9_apart_34 : decode cX9_apart 34 = .ok (.aload_n 0, 1) := by decide +kernel
theorem dX9_apart_35 : decode cX9_apart 35 = .ok (.iload_n 2, 1) := by decide +kernel
theorem dX9_apart_36 : decode cX9_apart 36 = .ok (.invokevirtual 61, 3) := by decide +kernel
theorem dX9_apart_39 : decode cX9_apart 39 = .ok (.aload_n 0, 1) := by decide +kernel
theorem dX9_apart_40 : decode cX9_apart 40 = .ok (.iload_n 2, 1) := by decide +kernel
theorem dX9_apart_41 : decode cX9_apart 41 = .ok (.invokevirtual 65, 3) := by decide +kernel
theorem dX9_apart_44 : decode cX9_apart 44 = .ok (.invokestatic 87, 3) := by decide +kernel
theorem dX9_apart_47 : decode cX9_apart 47 = .ok (.goto 4, 3) := by decide +kernel
theorem dX9_apart_50 : decode cX9_apart 50 = .ok (.iconst (-1), 1) := by decide +kernel
theorem dX9_apart_51 : decode cX9_apart 51 = .ok (.ireturn, 1) := by decide +kernel
theorem dX9_at_0 : decode cX9_at 0 = .ok (.aload_n 0, 1) := by decide +kernel
theorem dX9_at_1 : decode cX9_at 1 = .ok (.getfield 13, 3) := by decide +kernel
theorem dX9_at_4 : decode cX9_at 4 = .ok (.iconst 5, 1) := by decide +kernel
theorem dX9_at_5 : decode cX9_at 5 = .ok (.iload_n 1, 1) := by decide +kernel
theorem dX9_at_6 : decode cX9_at 6 = .ok (.iadd, 1) := by decide +kernel
theorem dX9_at_7 : decode cX9_at 7 = .ok (.iaload, 1) := by decide +kernel
theorem dX9_at_8 : decode cX9_at 8 = .ok (.ireturn, 1) := by decide +kernel
theorem dX9_sizeOf_0 : decode cX9_sizeOf 0 = .ok (.aload_n 0, 1) := by decide +kernel
theorem dX9_sizeOf_1 : decode cX9_sizeOf 1 = .ok (.getfield 13, 3) := by decide +kernel
theorem dX9_sizeOf_4 : decode cX9_sizeOf 4 = .ok (.bipush 17, 2) := by decide +kernel
theorem dX9_sizeOf_6 : decode cX9_sizeOf 6 = .ok (.bipush 7, 2) := by decide +kernel
theorem dX9_sizeOf_8 : decode cX9_sizeOf 8 = .ok (.iload_n 1, 1) := by decide +kernel
theorem dX9_sizeOf_9 : decode cX9_sizeOf 9 = .ok (.imul, 1) := by decide +kernel
theorem dX9_sizeOf_10 : decode cX9_sizeOf 10 = .ok (.iadd, 1) := by decide +kernel
theorem dX9_sizeOf_11 : decode cX9_sizeOf 11 = .ok (.iaload, 1) := by decide +kernel
theorem dX9_sizeOf_12 : decode cX9_sizeOf 12 = .ok (.ireturn, 1) := by decide +kernel
theorem dX9_ofWord_0 : decode cX9_ofWord 0 = .ok (.aload_n 0, 1) := by decide +kernel
theorem dX9_ofWord_1 : decode cX9_ofWord 1 = .ok (.getfield 13, 3) := by decide +kernel
theorem dX9_ofWord_4 : decode cX9_ofWord 4 = .ok (.bipush 17, 2) := by decide +kernel
theorem dX9_ofWord_6 : decode cX9_ofWord 6 = .ok (.bipush 7, 2) := by decide +kernel
theorem dX9_ofWord_8 : decode cX9_ofWord 8 = .ok (.iload_n 1, 1) := by decide +kernel
theorem dX9_ofWord_9 : decode cX9_ofWord 9 = .ok (.imul, 1) := by decide +kernel
theorem dX9_ofWord_10 : decode cX9_ofWord 10 = .ok (.iadd, 1) := by decide +kernel
theorem dX9_ofWord_11 : decode cX9_ofWord 11 = .ok (.iconst 1, 1) := by decide +kernel
theorem dX9_ofWord_12 : decode cX9_ofWord 12 = .ok (.iadd, 1) := by decide +kernel
theorem dX9_ofWord_13 : decode cX9_ofWord 13 = .ok (.iload_n 2, 1) := by decide +kernel
theorem dX9_ofWord_14 : decode cX9_ofWord 14 = .ok (.iadd, 1) := by decide +kernel
theorem dX9_ofWord_15 : decode cX9_ofWord 15 = .ok (.iaload, 1) := by decide +kernel
theorem dX9_ofWord_16 : decode cX9_ofWord 16 = .ok (.ireturn, 1) := by decide +kernel
theorem dX9_isWord_0 : decode cX9_isWord 0 = .ok (.iload_n 1, 1) := by decide +kernel
theorem dX9_isWord_1 : decode cX9_isWord 1 = .ok (.i2l, 1) := by decide +kernel
theorem dX9_isWord_2 : decode cX9_isWord 2 = .ok (.lconst 0, 1) := by decide +kernel
theorem dX9_isWord_3 : decode cX9_isWord 3 = .ok (.aload_n 0, 1) := by decide +kernel
theorem dX9_isWord_4 : decode cX9_isWord 4 = .ok (.getfield 13, 3) := by decide +kernel
theorem dX9_isWord_7 : decode cX9_isWord 7 = .ok (.iconst 1, 1) := by decide +kernel
theorem dX9_isWord_8 : decode cX9_isWord 8 = .ok (.iaload, 1) := by decide +kernel
theorem dX9_isWord_9 : decode cX9_isWord 9 = .ok (.iconst 1, 1) := by decide +kernel
theorem dX9_isWord_10 : decode cX9_isWord 10 = .ok (.isub, 1) := by decide +kernel
theorem dX9_isWord_11 : decode cX9_isWord 11 = .ok (.i2l, 1) := by decide +kernel
theorem dX9_isWord_12 : decode cX9_isWord 12 = .ok (.invokestatic 76, 3) := by decide +kernel
theorem dX9_isWord_15 : decode cX9_isWord 15 = .ok (.ireturn, 1) := by decide +kernel
theorem dX9_says_0 : decode cX9_says 0 = .ok (.iload_n 1, 1) := by decide +kernel
theorem dX9_says_1 : decode cX9_says 1 = .ok (.i2l, 1) := by decide +kernel
theorem dX9_says_2 : decode cX9_says 2 = .ok (.lconst 0, 1) := by decide +kernel
theorem dX9_says_3 : decode cX9_says 3 = .ok (.ldc2_w 74, 3) := by decide +kernel
theorem dX9_says_6 : decode cX9_says 6 = .ok (.invokestatic 76, 3) := by decide +kernel
theorem dX9_says_9 : decode cX9_says 9 = .ok (.ifCond .ne 5, 3) := by decide +kernel
theorem dX9_says_12 : decode cX9_says 12 = .ok (.iconst (-1), 1) := by decide +kernel
theorem dX9_says_13 : decode cX9_says 13 = .ok (.ireturn, 1) := by decide +kernel
theorem dX9_says_14 : decode cX9_says 14 = .ok (.aload_n 0, 1) := by decide +kernel
theorem dX9_says_15 : decode cX9_says 15 = .ok (.getfield 13, 3) := by decide +kernel
theorem dX9_says_18 : decode cX9_says 18 = .ok (.iconst 0, 1) := by decide +kernel
theorem dX9_says_19 : decode cX9_says 19 = .ok (.iaload, 1) := by decide +kernel
theorem dX9_says_20 : decode cX9_says 20 = .ok (.bipush 12, 2) := by decide +kernel
theorem dX9_says_22 : decode cX9_says 22 = .ok (.if_icmp .ne 6, 3) := by decide +kernel
theorem dX9_says_25 : decode cX9_says 25 = .ok (.bipush (-3), 2) := by decide +kernel
theorem dX9_says_27 : decode cX9_says 27 = .ok (.ireturn, 1) := by decide +kernel
theorem dX9_says_28 : decode cX9_says 28 = .ok (.aload_n 0, 1) := by decide +kernel
theorem dX9_says_29 : decode cX9_says 29 = .ok (.getfield 13, 3) := by decide +kernel
theorem dX9_says_32 : decode cX9_says 32 = .ok (.iconst 5, 1) := by decide +kernel
theorem dX9_says_33 : decode cX9_says 33 = .ok (.aload_n 0, 1) := by decide +kernel
theorem dX9_says_34 : decode cX9_says 34 = .ok (.getfield 13, 3) := by decide +kernel
theorem dX9_says_37 : decode cX9_says 37 = .ok (.iconst 0, 1) := by decide +kernel
theorem dX9_says_38 : decode cX9_says 38 = .ok (.iaload, 1) := by decide +kernel
theorem dX9_says_39 : decode cX9_says 39 = .ok (.iadd, 1) := by decide +kernel
theorem dX9_says_40 : decode cX9_says 40 = .ok (.iload_n 1, 1) := by decide +kernel
theorem dX9_says_41 : decode cX9_says 41 = .ok (.iastore, 1) := by decide +kernel
theorem dX9_says_42 : decode cX9_says 42 = .ok (.aload_n 0, 1) := by decide +kernel
theorem dX9_says_43 : decode cX9_says 43 = .ok (.getfield 13, 3) := by decide +kernel
theorem dX9_says_46 : decode cX9_says 46 = .ok (.iconst 0, 1) := by decide +kernel
theorem dX9_says_47 : decode cX9_says 47 = .ok (.dup2, 1) := by decide +kernel
theorem dX9_says_48 : decode cX9_says 48 = .ok (.iaload, 1) := by decide +kernel
theorem dX9_says_49 : decode cX9_says 49 = .ok (.iconst 1, 1) := by decide +kernel
theorem dX9_says_50 : decode cX9_says 50 = .ok (.iadd, 1) := by decide +kernel
theorem dX9_says_51 : decode cX9_says 51 = .ok (.iastore, 1) := by decide +kernel
theorem dX9_says_52 : decode cX9_says 52 = .ok (.aload_n 0, 1) := by decide +kernel
theorem dX9_says_53 : decode cX9_says 53 = .ok (.getfield 13, 3) := by decide +kernel
theorem dX9_says_56 : decode cX9_says 56 = .ok (.iconst 0, 1) := by decide +kernel
theorem dX9_says_57 : decode cX9_says 57 = .ok (.iaload, 1) := by decide +kernel
theorem dX9_says_58 : decode cX9_says 58 = .ok (.ireturn, 1) := by decide +kernel
theorem dX9_takesBack_0 : decode cX9_takesBack 0 = .ok (.aload_n 0, 1) := by decide +kernel
theorem dX9_takesBack_1 : decode cX9_takesBack 1 = .ok (.getfield 13, 3) := by decide +kernel
theorem dX9_takesBack_4 : decode cX9_takesBack 4 = .ok (.iconst 0, 1) := by decide +kernel
theorem dX9_takesBack_5 : decode cX9_takesBack 5 = .ok (.iaload, 1) := by decide +kernel
theorem dX9_takesBack_6 : decode cX9_takesBack 6 = .ok (.ifCond .ne 6, 3) := by decide +kernel
theorem dX9_takesBack_9 : decode cX9_takesBack 9 = .ok (.bipush (-4), 2) := by decide +kernel
theorem dX9_takesBack_11 : decode cX9_takesBack 11 = .ok (.ireturn, 1) := by decide +kernel
theorem dX9_takesBack_12 : decode cX9_takesBack 12 = .ok (.aload_n 0, 1) := by decide +kernel
theorem dX9_takesBack_13 : decode cX9_takesBack 13 = .ok (.getfield 13, 3) := by decide +kernel
theorem dX9_takesBack_16 : decode cX9_takesBack 16 = .ok (.iconst 0, 1) := by decide +kernel
theorem dX9_takesBack_17 : decode cX9_takesBack 17 = .ok (.dup2, 1) := by decide +kernel
theorem dX9_takesBack_18 : decode cX9_takesBack 18 = .ok (.iaload, 1) := by decide +kernel
theorem dX9_takesBack_19 : decode cX9_takesBack 19 = .ok (.iconst 1, 1) := by decide +kernel
theorem dX9_takesBack_20 : decode cX9_takesBack 20 = .ok (.isub, 1) := by decide +kernel
theorem dX9_takesBack_21 : decode cX9_takesBack 21 = .ok (.iastore, 1) := by decide +kernel
theorem dX9_takesBack_22 : decode cX9_takesBack 22 = .ok (.aload_n 0, 1) := by decide +kernel
theorem dX9_takesBack_23 : decode cX9_takesBack 23 = .ok (.aload_n 0, 1) := by decide +kernel
theorem dX9_takesBack_24 : decode cX9_takesBack 24 = .ok (.getfield 13, 3) := by decide +kernel
theorem dX9_takesBack_27 : decode cX9_takesBack 27 = .ok (.iconst 0, 1) := by decide +kernel
theorem dX9_takesBack_28 : decode cX9_takesBack 28 = .ok (.iaload, 1) := by decide +kernel
theorem dX9_takesBack_29 : decode cX9_takesBack 29 = .ok (.invokevirtual 91, 3) := by decide +kernel
theorem dX9_takesBack_32 : decode cX9_takesBack 32 = .ok (.ireturn, 1) := by decide +kernel
theorem dX9_keeps_0 : decode cX9_keeps 0 = .ok (.aload_n 0, 1) := by decide +kernel
theorem dX9_keeps_1 : decode cX9_keeps 1 = .ok (.getfield 13, 3) := by decide +kernel
theorem dX9_keeps_4 : decode cX9_keeps 4 = .ok (.iconst 0, 1) := by decide +kernel
theorem dX9_keeps_5 : decode cX9_keeps 5 = .ok (.iaload, 1) := by decide +kernel
theorem dX9_keeps_6 : decode cX9_keeps 6 = .ok (.i2l, 1) := by decide +kernel
theorem dX9_keeps_7 : decode cX9_keeps 7 = .ok (.lconst 1, 1) := by decide +kernel
theorem dX9_keeps_8 : decode cX9_keeps 8 = .ok (.ldc2_w 94, 3) := by decide +kernel
theorem dX9_keeps_11 : decode cX9_keeps 11 = .ok (.invokestatic 76, 3) := by decide +kernel
theorem dX9_keeps_14 : decode cX9_keeps 14 = .ok (.ifCond .ne 6, 3) := by decide +kernel
theorem dX9_keeps_17 : decode cX9_keeps 17 = .ok (.bipush (-2), 2) := by decide +kernel
theorem dX9_keeps_19 : decode cX9_keeps 19 = .ok (.ireturn, 1) := by decide +kernel
theorem dX9_keeps_20 : decode cX9_keeps 20 = .ok (.aload_n 0, 1) := by decide +kernel
theorem dX9_keeps_21 : decode cX9_keeps 21 = .ok (.getfield 13, 3) := by decide +kernel
theorem dX9_keeps_24 : decode cX9_keeps 24 = .ok (.iconst 1, 1) := by decide +kernel
theorem dX9_keeps_25 : decode cX9_keeps 25 = .ok (.iaload, 1) := by decide +kernel
theorem dX9_keeps_26 : decode cX9_keeps 26 = .ok (.bipush 6, 2) := by decide +kernel
theorem dX9_keeps_28 : decode cX9_keeps 28 = .ok (.if_icmp .ne 6, 3) := by decide +kernel
theorem dX9_keeps_31 : decode cX9_keeps 31 = .ok (.bipush (-3), 2) := by decide +kernel
theorem dX9_keeps_33 : decode cX9_keeps 33 = .ok (.ireturn, 1) := by decide +kernel
theorem dX9_keeps_34 : decode cX9_keeps 34 = .ok (.bipush 17, 2) := by decide +kernel
theorem dX9_keeps_36 : decode cX9_keeps 36 = .ok (.bipush 7, 2) := by decide +kernel
theorem dX9_keeps_38 : decode cX9_keeps 38 = .ok (.aload_n 0, 1) := by decide +kernel
theorem dX9_keeps_39 : decode cX9_keeps 39 = .ok (.getfield 13, 3) := by decide +kernel
theorem dX9_keeps_42 : decode cX9_keeps 42 = .ok (.iconst 1, 1) := by decide +kernel
theorem dX9_keeps_43 : decode cX9_keeps 43 = .ok (.iaload, 1) := by decide +kernel
theorem dX9_keeps_44 : decode cX9_keeps 44 = .ok (.imul, 1) := by decide +kernel
theorem dX9_keeps_45 : decode cX9_keeps 45 = .ok (.iadd, 1) := by decide +kernel
theorem dX9_keeps_46 : decode cX9_keeps 46 = .ok (.istore_n 1, 1) := by decide +kernel
theorem dX9_keeps_47 : decode cX9_keeps 47 = .ok (.aload_n 0, 1) := by decide +kernel
theorem dX9_keeps_48 : decode cX9_keeps 48 = .ok (.getfield 13, 3) := by decide +kernel
theorem dX9_keeps_51 : decode cX9_keeps 51 = .ok (.iload_n 1, 1) := by decide +kernel
theorem dX9_keeps_52 : decode cX9_keeps 52 = .ok (.aload_n 0, 1) := by decide +kernel
theorem dX9_keeps_53 : decode cX9_keeps 53 = .ok (.getfield 13, 3) := by decide +kernel
theorem dX9_keeps_56 : decode cX9_keeps 56 = .ok (.iconst 0, 1) := by decide +kernel
theorem dX9_keeps_57 : decode cX9_keeps 57 = .ok (.iaload, 1) := by decide +kernel
theorem dX9_keeps_58 : decode cX9_keeps 58 = .ok (.iastore, 1) := by decide +kernel
theorem dX9_keeps_59 : decode cX9_keeps 59 = .ok (.iconst 0, 1) := by decide +kernel
theorem dX9_keeps_60 : decode cX9_keeps 60 = .ok (.istore_n 2, 1) := by decide +kernel
theorem dX9_keeps_61 : decode cX9_keeps 61 = .ok (.iload_n 2, 1) := by decide +kernel
theorem dX9_keeps_62 : decode cX9_keeps 62 = .ok (.bipush 6, 2) := by decide +kernel
theorem dX9_keeps_64 : decode cX9_keeps 64 = .ok (.if_icmp .ge 38, 3) := by decide +kernel
theorem dX9_keeps_67 : decode cX9_keeps 67 = .ok (.aload_n 0, 1) := by decide +kernel
theorem dX9_keeps_68 : decode cX9_keeps 68 = .ok (.getfield 13, 3) := by decide +kernel
theorem dX9_keeps_71 : decode cX9_keeps 71 = .ok (.iload_n 1, 1) := by decide +kernel
theorem dX9_keeps_72 : decode cX9_keeps 72 = .ok (.iconst 1, 1) := by decide +kernel
theorem dX9_keeps_73 : decode cX9_keeps 73 = .ok (.iadd, 1) := by decide +kernel
theorem dX9_keeps_74 : decode cX9_keeps 74 = .ok (.iload_n 2, 1) := by decide +kernel
theorem dX9_keeps_75 : decode cX9_keeps 75 = .ok (.iadd, 1) := by decide +kernel
theorem dX9_keeps_76 : decode cX9_keeps 76 = .ok (.iload_n 2, 1) := by decide +kernel
theorem dX9_keeps_77 : decode cX9_keeps 77 = .ok (.aload_n 0, 1) := by decide +kernel
theorem dX9_keeps_78 : decode cX9_keeps 78 = .ok (.getfield 13, 3) := by decide +kernel
theorem dX9_keeps_81 : decode cX9_keeps 81 = .ok (.iconst 0, 1) := by decide +kernel
theorem dX9_keeps_82 : decode cX9_keeps 82 = .ok (.iaload, 1) := by decide +kernel
theorem dX9_keeps_83 : decode cX9_keeps 83 = .ok (.if_icmp .ge 11, 3) := by decide +kernel
theorem dX9_keeps_86 : decode cX9_keeps 86 = .ok (.aload_n 0, 1) := by decide +kernel
theorem dX9_keeps_87 : decode cX9_keeps 87 = .ok (.iload_n 2, 1) := by decide +kernel
theorem dX9_keeps_88 : decode cX9_keeps 88 = .ok (.invokevirtual 91, 3) := by decide +kernel
theorem dX9_keeps_91 : decode cX9_keeps 91 = .ok (.goto 4, 3) := by decide +kernel
theorem dX9_keeps_94 : decode cX9_keeps 94 = .ok (.iconst 0, 1) := by decide +kernel
theorem dX9_keeps_95 : decode cX9_keeps 95 = .ok (.iastore, 1) := by decide +kernel
theorem dX9_keeps_96 : decode cX9_keeps 96 = .ok (.iinc 2 1, 3) := by decide +kernel
theorem dX9_keeps_99 : decode cX9_keeps 99 = .ok (.goto (-38), 3) := by decide +kernel
theorem dX9_keeps_102 : decode cX9_keeps 102 = .ok (.aload_n 0, 1) := by decide +kernel
theorem dX9_keeps_103 : decode cX9_keeps 103 = .ok (.getfield 13, 3) := by decide +kernel
theorem dX9_keeps_106 : decode cX9_keeps 106 = .ok (.iconst 1, 1) := by decide +kernel
theorem dX9_keeps_107 : decode cX9_keeps 107 = .ok (.dup2, 1) := by decide +kernel
theorem dX9_keeps_108 : decode cX9_keeps 108 = .ok (.iaload, 1) := by decide +kernel
theorem dX9_keeps_109 : decode cX9_keeps 109 = .ok (.iconst 1, 1) := by decide +kernel
theorem dX9_keeps_110 : decode cX9_keeps 110 = .ok (.iadd, 1) := by decide +kernel
theorem dX9_keeps_111 : decode cX9_keeps 111 = .ok (.iastore, 1) := by decide +kernel
theorem dX9_keeps_112 : decode cX9_keeps 112 = .ok (.aload_n 0, 1) := by decide +kernel
theorem dX9_keeps_113 : decode cX9_keeps 113 = .ok (.getfield 13, 3) := by decide +kernel
theorem dX9_keeps_116 : decode cX9_keeps 116 = .ok (.iconst 1, 1) := by decide +kernel
theorem dX9_keeps_117 : decode cX9_keeps 117 = .ok (.iaload, 1) := by decide +kernel
theorem dX9_keeps_118 : decode cX9_keeps 118 = .ok (.iconst 1, 1) := by decide +kernel
theorem dX9_keeps_119 : decode cX9_keeps 119 = .ok (.isub, 1) := by decide +kernel
theorem dX9_keeps_120 : decode cX9_keeps 120 = .ok (.ireturn, 1) := by decide +kernel
theorem dX9_loses_0 : decode cX9_loses 0 = .ok (.aload_n 0, 1) := by decide +kernel
theorem dX9_loses_1 : decode cX9_loses 1 = .ok (.iload_n 1, 1) := by decide +kernel
theorem dX9_loses_2 : decode cX9_loses 2 = .ok (.invokevirtual 96, 3) := by decide +kernel
theorem dX9_loses_5 : decode cX9_loses 5 = .ok (.ifCond .ne 5, 3) := by decide +kernel
theorem dX9_loses_8 : decode cX9_loses 8 = .ok (.iconst (-1), 1) := by decide +kernel
theorem dX9_loses_9 : decode cX9_loses 9 = .ok (.ireturn, 1) := by decide +kernel
theorem dX9_loses_10 : decode cX9_loses 10 = .ok (.aload_n 0, 1) := by decide +kernel
theorem dX9_loses_11 : decode cX9_loses 11 = .ok (.getfield 13, 3) := by decide +kernel
theorem dX9_loses_14 : decode cX9_loses 14 = .ok (.iconst 1, 1) := by decide +kernel
theorem dX9_loses_15 : decode cX9_loses 15 = .ok (.dup2, 1) := by decide +kernel
theorem dX9_loses_16 : decode cX9_loses 16 = .ok (.iaload, 1) := by decide +kernel
theorem dX9_loses_17 : decode cX9_loses 17 = .ok (.iconst 1, 1) := by decide +kernel
theorem dX9_loses_18 : decode cX9_loses 18 = .ok (.isub, 1) := by decide +kernel
theorem dX9_loses_19 : decode cX9_loses 19 = .ok (.iastore, 1) := by decide +kernel
theorem dX9_loses_20 : decode cX9_loses 20 = .ok (.bipush 7, 2) := by decide +kernel
theorem dX9_loses_22 : decode cX9_loses 22 = .ok (.iload_n 1, 1) := by decide +kernel
theorem dX9_loses_23 : decode cX9_loses 23 = .ok (.imul, 1) := by decide +kernel
theorem dX9_loses_24 : decode cX9_loses 24 = .ok (.istore_n 2, 1) := by decide +kernel
theorem dX9_loses_25 : decode cX9_loses 25 = .ok (.iload_n 2, 1) := by decide +kernel
theorem dX9_loses_26 : decode cX9_loses 26 = .ok (.bipush 7, 2) := by decide +kernel
theorem dX9_loses_28 : decode cX9_loses 28 = .ok (.aload_n 0, 1) := by decide +kernel
theorem dX9_loses_29 : decode cX9_loses 29 = .ok (.getfield 13, 3) := by decide +kernel
theorem dX9_loses_32 : decode cX9_loses 32 = .ok (.iconst 1, 1) := by decide +kernel
theorem dX9_loses_33 : decode cX9_loses 33 = .ok (.iaload, 1) := by decide +kernel
theorem dX9_loses_34 : decode cX9_loses 34 = .ok (.imul, 1) := by decide +kernel
theorem dX9_loses_35 : decode cX9_loses 35 = .ok (.if_icmp .ge 30, 3) := by decide +kernel
theorem dX9_loses_38 : decode cX9_loses 38 = .ok (.aload_n 0, 1) := by decide +kernel
theorem dX9_loses_39 : decode cX9_loses 39 = .ok (.getfield 13, 3) := by decide +kernel
theorem dX9_loses_42 : decode cX9_loses 42 = .ok (.bipush 17, 2) := by decide +kernel
theorem dX9_loses_44 : decode cX9_loses 44 = .ok (.iload_n 2, 1) := by decide +kernel
theorem dX9_loses_45 : decode cX9_loses 45 = .ok (.iadd, 1) := by decide +kernel
theorem dX9_loses_46 : decode cX9_loses 46 = .ok (.aload_n 0, 1) := by decide +kernel
theorem dX9_loses_47 : decode cX9_loses 47 = .ok (.getfield 13, 3) := by decide +kernel
theorem dX9_loses_50 : decode cX9_loses 50 = .ok (.bipush 17, 2) := by decide +kernel
theorem dX9_loses_52 : decode cX9_loses 52 = .ok (.iload_n 2, 1) := by decide +kernel
theorem dX9_loses_53 : decode cX9_loses 53 = .ok (.iadd, 1) := by decide +kernel
theorem dX9_loses_54 : decode cX9_loses 54 = .ok (.bipush 7, 2) := by decide +kernel
theorem dX9_loses_56 : decode cX9_loses 56 = .ok (.iadd, 1) := by decide +kernel
theorem dX9_loses_57 : decode cX9_loses 57 = .ok (.iaload, 1) := by decide +kernel
theorem dX9_loses_58 : decode cX9_loses 58 = .ok (.iastore, 1) := by decide +kernel
theorem dX9_loses_59 : decode cX9_loses 59 = .ok (.iinc 2 1, 3) := by decide +kernel
theorem dX9_loses_62 : decode cX9_loses 62 = .ok (.goto (-37), 3) := by decide +kernel
theorem dX9_loses_65 : decode cX9_loses 65 = .ok (.aload_n 0, 1) := by decide +kernel
theorem dX9_loses_66 : decode cX9_loses 66 = .ok (.getfield 13, 3) := by decide +kernel
theorem dX9_loses_69 : decode cX9_loses 69 = .ok (.iconst 1, 1) := by decide +kernel
theorem dX9_loses_70 : decode cX9_loses 70 = .ok (.iaload, 1) := by decide +kernel
theorem dX9_loses_71 : decode cX9_loses 71 = .ok (.ireturn, 1) := by decide +kernel
theorem dX9_calls_0 : decode cX9_calls 0 = .ok (.aload_n 0, 1) := by decide +kernel
theorem dX9_calls_1 : decode cX9_calls 1 = .ok (.iload_n 1, 1) := by decide +kernel
theorem dX9_calls_2 : decode cX9_calls 2 = .ok (.invokevirtual 96, 3) := by decide +kernel
theorem dX9_calls_5 : decode cX9_calls 5 = .ok (.ifCond .ne 5, 3) := by decide +kernel
theorem dX9_calls_8 : decode cX9_calls 8 = .ok (.iconst (-1), 1) := by decide +kernel
theorem dX9_calls_9 : decode cX9_calls 9 = .ok (.ireturn, 1) := by decide +kernel
theorem dX9_calls_10 : decode cX9_calls 10 = .ok (.aload_n 0, 1) := by decide +kernel
theorem dX9_calls_11 : decode cX9_calls 11 = .ok (.getfield 13, 3) := by decide +kernel
theorem dX9_calls_14 : decode cX9_calls 14 = .ok (.iconst 0, 1) := by decide +kernel
theorem dX9_calls_15 : decode cX9_calls 15 = .ok (.iaload, 1) := by decide +kernel
theorem dX9_calls_16 : decode cX9_calls 16 = .ok (.aload_n 0, 1) := by decide +kernel
theorem dX9_calls_17 : decode cX9_calls 17 = .ok (.iload_n 1, 1) := by decide +kernel
theorem dX9_calls_18 : decode cX9_calls 18 = .ok (.invokevirtual 100, 3) := by decide +kernel
theorem dX9_calls_21 : decode cX9_calls 21 = .ok (.iadd, 1) := by decide +kernel
theorem dX9_calls_22 : decode cX9_calls 22 = .ok (.bipush 12, 2) := by decide +kernel
theorem dX9_calls_24 : decode cX9_calls 24 = .ok (.if_icmp .le 6, 3) := by decide +kernel
theorem dX9_calls_27 : decode cX9_calls 27 = .ok (.bipush (-3), 2) := by decide +kernel
theorem dX9_calls_29 : decode cX9_calls 29 = .ok (.ireturn, 1) := by decide +kernel
theorem dX9_calls_30 : decode cX9_calls 30 = .ok (.aload_n 0, 1) := by decide +kernel
theorem dX9_calls_31 : decode cX9_calls 31 = .ok (.iload_n 1, 1) := by decide +kernel
theorem dX9_calls_32 : decode cX9_calls 32 = .ok (.invokevirtual 100, 3) := by decide +kernel
theorem dX9_calls_35 : decode cX9_calls 35 = .ok (.istore_n 2, 1) := by decide +kernel
theorem dX9_calls_36 : decode cX9_calls 36 = .ok (.iconst 0, 1) := by decide +kernel
theorem dX9_calls_37 : decode cX9_calls 37 = .ok (.istore_n 3, 1) := by decide +kernel
theorem dX9_calls_38 : decode cX9_calls 38 = .ok (.iload_n 3, 1) := by decide +kernel
theorem dX9_calls_39 : decode cX9_calls 39 = .ok (.iload_n 2, 1) := by decide +kernel
theorem dX9_calls_40 : decode cX9_calls 40 = .ok (.if_icmp .ge 38, 3) := by decide +kernel
theorem dX9_calls_43 : decode cX9_calls 43 = .ok (.aload_n 0, 1) := by decide +kernel
theorem dX9_calls_44 : decode cX9_calls 44 = .ok (.getfield 13, 3) := by decide +kernel
theorem dX9_calls_47 : decode cX9_calls 47 = .ok (.iconst 5, 1) := by decide +kernel
theorem dX9_calls_48 : decode cX9_calls 48 = .ok (.aload_n 0, 1) := by decide +kernel
theorem dX9_calls_49 : decode cX9_calls 49 = .ok (.getfield 13, 3) := by decide +kernel
theorem dX9_calls_52 : decode cX9_calls 52 = .ok (.iconst 0, 1) := by decide +kernel
theorem dX9_calls_53 : decode cX9_calls 53 = .ok (.iaload, 1) := by decide +kernel
theorem dX9_calls_54 : decode cX9_calls 54 = .ok (.iadd, 1) := by decide +kernel
theorem dX9_calls_55 : decode cX9_calls 55 = .ok (.aload_n 0, 1) := by decide +kernel
theorem dX9_calls_56 : decode cX9_calls 56 = .ok (.iload_n 1, 1) := by decide +kernel
theorem dX9_calls_57 : decode cX9_calls 57 = .ok (.iload_n 3, 1) := by decide +kernel
theorem dX9_calls_58 : decode cX9_calls 58 = .ok (.invokevirtual 103, 3) := by decide +kernel
theorem dX9_calls_61 : decode cX9_calls 61 = .ok (.iastore, 1) := by decide +kernel
theorem dX9_calls_62 : decode cX9_calls 62 = .ok (.aload_n 0, 1) := by decide +kernel
theorem dX9_calls_63 : decode cX9_calls 63 = .ok (.getfield 13, 3) := by decide +kernel
theorem dX9_calls_66 : decode cX9_calls 66 = .ok (.iconst 0, 1) := by decide +kernel
theorem dX9_calls_67 : decode cX9_calls 67 = .ok (.dup2, 1) := by decide +kernel
theorem dX9_calls_68 : decode cX9_calls 68 = .ok (.iaload, 1) := by decide +kernel
theorem dX9_calls_69 : decode cX9_calls 69 = .ok (.iconst 1, 1) := by decide +kernel
theorem dX9_calls_70 : decode cX9_calls 70 = .ok (.iadd, 1) := by decide +kernel
theorem dX9_calls_71 : decode cX9_calls 71 = .ok (.iastore, 1) := by decide +kernel
theorem dX9_calls_72 : decode cX9_calls 72 = .ok (.iinc 3 1, 3) := by decide +kernel
theorem dX9_calls_75 : decode cX9_calls 75 = .ok (.goto (-37), 3) := by decide +kernel
theorem dX9_calls_78 : decode cX9_calls 78 = .ok (.aload_n 0, 1) := by decide +kernel
theorem dX9_calls_79 : decode cX9_calls 79 = .ok (.getfield 13, 3) := by decide +kernel
theorem dX9_calls_82 : decode cX9_calls 82 = .ok (.iconst 0, 1) := by decide +kernel
theorem dX9_calls_83 : decode cX9_calls 83 = .ok (.iaload, 1) := by decide +kernel
theorem dX9_calls_84 : decode cX9_calls 84 = .ok (.ireturn, 1) := by decide +kernel
theorem dX9_tells_0 : decode cX9_tells 0 = .ok (.iload_n 1, 1) := by decide +kernel
theorem dX9_tells_1 : decode cX9_tells 1 = .ok (.i2l, 1) := by decide +kernel
theorem dX9_tells_2 : decode cX9_tells 2 = .ok (.lconst 0, 1) := by decide +kernel
theorem dX9_tells_3 : decode cX9_tells 3 = .ok (.lconst 1, 1) := by decide +kernel
theorem dX9_tells_4 : decode cX9_tells 4 = .ok (.invokestatic 76, 3) := by decide +kernel
theorem dX9_tells_7 : decode cX9_tells 7 = .ok (.ifCond .eq 15, 3) := by decide +kernel
theorem dX9_tells_10 : decode cX9_tells 10 = .ok (.iload_n 2, 1) := by decide +kernel
theorem dX9_tells_11 : decode cX9_tells 11 = .ok (.i2l, 1) := by decide +kernel
theorem dX9_tells_12 : decode cX9_tells 12 = .ok (.lconst 1, 1) := by decide +kernel
theorem dX9_tells_13 : decode cX9_tells 13 = .ok (.ldc2_w 106, 3) := by decide +kernel
theorem dX9_tells_16 : decode cX9_tells 16 = .ok (.invokestatic 76, 3) := by decide +kernel
theorem dX9_tells_19 : decode cX9_tells 19 = .ok (.ifCond .ne 5, 3) := by decide +kernel
theorem dX9_tells_22 : decode cX9_tells 22 = .ok (.iconst (-1), 1) := by decide +kernel
theorem dX9_tells_23 : decode cX9_tells 23 = .ok (.ireturn, 1) := by decide +kernel
theorem dX9_tells_24 : decode cX9_tells 24 = .ok (.aload_n 0, 1) := by decide +kernel
theorem dX9_tells_25 : decode cX9_tells 25 = .ok (.getfield 13, 3) := by decide +kernel
theorem dX9_tells_28 : decode cX9_tells 28 = .ok (.iconst 2, 1) := by decide +kernel
theorem dX9_tells_29 : decode cX9_tells 29 = .ok (.iload_n 1, 1) := by decide +kernel
theorem dX9_tells_30 : decode cX9_tells 30 = .ok (.iadd, 1) := by decide +kernel
theorem dX9_tells_31 : decode cX9_tells 31 = .ok (.iaload, 1) := by decide +kernel
theorem dX9_tells_32 : decode cX9_tells 32 = .ok (.istore_n 3, 1) := by decide +kernel
theorem dX9_tells_33 : decode cX9_tells 33 = .ok (.iload_n 3, 1) := by decide +kernel
theorem dX9_tells_34 : decode cX9_tells 34 = .ok (.iload_n 2, 1) := by decide +kernel
theorem dX9_tells_35 : decode cX9_tells 35 = .ok (.if_icmp .ne 6, 3) := by decide +kernel
theorem dX9_tells_38 : decode cX9_tells 38 = .ok (.bipush (-2), 2) := by decide +kernel
theorem dX9_tells_40 : decode cX9_tells 40 = .ok (.ireturn, 1) := by decide +kernel
theorem dX9_tells_41 : decode cX9_tells 41 = .ok (.aload_n 0, 1) := by decide +kernel
theorem dX9_tells_42 : decode cX9_tells 42 = .ok (.getfield 13, 3) := by decide +kernel
theorem dX9_tells_45 : decode cX9_tells 45 = .ok (.iconst 2, 1) := by decide +kernel
theorem dX9_tells_46 : decode cX9_tells 46 = .ok (.iload_n 1, 1) := by decide +kernel
theorem dX9_tells_47 : decode cX9_tells 47 = .ok (.iadd, 1) := by decide +kernel
theorem dX9_tells_48 : decode cX9_tells 48 = .ok (.iload_n 2, 1) := by decide +kernel
theorem dX9_tells_49 : decode cX9_tells 49 = .ok (.iastore, 1) := by decide +kernel
theorem dX9_tells_50 : decode cX9_tells 50 = .ok (.iload_n 3, 1) := by decide +kernel
theorem dX9_tells_51 : decode cX9_tells 51 = .ok (.ireturn, 1) := by decide +kernel
theorem dX9_holds_0 : decode cX9_holds 0 = .ok (.iconst 0, 1) := by decide +kernel
theorem dX9_holds_1 : decode cX9_holds 1 = .ok (.istore_n 1, 1) := by decide +kernel
theorem dX9_holds_2 : decode cX9_holds 2 = .ok (.iload_n 1, 1) := by decide +kernel
theorem dX9_holds_3 : decode cX9_holds 3 = .ok (.bipush 59, 2) := by decide +kernel
theorem dX9_holds_5 : decode cX9_holds 5 = .ok (.if_icmp .ge 21, 3) := by decide +kernel
theorem dX9_holds_8 : decode cX9_holds 8 = .ok (.aload_n 0, 1) := by decide +kernel
theorem dX9_holds_9 : decode cX9_holds 9 = .ok (.getfield 16, 3) := by decide +kernel
theorem dX9_holds_12 : decode cX9_holds 12 = .ok (.iload_n 1, 1) := by decide +kernel
theorem dX9_holds_13 : decode cX9_holds 13 = .ok (.aload_n 0, 1) := by decide +kernel
theorem dX9_holds_14 : decode cX9_holds 14 = .ok (.getfield 13, 3) := by decide +kernel
theorem dX9_holds_17 : decode cX9_holds 17 = .ok (.iload_n 1, 1) := by decide +kernel
theorem dX9_holds_18 : decode cX9_holds 18 = .ok (.iaload, 1) := by decide +kernel
theorem dX9_holds_19 : decode cX9_holds 19 = .ok (.iastore, 1) := by decide +kernel
theorem dX9_holds_20 : decode cX9_holds 20 = .ok (.iinc 1 1, 3) := by decide +kernel
theorem dX9_holds_23 : decode cX9_holds 23 = .ok (.goto (-21), 3) := by decide +kernel
theorem dX9_holds_26 : decode cX9_holds 26 = .ok (.return_, 1) := by decide +kernel
theorem dX9_done_0 : decode cX9_done 0 = .ok (.iload_n 1, 1) := by decide +kernel
theorem dX9_done_1 : decode cX9_done 1 = .ok (.ifCond .lt 7, 3) := by decide +kernel
theorem dX9_done_4 : decode cX9_done 4 = .ok (.aload_n 0, 1) := by decide +kernel
theorem dX9_done_5 : decode cX9_done 5 = .ok (.invokevirtual 108, 3) := by decide +kernel
theorem dX9_done_8 : decode cX9_done 8 = .ok (.iload_n 1, 1) := by decide +kernel
theorem dX9_done_9 : decode cX9_done 9 = .ok (.ireturn, 1) := by decide +kernel
theorem dX9_say_0 : decode cX9_say 0 = .ok (.aload_n 0, 1) := by decide +kernel
theorem dX9_say_1 : decode cX9_say 1 = .ok (.invokevirtual 111, 3) := by decide +kernel
theorem dX9_say_4 : decode cX9_say 4 = .ok (.aload_n 0, 1) := by decide +kernel
theorem dX9_say_5 : decode cX9_say 5 = .ok (.aload_n 0, 1) := by decide +kernel
theorem dX9_say_6 : decode cX9_say 6 = .ok (.iload_n 1, 1) := by decide +kernel
theorem dX9_say_7 : decode cX9_say 7 = .ok (.invokevirtual 114, 3) := by decide +kernel
theorem dX9_say_10 : decode cX9_say 10 = .ok (.invokevirtual 117, 3) := by decide +kernel
theorem dX9_say_13 : decode cX9_say 13 = .ok (.ireturn, 1) := by decide +kernel
theorem dX9_back_0 : decode cX9_back 0 = .ok (.aload_n 0, 1) := by decide +kernel
theorem dX9_back_1 : decode cX9_back 1 = .ok (.invokevirtual 111, 3) := by decide +kernel
theorem dX9_back_4 : decode cX9_back 4 = .ok (.aload_n 0, 1) := by decide +kernel
theorem dX9_back_5 : decode cX9_back 5 = .ok (.aload_n 0, 1) := by decide +kernel
theorem dX9_back_6 : decode cX9_back 6 = .ok (.invokevirtual 120, 3) := by decide +kernel
theorem dX9_back_9 : decode cX9_back 9 = .ok (.invokevirtual 117, 3) := by decide +kernel
theorem dX9_back_12 : decode cX9_back 12 = .ok (.ireturn, 1) := by decide +kernel
theorem dX9_keep_0 : decode cX9_keep 0 = .ok (.aload_n 0, 1) := by decide +kernel
theorem dX9_keep_1 : decode cX9_keep 1 = .ok (.invokevirtual 111, 3) := by decide +kernel
theorem dX9_keep_4 : decode cX9_keep 4 = .ok (.aload_n 0, 1) := by decide +kernel
theorem dX9_keep_5 : decode cX9_keep 5 = .ok (.aload_n 0, 1) := by decide +kernel
theorem dX9_keep_6 : decode cX9_keep 6 = .ok (.invokevirtual 124, 3) := by decide +kernel
theorem dX9_keep_9 : decode cX9_keep 9 = .ok (.invokevirtual 117, 3) := by decide +kernel
theorem dX9_keep_12 : decode cX9_keep 12 = .ok (.ireturn, 1) := by decide +kernel
theorem dX9_lose_0 : decode cX9_lose 0 = .ok (.aload_n 0, 1) := by decide +kernel
theorem dX9_lose_1 : decode cX9_lose 1 = .ok (.invokevirtual 111, 3) := by decide +kernel
theorem dX9_lose_4 : decode cX9_lose 4 = .ok (.aload_n 0, 1) := by decide +kernel
theorem dX9_lose_5 : decode cX9_lose 5 = .ok (.aload_n 0, 1) := by decide +kernel
theorem dX9_lose_6 : decode cX9_lose 6 = .ok (.iload_n 1, 1) := by decide +kernel
theorem dX9_lose_7 : decode cX9_lose 7 = .ok (.invokevirtual 127, 3) := by decide +kernel
theorem dX9_lose_10 : decode cX9_lose 10 = .ok (.invokevirtual 117, 3) := by decide +kernel
theorem dX9_lose_13 : decode cX9_lose 13 = .ok (.ireturn, 1) := by decide +kernel
theorem dX9_call_0 : decode cX9_call 0 = .ok (.aload_n 0, 1) := by decide +kernel
theorem dX9_call_1 : decode cX9_call 1 = .ok (.invokevirtual 111, 3) := by decide +kernel
theorem dX9_call_4 : decode cX9_call 4 = .ok (.aload_n 0, 1) := by decide +kernel
theorem dX9_call_5 : decode cX9_call 5 = .ok (.aload_n 0, 1) := by decide +kernel
theorem dX9_call_6 : decode cX9_call 6 = .ok (.iload_n 1, 1) := by decide +kernel
theorem dX9_call_7 : decode cX9_call 7 = .ok (.invokevirtual 130, 3) := by decide +kernel
theorem dX9_call_10 : decode cX9_call 10 = .ok (.invokevirtual 117, 3) := by decide +kernel
theorem dX9_call_13 : decode cX9_call 13 = .ok (.ireturn, 1) := by decide +kernel
theorem dX9_tell_0 : decode cX9_tell 0 = .ok (.aload_n 0, 1) := by decide +kernel
theorem dX9_tell_1 : decode cX9_tell 1 = .ok (.invokevirtual 111, 3) := by decide +kernel
theorem dX9_tell_4 : decode cX9_tell 4 = .ok (.aload_n 0, 1) := by decide +kernel
theorem dX9_tell_5 : decode cX9_tell 5 = .ok (.aload_n 0, 1) := by decide +kernel
theorem dX9_tell_6 : decode cX9_tell 6 = .ok (.iload_n 1, 1) := by decide +kernel
theorem dX9_tell_7 : decode cX9_tell 7 = .ok (.iload_n 2, 1) := by decide +kernel
theorem dX9_tell_8 : decode cX9_tell 8 = .ok (.invokevirtual 133, 3) := by decide +kernel
theorem dX9_tell_11 : decode cX9_tell 11 = .ok (.invokevirtual 117, 3) := by decide +kernel
theorem dX9_tell_14 : decode cX9_tell 14 = .ok (.ireturn, 1) := by decide +kernel
theorem dX9_said_0 : decode cX9_said 0 = .ok (.iload_n 1, 1) := by decide +kernel
theorem dX9_said_1 : decode cX9_said 1 = .ok (.iconst (-1), 1) := by decide +kernel
theorem dX9_said_2 : decode cX9_said 2 = .ok (.if_icmp .eq 11, 3) := by decide +kernel
theorem dX9_said_5 : decode cX9_said 5 = .ok (.aload_n 0, 1) := by decide +kernel
theorem dX9_said_6 : decode cX9_said 6 = .ok (.iload_n 1, 1) := by decide +kernel
theorem dX9_said_7 : decode cX9_said 7 = .ok (.invokevirtual 96, 3) := by decide +kernel
theorem dX9_said_10 : decode cX9_said 10 = .ok (.ifCond .eq 7, 3) := by decide +kernel
theorem dX9_said_13 : decode cX9_said 13 = .ok (.iload_n 2, 1) := by decide +kernel
theorem dX9_said_14 : decode cX9_said 14 = .ok (.ifCond .ge 5, 3) := by decide +kernel
theorem dX9_said_17 : decode cX9_said 17 = .ok (.iconst (-1), 1) := by decide +kernel
theorem dX9_said_18 : decode cX9_said 18 = .ok (.ireturn, 1) := by decide +kernel
theorem dX9_said_19 : decode cX9_said 19 = .ok (.iload_n 1, 1) := by decide +kernel
theorem dX9_said_20 : decode cX9_said 20 = .ok (.ifCond .ge 24, 3) := by decide +kernel
theorem dX9_said_23 : decode cX9_said 23 = .ok (.iload_n 2, 1) := by decide +kernel
theorem dX9_said_24 : decode cX9_said 24 = .ok (.aload_n 0, 1) := by decide +kernel
theorem dX9_said_25 : decode cX9_said 25 = .ok (.getfield 13, 3) := by decide +kernel
theorem dX9_said_28 : decode cX9_said 28 = .ok (.iconst 0, 1) := by decide +kernel
theorem dX9_said_29 : decode cX9_said 29 = .ok (.iaload, 1) := by decide +kernel
theorem dX9_said_30 : decode cX9_said 30 = .ok (.if_icmp .ge 11, 3) := by decide +kernel
theorem dX9_said_33 : decode cX9_said 33 = .ok (.aload_n 0, 1) := by decide +kernel
theorem dX9_said_34 : decode cX9_said 34 = .ok (.iload_n 2, 1) := by decide +kernel
theorem dX9_said_35 : decode cX9_said 35 = .ok (.invokevirtual 91, 3) := by decide +kernel
theorem dX9_said_38 : decode cX9_said 38 = .ok (.goto 5, 3) := by decide +kernel
theorem dX9_said_41 : decode cX9_said 41 = .ok (.bipush (-4), 2) := by decide +kernel
theorem dX9_said_43 : decode cX9_said 43 = .ok (.ireturn, 1) := by decide +kernel
theorem dX9_said_44 : decode cX9_said 44 = .ok (.iload_n 2, 1) := by decide +kernel
theorem dX9_said_45 : decode cX9_said 45 = .ok (.aload_n 0, 1) := by decide +kernel
theorem dX9_said_46 : decode cX9_said 46 = .ok (.iload_n 1, 1) := by decide +kernel
theorem dX9_said_47 : decode cX9_said 47 = .ok (.invokevirtual 100, 3) := by decide +kernel
theorem dX9_said_50 : decode cX9_said 50 = .ok (.if_icmp .ge 12, 3) := by decide +kernel
theorem dX9_said_53 : decode cX9_said 53 = .ok (.aload_n 0, 1) := by decide +kernel
theorem dX9_said_54 : decode cX9_said 54 = .ok (.iload_n 1, 1) := by decide +kernel
theorem dX9_said_55 : decode cX9_said 55 = .ok (.iload_n 2, 1) := by decide +kernel
theorem dX9_said_56 : decode cX9_said 56 = .ok (.invokevirtual 103, 3) := by decide +kernel
theorem dX9_said_59 : decode cX9_said 59 = .ok (.goto 5, 3) := by decide +kernel
theorem dX9_said_62 : decode cX9_said 62 = .ok (.bipush (-4), 2) := by decide +kernel
theorem dX9_said_64 : decode cX9_said 64 = .ok (.ireturn, 1) := by decide +kernel
theorem dX9_count_0 : decode cX9_count 0 = .ok (.iconst 0, 1) := by decide +kernel
theorem dX9_count_1 : decode cX9_count 1 = .ok (.istore_n 2, 1) := by decide +kernel
theorem dX9_count_2 : decode cX9_count 2 = .ok (.iconst 0, 1) := by decide +kernel
theorem dX9_count_3 : decode cX9_count 3 = .ok (.istore_n 3, 1) := by decide +kernel
theorem dX9_count_4 : decode cX9_count 4 = .ok (.iload_n 3, 1) := by decide +kernel
theorem dX9_count_5 : decode cX9_count 5 = .ok (.aload_n 0, 1) := by decide +kernel
theorem dX9_count_6 : decode cX9_count 6 = .ok (.getfield 13, 3) := by decide +kernel
theorem dX9_count_9 : decode cX9_count 9 = .ok (.iconst 0, 1) := by decide +kernel
theorem dX9_count_10 : decode cX9_count 10 = .ok (.iaload, 1) := by decide +kernel
theorem dX9_count_11 : decode cX9_count 11 = .ok (.if_icmp .ge 29, 3) := by decide +kernel
theorem dX9_count_14 : decode cX9_count 14 = .ok (.iload_n 2, 1) := by decide +kernel
theorem dX9_count_15 : decode cX9_count 15 = .ok (.aload_n 0, 1) := by decide +kernel
theorem dX9_count_16 : decode cX9_count 16 = .ok (.aload_n 0, 1) := by decide +kernel
theorem dX9_count_17 : decode cX9_count 17 = .ok (.iload_n 3, 1) := by decide +kernel
theorem dX9_count_18 : decode cX9_count 18 = .ok (.invokevirtual 91, 3) := by decide +kernel
theorem dX9_count_21 : decode cX9_count 21 = .ok (.invokevirtual 80, 3) := by decide +kernel
theorem dX9_count_24 : decode cX9_count 24 = .ok (.ifCond .lt 7, 3) := by decide +kernel
theorem dX9_count_27 : decode cX9_count 27 = .ok (.iconst 1, 1) := by decide +kernel
theorem dX9_count_28 : decode cX9_count 28 = .ok (.goto 4, 3) := by decide +kernel
theorem dX9_count_31 : decode cX9_count 31 = .ok (.iconst 0, 1) := by decide +kernel
theorem dX9_count_32 : decode cX9_count 32 = .ok (.iadd, 1) := by decide +kernel
theorem dX9_count_33 : decode cX9_count 33 = .ok (.istore_n 2, 1) := by decide +kernel
theorem dX9_count_34 : decode cX9_count 34 = .ok (.iinc 3 1, 3) := by decide +kernel
theorem dX9_count_37 : decode cX9_count 37 = .ok (.goto (-33), 3) := by decide +kernel
theorem dX9_count_40 : decode cX9_count 40 = .ok (.iload_n 1, 1) := by decide +kernel
theorem dX9_count_41 : decode cX9_count 41 = .ok (.tableswitch 74 0 5 #[39, 46, 53, 60, 67, 69], 39) := by decide +kernel
theorem dX9_count_80 : decode cX9_count 80 = .ok (.aload_n 0, 1) := by decide +kernel
theorem dX9_count_81 : decode cX9_count 81 = .ok (.getfield 13, 3) := by decide +kernel
theorem dX9_count_84 : decode cX9_count 84 = .ok (.iconst 0, 1) := by decide +kernel
theorem dX9_count_85 : decode cX9_count 85 = .ok (.iaload, 1) := by decide +kernel
theorem dX9_count_86 : decode cX9_count 86 = .ok (.ireturn, 1) := by decide +kernel
theorem dX9_count_87 : decode cX9_count 87 = .ok (.aload_n 0, 1) := by decide +kernel
theorem dX9_count_88 : decode cX9_count 88 = .ok (.getfield 13, 3) := by decide +kernel
theorem dX9_count_91 : decode cX9_count 91 = .ok (.iconst 1, 1) := by decide +kernel
theorem dX9_count_92 : decode cX9_count 92 = .ok (.iaload, 1) := by decide +kernel
theorem dX9_count_93 : decode cX9_count 93 = .ok (.ireturn, 1) := by decide +kernel
theorem dX9_count_94 : decode cX9_count 94 = .ok (.aload_n 0, 1) := by decide +kernel
theorem dX9_count_95 : decode cX9_count 95 = .ok (.getfield 13, 3) := by decide +kernel
theorem dX9_count_98 : decode cX9_count 98 = .ok (.iconst 2, 1) := by decide +kernel
theorem dX9_count_99 : decode cX9_count 99 = .ok (.iaload, 1) := by decide +kernel
theorem dX9_count_100 : decode cX9_count 100 = .ok (.ireturn, 1) := by decide +kernel
theorem dX9_count_101 : decode cX9_count 101 = .ok (.aload_n 0, 1) := by decide +kernel
theorem dX9_count_102 : decode cX9_count 102 = .ok (.getfield 13, 3) := by decide +kernel
theorem dX9_count_105 : decode cX9_count 105 = .ok (.iconst 3, 1) := by decide +kernel
theorem dX9_count_106 : decode cX9_count 106 = .ok (.iaload, 1) := by decide +kernel
theorem dX9_count_107 : decode cX9_count 107 = .ok (.ireturn, 1) := by decide +kernel
theorem dX9_count_108 : decode cX9_count 108 = .ok (.iload_n 2, 1) := by decide +kernel
theorem dX9_count_109 : decode cX9_count 109 = .ok (.ireturn, 1) := by decide +kernel
theorem dX9_count_110 : decode cX9_count 110 = .ok (.aload_n 0, 1) := by decide +kernel
theorem dX9_count_111 : decode cX9_count 111 = .ok (.getfield 136, 3) := by decide +kernel
theorem dX9_count_114 : decode cX9_count 114 = .ok (.ireturn, 1) := by decide +kernel
theorem dX9_count_115 : decode cX9_count 115 = .ok (.iconst (-1), 1) := by decide +kernel
theorem dX9_count_116 : decode cX9_count 116 = .ok (.ireturn, 1) := by decide +kernel
theorem dX9_leftAt_0 : decode cX9_leftAt 0 = .ok (.iload_n 1, 1) := by decide +kernel
theorem dX9_leftAt_1 : decode cX9_leftAt 1 = .ok (.aload_n 0, 1) := by decide +kernel
theorem dX9_leftAt_2 : decode cX9_leftAt 2 = .ok (.getfield 13, 3) := by decide +kernel
theorem dX9_leftAt_5 : decode cX9_leftAt 5 = .ok (.iconst 0, 1) := by decide +kernel
theorem dX9_leftAt_6 : decode cX9_leftAt 6 = .ok (.iaload, 1) := by decide +kernel
theorem dX9_leftAt_7 : decode cX9_leftAt 7 = .ok (.iconst 1, 1) := by decide +kernel
theorem dX9_leftAt_8 : decode cX9_leftAt 8 = .ok (.isub, 1) := by decide +kernel
theorem dX9_leftAt_9 : decode cX9_leftAt 9 = .ok (.iload_n 2, 1) := by decide +kernel
theorem dX9_leftAt_10 : decode cX9_leftAt 10 = .ok (.isub, 1) := by decide +kernel
theorem dX9_leftAt_11 : decode cX9_leftAt 11 = .ok (.ishr, 1) := by decide +kernel
theorem dX9_leftAt_12 : decode cX9_leftAt 12 = .ok (.iconst 1, 1) := by decide +kernel
theorem dX9_leftAt_13 : decode cX9_leftAt 13 = .ok (.iand, 1) := by decide +kernel
theorem dX9_leftAt_14 : decode cX9_leftAt 14 = .ok (.iconst 1, 1) := by decide +kernel
theorem dX9_leftAt_15 : decode cX9_leftAt 15 = .ok (.if_icmp .ne 7, 3) := by decide +kernel
theorem dX9_leftAt_18 : decode cX9_leftAt 18 = .ok (.iconst 1, 1) := by decide +kernel
theorem dX9_leftAt_19 : decode cX9_leftAt 19 = .ok (.goto 4, 3) := by decide +kernel
theorem dX9_leftAt_22 : decode cX9_leftAt 22 = .ok (.iconst 0, 1) := by decide +kernel
theorem dX9_leftAt_23 : decode cX9_leftAt 23 = .ok (.istore_n 3, 1) := by decide +kernel
theorem dX9_leftAt_24 : decode cX9_leftAt 24 = .ok (.iload_n 3, 1) := by decide +kernel
theorem dX9_leftAt_25 : decode cX9_leftAt 25 = .ok (.ifCond .eq 15, 3) := by decide +kernel
theorem dX9_leftAt_28 : decode cX9_leftAt 28 = .ok (.aload_n 0, 1) := by decide +kernel
theorem dX9_leftAt_29 : decode cX9_leftAt 29 = .ok (.aload_n 0, 1) := by decide +kernel
theorem dX9_leftAt_30 : decode cX9_leftAt 30 = .ok (.iload_n 2, 1) := by decide +kernel
theorem dX9_leftAt_31 : decode cX9_leftAt 31 = .ok (.invokevirtual 91, 3) := by decide +kernel
theorem dX9_leftAt_34 : decode cX9_leftAt 34 = .ok (.invokevirtual 65, 3) := by decide +kernel
theorem dX9_leftAt_37 : decode cX9_leftAt 37 = .ok (.goto 12, 3) := by decide +kernel
theorem dX9_leftAt_40 : decode cX9_leftAt 40 = .ok (.aload_n 0, 1) := by decide +kernel
theorem dX9_leftAt_41 : decode cX9_leftAt 41 = .ok (.aload_n 0, 1) := by decide +kernel
theorem dX9_leftAt_42 : decode cX9_leftAt 42 = .ok (.iload_n 2, 1) := by decide +kernel
theorem dX9_leftAt_43 : decode cX9_leftAt 43 = .ok (.invokevirtual 91, 3) := by decide +kernel
theorem dX9_leftAt_46 : decode cX9_leftAt 46 = .ok (.invokevirtual 61, 3) := by decide +kernel
theorem dX9_leftAt_49 : decode cX9_leftAt 49 = .ok (.ireturn, 1) := by decide +kernel
theorem dX9_rightAt_0 : decode cX9_rightAt 0 = .ok (.aload_n 0, 1) := by decide +kernel
theorem dX9_rightAt_1 : decode cX9_rightAt 1 = .ok (.aload_n 0, 1) := by decide +kernel
theorem dX9_rightAt_2 : decode cX9_rightAt 2 = .ok (.iload_n 2, 1) := by decide +kernel
theorem dX9_rightAt_3 : decode cX9_rightAt 3 = .ok (.invokevirtual 91, 3) := by decide +kernel
theorem dX9_rightAt_6 : decode cX9_rightAt 6 = .ok (.invokevirtual 61, 3) := by decide +kernel
theorem dX9_rightAt_9 : decode cX9_rightAt 9 = .ok (.aload_n 0, 1) := by decide +kernel
theorem dX9_rightAt_10 : decode cX9_rightAt 10 = .ok (.aload_n 0, 1) := by decide +kernel
theorem dX9_rightAt_11 : decode cX9_rightAt 11 = .ok (.iload_n 2, 1) := by decide +kernel
theorem dX9_rightAt_12 : decode cX9_rightAt 12 = .ok (.invokevirtual 91, 3) := by decide +kernel
theorem dX9_rightAt_15 : decode cX9_rightAt 15 = .ok (.invokevirtual 65, 3) := by decide +kernel
theorem dX9_rightAt_18 : decode cX9_rightAt 18 = .ok (.iadd, 1) := by decide +kernel
theorem dX9_rightAt_19 : decode cX9_rightAt 19 = .ok (.aload_n 0, 1) := by decide +kernel
theorem dX9_rightAt_20 : decode cX9_rightAt 20 = .ok (.iload_n 1, 1) := by decide +kernel
theorem dX9_rightAt_21 : decode cX9_rightAt 21 = .ok (.iload_n 2, 1) := by decide +kernel
theorem dX9_rightAt_22 : decode cX9_rightAt 22 = .ok (.invokevirtual 139, 3) := by decide +kernel
theorem dX9_rightAt_25 : decode cX9_rightAt 25 = .ok (.isub, 1) := by decide +kernel
theorem dX9_rightAt_26 : decode cX9_rightAt 26 = .ok (.ireturn, 1) := by decide +kernel
theorem dX9_stepsOf_0 : decode cX9_stepsOf 0 = .ok (.iconst 0, 1) := by decide +kernel
theorem dX9_stepsOf_1 : decode cX9_stepsOf 1 = .ok (.istore_n 3, 1) := by decide +kernel
theorem dX9_stepsOf_2 : decode cX9_stepsOf 2 = .ok (.iconst 0, 1) := by decide +kernel
theorem dX9_stepsOf_3 : decode cX9_stepsOf 3 = .ok (.istore 4, 2) := by decide +kernel
theorem dX9_stepsOf_5 : decode cX9_stepsOf 5 = .ok (.iconst 0, 1) := by decide +kernel
theorem dX9_stepsOf_6 : decode cX9_stepsOf 6 = .ok (.istore 5, 2) := by decide +kernel
theorem dX9_stepsOf_8 : decode cX9_stepsOf 8 = .ok (.iload 5, 2) := by decide +kernel
theorem dX9_stepsOf_10 : decode cX9_stepsOf 10 = .ok (.aload_n 0, 1) := by decide +kernel
theorem dX9_stepsOf_11 : decode cX9_stepsOf 11 = .ok (.getfield 13, 3) := by decide +kernel
theorem dX9_stepsOf_14 : decode cX9_stepsOf 14 = .ok (.iconst 0, 1) := by decide +kernel
theorem dX9_stepsOf_15 : decode cX9_stepsOf 15 = .ok (.iaload, 1) := by decide +kernel
theorem dX9_stepsOf_16 : decode cX9_stepsOf 16 = .ok (.if_icmp .ge 46, 3) := by decide +kernel
theorem dX9_stepsOf_19 : decode cX9_stepsOf 19 = .ok (.iload_n 2, 1) := by decide +kernel
theorem dX9_stepsOf_20 : decode cX9_stepsOf 20 = .ok (.ifCond .eq 13, 3) := by decide +kernel
theorem dX9_stepsOf_23 : decode cX9_stepsOf 23 = .ok (.aload_n 0, 1) := by decide +kernel
theorem dX9_stepsOf_24 : decode cX9_stepsOf 24 = .ok (.iload_n 1, 1) := by decide +kernel
theorem dX9_stepsOf_25 : decode cX9_stepsOf 25 = .ok (.iload 5, 2) := by decide +kernel
theorem dX9_stepsOf_27 : decode cX9_stepsOf 27 = .ok (.invokevirtual 139, 3) := by decide +kernel
theorem dX9_stepsOf_30 : decode cX9_stepsOf 30 = .ok (.goto 10, 3) := by decide +kernel
theorem dX9_stepsOf_33 : decode cX9_stepsOf 33 = .ok (.aload_n 0, 1) := by decide +kernel
theorem dX9_stepsOf_34 : decode cX9_stepsOf 34 = .ok (.iload_n 1, 1) := by decide +kernel
theorem dX9_stepsOf_35 : decode cX9_stepsOf 35 = .ok (.iload 5, 2) := by decide +kernel
theorem dX9_stepsOf_37 : decode cX9_stepsOf 37 = .ok (.invokevirtual 142, 3) := by decide +kernel
theorem dX9_stepsOf_40 : decode cX9_stepsOf 40 = .ok (.istore 6, 2) := by decide +kernel
theorem dX9_stepsOf_42 : decode cX9_stepsOf 42 = .ok (.iload_n 3, 1) := by decide +kernel
theorem dX9_stepsOf_43 : decode cX9_stepsOf 43 = .ok (.iload 4, 2) := by decide +kernel
theorem dX9_stepsOf_45 : decode cX9_stepsOf 45 = .ok (.iload 6, 2) := by decide +kernel
theorem dX9_stepsOf_47 : decode cX9_stepsOf 47 = .ok (.invokestatic 71, 3) := by decide +kernel
theorem dX9_stepsOf_50 : decode cX9_stepsOf 50 = .ok (.iadd, 1) := by decide +kernel
theorem dX9_stepsOf_51 : decode cX9_stepsOf 51 = .ok (.istore_n 3, 1) := by decide +kernel
theorem dX9_stepsOf_52 : decode cX9_stepsOf 52 = .ok (.iload 6, 2) := by decide +kernel
theorem dX9_stepsOf_54 : decode cX9_stepsOf 54 = .ok (.istore 4, 2) := by decide +kernel
theorem dX9_stepsOf_56 : decode cX9_stepsOf 56 = .ok (.iinc 5 1, 3) := by decide +kernel
theorem dX9_stepsOf_59 : decode cX9_stepsOf 59 = .ok (.goto (-51), 3) := by decide +kernel
theorem dX9_stepsOf_62 : decode cX9_stepsOf 62 = .ok (.iload_n 3, 1) := by decide +kernel
theorem dX9_stepsOf_63 : decode cX9_stepsOf 63 = .ok (.ireturn, 1) := by decide +kernel
theorem dX9_goesThrough_0 : decode cX9_goesThrough 0 = .ok (.aload_n 0, 1) := by decide +kernel
theorem dX9_goesThrough_1 : decode cX9_goesThrough 1 = .ok (.iconst (-1), 1) := by decide +kernel
theorem dX9_goesThrough_2 : decode cX9_goesThrough 2 = .ok (.putfield 145, 3) := by decide +kernel
theorem dX9_goesThrough_5 : decode cX9_goesThrough 5 = .ok (.aload_n 0, 1) := by decide +kernel
theorem dX9_goesThrough_6 : decode cX9_goesThrough 6 = .ok (.iconst 0, 1) := by decide +kernel
theorem dX9_goesThrough_7 : decode cX9_goesThrough 7 = .ok (.putfield 148, 3) := by decide +kernel
theorem dX9_goesThrough_10 : decode cX9_goesThrough 10 = .ok (.aload_n 0, 1) := by decide +kernel
theorem dX9_goesThrough_11 : decode cX9_goesThrough 11 = .ok (.iconst 0, 1) := by decide +kernel
theorem dX9_goesThrough_12 : decode cX9_goesThrough 12 = .ok (.putfield 151, 3) := by decide +kernel
theorem dX9_goesThrough_15 : decode cX9_goesThrough 15 = .ok (.iconst 0, 1) := by decide +kernel
theorem dX9_goesThrough_16 : decode cX9_goesThrough 16 = .ok (.istore_n 1, 1) := by decide +kernel
theorem dX9_goesThrough_17 : decode cX9_goesThrough 17 = .ok (.iload_n 1, 1) := by decide +kernel
theorem dX9_goesThrough_18 : decode cX9_goesThrough 18 = .ok (.iconst 1, 1) := by decide +kernel
theorem dX9_goesThrough_19 : decode cX9_goesThrough 19 = .ok (.aload_n 0, 1) := by decide +kernel
theorem dX9_goesThrough_20 : decode cX9_goesThrough 20 = .ok (.getfield 13, 3) := by decide +kernel
theorem dX9_goesThrough_23 : decode cX9_goesThrough 23 = .ok (.iconst 0, 1) := by decide +kernel
theorem dX9_goesThrough_24 : decode cX9_goesThrough 24 = .ok (.iaload, 1) := by decide +kernel
theorem dX9_goesThrough_25 : decode cX9_goesThrough 25 = .ok (.ishl, 1) := by decide +kernel
theorem dX9_goesThrough_26 : decode cX9_goesThrough 26 = .ok (.if_icmp .ge 89, 3) := by decide +kernel
theorem dX9_goesThrough_29 : decode cX9_goesThrough 29 = .ok (.aload_n 0, 1) := by decide +kernel
theorem dX9_goesThrough_30 : decode cX9_goesThrough 30 = .ok (.getfield 13, 3) := by decide +kernel
theorem dX9_goesThrough_33 : decode cX9_goesThrough 33 = .ok (.iconst 2, 1) := by decide +kernel
theorem dX9_goesThrough_34 : decode cX9_goesThrough 34 = .ok (.iaload, 1) := by decide +kernel
theorem dX9_goesThrough_35 : decode cX9_goesThrough 35 = .ok (.aload_n 0, 1) := by decide +kernel
theorem dX9_goesThrough_36 : decode cX9_goesThrough 36 = .ok (.iload_n 1, 1) := by decide +kernel
theorem dX9_goesThrough_37 : decode cX9_goesThrough 37 = .ok (.iconst 1, 1) := by decide +kernel
theorem dX9_goesThrough_38 : decode cX9_goesThrough 38 = .ok (.invokevirtual 154, 3) := by decide +kernel
theorem dX9_goesThrough_41 : decode cX9_goesThrough 41 = .ok (.imul, 1) := by decide +kernel
theorem dX9_goesThrough_42 : decode cX9_goesThrough 42 = .ok (.aload_n 0, 1) := by decide +kernel
theorem dX9_goesThrough_43 : decode cX9_goesThrough 43 = .ok (.getfield 13, 3) := by decide +kernel
theorem dX9_goesThrough_46 : decode cX9_goesThrough 46 = .ok (.iconst 3, 1) := by decide +kernel
theorem dX9_goesThrough_47 : decode cX9_goesThrough 47 = .ok (.iaload, 1) := by decide +kernel
theorem dX9_goesThrough_48 : decode cX9_goesThrough 48 = .ok (.aload_n 0, 1) := by decide +kernel
theorem dX9_goesThrough_49 : decode cX9_goesThrough 49 = .ok (.iload_n 1, 1) := by decide +kernel
theorem dX9_goesThrough_50 : decode cX9_goesThrough 50 = .ok (.iconst 0, 1) := by decide +kernel
theorem dX9_goesThrough_51 : decode cX9_goesThrough 51 = .ok (.invokevirtual 154, 3) := by decide +kernel
theorem dX9_goesThrough_54 : decode cX9_goesThrough 54 = .ok (.imul, 1) := by decide +kernel
theorem dX9_goesThrough_55 : decode cX9_goesThrough 55 = .ok (.iadd, 1) := by decide +kernel
theorem dX9_goesThrough_56 : decode cX9_goesThrough 56 = .ok (.istore_n 2, 1) := by decide +kernel
theorem dX9_goesThrough_57 : decode cX9_goesThrough 57 = .ok (.aload_n 0, 1) := by decide +kernel
theorem dX9_goesThrough_58 : decode cX9_goesThrough 58 = .ok (.getfield 145, 3) := by decide +kernel
theorem dX9_goesThrough_61 : decode cX9_goesThrough 61 = .ok (.ifCond .lt 11, 3) := by decide +kernel
theorem dX9_goesThrough_64 : decode cX9_goesThrough 64 = .ok (.iload_n 2, 1) := by decide +kernel
theorem dX9_goesThrough_65 : decode cX9_goesThrough 65 = .ok (.aload_n 0, 1) := by decide +kernel
theorem dX9_goesThrough_66 : decode cX9_goesThrough 66 = .ok (.getfield 145, 3) := by decide +kernel
theorem dX9_goesThrough_69 : decode cX9_goesThrough 69 = .ok (.if_icmp .ge 18, 3) := by decide +kernel
theorem dX9_goesThrough_72 : decode cX9_goesThrough 72 = .ok (.aload_n 0, 1) := by decide +kernel
theorem dX9_goesThrough_73 : decode cX9_goesThrough 73 = .ok (.iload_n 2, 1) := by decide +kernel
theorem dX9_goesThrough_74 : decode cX9_goesThrough 74 = .ok (.putfield 145, 3) := by decide +kernel
theorem dX9_goesThrough_77 : decode cX9_goesThrough 77 = .ok (.aload_n 0, 1) := by decide +kernel
theorem dX9_goesThrough_78 : decode cX9_goesThrough 78 = .ok (.iconst 0, 1) := by decide +kernel
theorem dX9_goesThrough_79 : decode cX9_goesThrough 79 = .ok (.putfield 148, 3) := by decide +kernel
theorem dX9_goesThrough_82 : decode cX9_goesThrough 82 = .ok (.aload_n 0, 1) := by decide +kernel
theorem dX9_goesThrough_83 : decode cX9_goesThrough 83 = .ok (.iload_n 1, 1) := by decide +kernel
theorem dX9_goesThrough_84 : decode cX9_goesThrough 84 = .ok (.putfield 151, 3) := by decide +kernel
theorem dX9_goesThrough_87 : decode cX9_goesThrough 87 = .ok (.aload_n 0, 1) := by decide +kernel
theorem dX9_goesThrough_88 : decode cX9_goesThrough 88 = .ok (.dup, 1) := by decide +kernel
theorem dX9_goesThrough_89 : decode cX9_goesThrough 89 = .ok (.getfield 148, 3) := by decide +kernel
theorem dX9_goesThrough_92 : decode cX9_goesThrough 92 = .ok (.iload_n 2, 1) := by decide +kernel
theorem dX9_goesThrough_93 : decode cX9_goesThrough 93 = .ok (.aload_n 0, 1) := by decide +kernel
theorem dX9_goesThrough_94 : decode cX9_goesThrough 94 = .ok (.getfield 145, 3) := by decide +kernel
theorem dX9_goesThrough_97 : decode cX9_goesThrough 97 = .ok (.if_icmp .ne 7, 3) := by decide +kernel
theorem dX9_goesThrough_100 : decode cX9_goesThrough 100 = .ok (.iconst 1, 1) := by decide +kernel
theorem dX9_goesThrough_101 : decode cX9_goesThrough 101 = .ok (.goto 4, 3) := by decide +kernel
theorem dX9_goesThrough_104 : decode cX9_goesThrough 104 = .ok (.iconst 0, 1) := by decide +kernel
theorem dX9_goesThrough_105 : decode cX9_goesThrough 105 = .ok (.iadd, 1) := by decide +kernel
theorem dX9_goesThrough_106 : decode cX9_goesThrough 106 = .ok (.putfield 148, 3) := by decide +kernel
theorem dX9_goesThrough_109 : decode cX9_goesThrough 109 = .ok (.iinc 1 1, 3) := by decide +kernel
theorem dX9_goesThrough_112 : decode cX9_goesThrough 112 = .ok (.goto (-95), 3) := by decide +kernel
theorem dX9_goesThrough_115 : decode cX9_goesThrough 115 = .ok (.return_, 1) := by decide +kernel
theorem dX9_least_0 : decode cX9_least 0 = .ok (.iload_n 1, 1) := by decide +kernel
theorem dX9_least_1 : decode cX9_least 1 = .ok (.i2l, 1) := by decide +kernel
theorem dX9_least_2 : decode cX9_least 2 = .ok (.lconst 0, 1) := by decide +kernel
theorem dX9_least_3 : decode cX9_least 3 = .ok (.ldc2_w 158, 3) := by decide +kernel
theorem dX9_least_6 : decode cX9_least 6 = .ok (.invokestatic 76, 3) := by decide +kernel
theorem dX9_least_9 : decode cX9_least 9 = .ok (.ifCond .ne 5, 3) := by decide +kernel
theorem dX9_least_12 : decode cX9_least 12 = .ok (.iconst (-1), 1) := by decide +kernel
theorem dX9_least_13 : decode cX9_least 13 = .ok (.ireturn, 1) := by decide +kernel
theorem dX9_least_14 : decode cX9_least 14 = .ok (.aload_n 0, 1) := by decide +kernel
theorem dX9_least_15 : decode cX9_least 15 = .ok (.invokevirtual 160, 3) := by decide +kernel
theorem dX9_least_18 : decode cX9_least 18 = .ok (.iload_n 1, 1) := by decide +kernel
theorem dX9_least_19 : decode cX9_least 19 = .ok (.ifCond .ne 10, 3) := by decide +kernel
theorem dX9_least_22 : decode cX9_least 22 = .ok (.aload_n 0, 1) := by decide +kernel
theorem dX9_least_23 : decode cX9_least 23 = .ok (.getfield 145, 3) := by decide +kernel
theorem dX9_least_26 : decode cX9_least 26 = .ok (.goto 33, 3) := by decide +kernel
theorem dX9_least_29 : decode cX9_least 29 = .ok (.iload_n 1, 1) := by decide +kernel
theorem dX9_least_30 : decode cX9_least 30 = .ok (.iconst 1, 1) := by decide +kernel
theorem dX9_least_31 : decode cX9_least 31 = .ok (.if_icmp .ne 10, 3) := by decide +kernel
theorem dX9_least_34 : decode cX9_least 34 = .ok (.aload_n 0, 1) := by decide +kernel
theorem dX9_least_35 : decode cX9_least 35 = .ok (.getfield 148, 3) := by decide +kernel
theorem dX9_least_38 : decode cX9_least 38 = .ok (.goto 21, 3) := by decide +kernel
theorem dX9_least_41 : decode cX9_least 41 = .ok (.aload_n 0, 1) := by decide +kernel
theorem dX9_least_42 : decode cX9_least 42 = .ok (.aload_n 0, 1) := by decide +kernel
theorem dX9_least_43 : decode cX9_least 43 = .ok (.getfield 151, 3) := by decide +kernel
theorem dX9_least_46 : decode cX9_least 46 = .ok (.iload_n 1, 1) := by decide +kernel
theorem dX9_least_47 : decode cX9_least 47 = .ok (.iconst 2, 1) := by decide +kernel
theorem dX9_least_48 : decode cX9_least 48 = .ok (.if_icmp .ne 7, 3) := by decide +kernel
theorem dX9_least_51 : decode cX9_least 51 = .ok (.iconst 1, 1) := by decide +kernel
theorem dX9_least_52 : decode cX9_least 52 = .ok (.goto 4, 3) := by decide +kernel
theorem dX9_least_55 : decode cX9_least 55 = .ok (.iconst 0, 1) := by decide +kernel
theorem dX9_least_56 : decode cX9_least 56 = .ok (.invokevirtual 154, 3) := by decide +kernel
theorem dX9_least_59 : decode cX9_least 59 = .ok (.ireturn, 1) := by decide +kernel
theorem dX9_arm_0 : decode cX9_arm 0 = .ok (.iload_n 1, 1) := by decide +kernel
theorem dX9_arm_1 : decode cX9_arm 1 = .ok (.i2l, 1) := by decide +kernel
theorem dX9_arm_2 : decode cX9_arm 2 = .ok (.lconst 0, 1) := by decide +kernel
theorem dX9_arm_3 : decode cX9_arm 3 = .ok (.aload_n 0, 1) := by decide +kernel
theorem dX9_arm_4 : decode cX9_arm 4 = .ok (.getfield 13, 3) := by decide +kernel
theorem dX9_arm_7 : decode cX9_arm 7 = .ok (.iconst 0, 1) := by decide +kernel
theorem dX9_arm_8 : decode cX9_arm 8 = .ok (.iaload, 1) := by decide +kernel
theorem dX9_arm_9 : decode cX9_arm 9 = .ok (.iconst 1, 1) := by decide +kernel
theorem dX9_arm_10 : decode cX9_arm 10 = .ok (.isub, 1) := by decide +kernel
theorem dX9_arm_11 : decode cX9_arm 11 = .ok (.i2l, 1) := by decide +kernel
theorem dX9_arm_12 : decode cX9_arm 12 = .ok (.invokestatic 76, 3) := by decide +kernel
theorem dX9_arm_15 : decode cX9_arm 15 = .ok (.ifCond .eq 13, 3) := by decide +kernel
theorem dX9_arm_18 : decode cX9_arm 18 = .ok (.iload_n 2, 1) := by decide +kernel
theorem dX9_arm_19 : decode cX9_arm 19 = .ok (.i2l, 1) := by decide +kernel
theorem dX9_arm_20 : decode cX9_arm 20 = .ok (.lconst 0, 1) := by decide +kernel
theorem dX9_arm_21 : decode cX9_arm 21 = .ok (.lconst 1, 1) := by decide +kernel
theorem dX9_arm_22 : decode cX9_arm 22 = .ok (.invokestatic 76, 3) := by decide +kernel
theorem dX9_arm_25 : decode cX9_arm 25 = .ok (.ifCond .ne 5, 3) := by decide +kernel
theorem dX9_arm_28 : decode cX9_arm 28 = .ok (.iconst (-1), 1) := by decide +kernel
theorem dX9_arm_29 : decode cX9_arm 29 = .ok (.ireturn, 1) := by decide +kernel
theorem dX9_arm_30 : decode cX9_arm 30 = .ok (.aload_n 0, 1) := by decide +kernel
theorem dX9_arm_31 : decode cX9_arm 31 = .ok (.invokevirtual 160, 3) := by decide +kernel
theorem dX9_arm_34 : decode cX9_arm 34 = .ok (.iload_n 2, 1) := by decide +kernel
theorem dX9_arm_35 : decode cX9_arm 35 = .ok (.ifCond .ne 15, 3) := by decide +kernel
theorem dX9_arm_38 : decode cX9_arm 38 = .ok (.aload_n 0, 1) := by decide +kernel
theorem dX9_arm_39 : decode cX9_arm 39 = .ok (.aload_n 0, 1) := by decide +kernel
theorem dX9_arm_40 : decode cX9_arm 40 = .ok (.getfield 151, 3) := by decide +kernel
theorem dX9_arm_43 : decode cX9_arm 43 = .ok (.iload_n 1, 1) := by decide +kernel
theorem dX9_arm_44 : decode cX9_arm 44 = .ok (.invokevirtual 139, 3) := by decide +kernel
theorem dX9_arm_47 : decode cX9_arm 47 = .ok (.goto 12, 3) := by decide +kernel
theorem dX9_arm_50 : decode cX9_arm 50 = .ok (.aload_n 0, 1) := by decide +kernel
theorem dX9_arm_51 : decode cX9_arm 51 = .ok (.aload_n 0, 1) := by decide +kernel
theorem dX9_arm_52 : decode cX9_arm 52 = .ok (.getfield 151, 3) := by decide +kernel
theorem dX9_arm_55 : decode cX9_arm 55 = .ok (.iload_n 1, 1) := by decide +kernel
theorem dX9_arm_56 : decode cX9_arm 56 = .ok (.invokevirtual 142, 3) := by decide +kernel
theorem dX9_arm_59 : decode cX9_arm 59 = .ok (.ireturn, 1) := by decide +kernel
theorem dX9_legOf_0 : decode cX9_legOf 0 = .ok (.bipush 100, 2) := by decide +kernel
theorem dX9_legOf_2 : decode cX9_legOf 2 = .ok (.aload_n 0, 1) := by decide +kernel
theorem dX9_legOf_3 : decode cX9_legOf 3 = .ok (.getfield 13, 3) := by decide +kernel
theorem dX9_legOf_6 : decode cX9_legOf 6 = .ok (.iconst 2, 1) := by decide +kernel
theorem dX9_legOf_7 : decode cX9_legOf 7 = .ok (.iaload, 1) := by decide +kernel
theorem dX9_legOf_8 : decode cX9_legOf 8 = .ok (.iload_n 1, 1) := by decide +kernel
theorem dX9_legOf_9 : decode cX9_legOf 9 = .ok (.iload_n 3, 1) := by decide +kernel
theorem dX9_legOf_10 : decode cX9_legOf 10 = .ok (.invokestatic 71, 3) := by decide +kernel
theorem dX9_legOf_13 : decode cX9_legOf 13 = .ok (.imul, 1) := by decide +kernel
theorem dX9_legOf_14 : decode cX9_legOf 14 = .ok (.aload_n 0, 1) := by decide +kernel
theorem dX9_legOf_15 : decode cX9_legOf 15 = .ok (.getfield 13, 3) := by decide +kernel
theorem dX9_legOf_18 : decode cX9_legOf 18 = .ok (.iconst 3, 1) := by decide +kernel
theorem dX9_legOf_19 : decode cX9_legOf 19 = .ok (.iaload, 1) := by decide +kernel
theorem dX9_legOf_20 : decode cX9_legOf 20 = .ok (.iload_n 2, 1) := by decide +kernel
theorem dX9_legOf_21 : decode cX9_legOf 21 = .ok (.iload 4, 2) := by decide +kernel
theorem dX9_legOf_23 : decode cX9_legOf 23 = .ok (.invokestatic 71, 3) := by decide +kernel
theorem dX9_legOf_26 : decode cX9_legOf 26 = .ok (.imul, 1) := by decide +kernel
theorem dX9_legOf_27 : decode cX9_legOf 27 = .ok (.iadd, 1) := by decide +kernel
theorem dX9_legOf_28 : decode cX9_legOf 28 = .ok (.imul, 1) := by decide +kernel
theorem dX9_legOf_29 : decode cX9_legOf 29 = .ok (.iconst 1, 1) := by decide +kernel
theorem dX9_legOf_30 : decode cX9_legOf 30 = .ok (.iadd, 1) := by decide +kernel
theorem dX9_legOf_31 : decode cX9_legOf 31 = .ok (.ireturn, 1) := by decide +kernel
theorem dX9_side_0 : decode cX9_side 0 = .ok (.iload_n 2, 1) := by decide +kernel
theorem dX9_side_1 : decode cX9_side 1 = .ok (.ifCond .ne 11, 3) := by decide +kernel
theorem dX9_side_4 : decode cX9_side 4 = .ok (.aload_n 0, 1) := by decide +kernel
theorem dX9_side_5 : decode cX9_side 5 = .ok (.iload_n 1, 1) := by decide +kernel
theorem dX9_side_6 : decode cX9_side 6 = .ok (.invokevirtual 61, 3) := by decide +kernel
theorem dX9_side_9 : decode cX9_side 9 = .ok (.goto 8, 3) := by decide +kernel
theorem dX9_side_12 : decode cX9_side 12 = .ok (.aload_n 0, 1) := by decide +kernel
theorem dX9_side_13 : decode cX9_side 13 = .ok (.iload_n 1, 1) := by decide +kernel
theorem dX9_side_14 : decode cX9_side 14 = .ok (.invokevirtual 65, 3) := by decide +kernel
theorem dX9_side_17 : decode cX9_side 17 = .ok (.ireturn, 1) := by decide +kernel
theorem dX9_lowers_0 : decode cX9_lowers 0 = .ok (.aload_n 0, 1) := by decide +kernel
theorem dX9_lowers_1 : decode cX9_lowers 1 = .ok (.getfield 19, 3) := by decide +kernel
theorem dX9_lowers_4 : decode cX9_lowers 4 = .ok (.iload_n 1, 1) := by decide +kernel
theorem dX9_lowers_5 : decode cX9_lowers 5 = .ok (.iload_n 2, 1) := by decide +kernel
theorem dX9_lowers_6 : decode cX9_lowers 6 = .ok (.aload_n 0, 1) := by decide +kernel
theorem dX9_lowers_7 : decode cX9_lowers 7 = .ok (.getfield 19, 3) := by decide +kernel
theorem dX9_lowers_10 : decode cX9_lowers 10 = .ok (.iload_n 1, 1) := by decide +kernel
theorem dX9_lowers_11 : decode cX9_lowers 11 = .ok (.iaload, 1) := by decide +kernel
theorem dX9_lowers_12 : decode cX9_lowers 12 = .ok (.if_icmp .ge 7, 3) := by decide +kernel
theorem dX9_lowers_15 : decode cX9_lowers 15 = .ok (.iload_n 2, 1) := by decide +kernel
theorem dX9_lowers_16 : decode cX9_lowers 16 = .ok (.goto 9, 3) := by decide +kernel
theorem dX9_lowers_19 : decode cX9_lowers 19 = .ok (.aload_n 0, 1) := by decide +kernel
theorem dX9_lowers_20 : decode cX9_lowers 20 = .ok (.getfield 19, 3) := by decide +kernel
theorem dX9_lowers_23 : decode cX9_lowers 23 = .ok (.iload_n 1, 1) := by decide +kernel
theorem dX9_lowers_24 : decode cX9_lowers 24 = .ok (.iaload, 1) := by decide +kernel
theorem dX9_lowers_25 : decode cX9_lowers 25 = .ok (.iastore, 1) := by decide +kernel
theorem dX9_lowers_26 : decode cX9_lowers 26 = .ok (.return_, 1) := by decide +kernel
theorem dX9_goesOn_0 : decode cX9_goesOn 0 = .ok (.iconst 0, 1) := by decide +kernel
theorem dX9_goesOn_1 : decode cX9_goesOn 1 = .ok (.istore 5, 2) := by decide +kernel
theorem dX9_goesOn_3 : decode cX9_goesOn 3 = .ok (.iload 5, 2) := by decide +kernel
theorem dX9_goesOn_5 : decode cX9_goesOn 5 = .ok (.bipush 54, 2) := by decide +kernel
theorem dX9_goesOn_7 : decode cX9_goesOn 7 = .ok (.if_icmp .ge 223, 3) := by decide +kernel
theorem dX9_goesOn_10 : decode cX9_goesOn 10 = .ok (.aload_n 0, 1) := by decide +kernel
theorem dX9_goesOn_11 : decode cX9_goesOn 11 = .ok (.getfield 19, 3) := by decide +kernel
theorem dX9_goesOn_14 : decode cX9_goesOn 14 = .ok (.bipush 54, 2) := by decide +kernel
theorem dX9_goesOn_16 : decode cX9_goesOn 16 = .ok (.iload_n 1, 1) := by decide +kernel
theorem dX9_goesOn_17 : decode cX9_goesOn 17 = .ok (.imul, 1) := by decide +kernel
theorem dX9_goesOn_18 : decode cX9_goesOn 18 = .ok (.iload 5, 2) := by decide +kernel
theorem dX9_goesOn_20 : decode cX9_goesOn 20 = .ok (.iadd, 1) := by decide +kernel
theorem dX9_goesOn_21 : decode cX9_goesOn 21 = .ok (.iaload, 1) := by decide +kernel
theorem dX9_goesOn_22 : decode cX9_goesOn 22 = .ok (.istore 6, 2) := by decide +kernel
theorem dX9_goesOn_24 : decode cX9_goesOn 24 = .ok (.iload_n 1, 1) := by decide +kernel
theorem dX9_goesOn_25 : decode cX9_goesOn 25 = .ok (.ifCond .ne 7, 3) := by decide +kernel
theorem dX9_goesOn_28 : decode cX9_goesOn 28 = .ok (.iconst 0, 1) := by decide +kernel
theorem dX9_goesOn_29 : decode cX9_goesOn 29 = .ok (.goto 15, 3) := by decide +kernel
theorem dX9_goesOn_32 : decode cX9_goesOn 32 = .ok (.aload_n 0, 1) := by decide +kernel
theorem dX9_goesOn_33 : decode cX9_goesOn 33 = .ok (.iload 5, 2) := by decide +kernel
theorem dX9_goesOn_35 : decode cX9_goesOn 35 = .ok (.iconst 2, 1) := by decide +kernel
theorem dX9_goesOn_36 : decode cX9_goesOn 36 = .ok (.idiv, 1) := by decide +kernel
theorem dX9_goesOn_37 : decode cX9_goesOn 37 = .ok (.iload 5, 2) := by decide +kernel
theorem dX9_goesOn_39 : decode cX9_goesOn 39 = .ok (.iconst 2, 1) := by decide +kernel
theorem dX9_goesOn_40 : decode cX9_goesOn 40 = .ok (.irem, 1) := by decide +kernel
theorem dX9_goesOn_41 : decode cX9_goesOn 41 = .ok (.invokevirtual 163, 3) := by decide +kernel
theorem dX9_goesOn_44 : decode cX9_goesOn 44 = .ok (.istore 7, 2) := by decide +kernel
theorem dX9_goesOn_46 : decode cX9_goesOn 46 = .ok (.iload_n 1, 1) := by decide +kernel
theorem dX9_goesOn_47 : decode cX9_goesOn 47 = .ok (.ifCond .ne 7, 3) := by decide +kernel
theorem dX9_goesOn_50 : decode cX9_goesOn 50 = .ok (.iconst 0, 1) := by decide +kernel
theorem dX9_goesOn_51 : decode cX9_goesOn 51 = .ok (.goto 17, 3) := by decide +kernel
theorem dX9_goesOn_54 : decode cX9_goesOn 54 = .ok (.aload_n 0, 1) := by decide +kernel
theorem dX9_goesOn_55 : decode cX9_goesOn 55 = .ok (.iload 5, 2) := by decide +kernel
theorem dX9_goesOn_57 : decode cX9_goesOn 57 = .ok (.iconst 2, 1) := by decide +kernel
theorem dX9_goesOn_58 : decode cX9_goesOn 58 = .ok (.idiv, 1) := by decide +kernel
theorem dX9_goesOn_59 : decode cX9_goesOn 59 = .ok (.iconst 1, 1) := by decide +kernel
theorem dX9_goesOn_60 : decode cX9_goesOn 60 = .ok (.iload 5, 2) := by decide +kernel
theorem dX9_goesOn_62 : decode cX9_goesOn 62 = .ok (.iconst 2, 1) := by decide +kernel
theorem dX9_goesOn_63 : decode cX9_goesOn 63 = .ok (.irem, 1) := by decide +kernel
theorem dX9_goesOn_64 : decode cX9_goesOn 64 = .ok (.isub, 1) := by decide +kernel
theorem dX9_goesOn_65 : decode cX9_goesOn 65 = .ok (.invokevirtual 163, 3) := by decide +kernel
theorem dX9_goesOn_68 : decode cX9_goesOn 68 = .ok (.istore 8, 2) := by decide +kernel
theorem dX9_goesOn_70 : decode cX9_goesOn 70 = .ok (.iconst 0, 1) := by decide +kernel
theorem dX9_goesOn_71 : decode cX9_goesOn 71 = .ok (.istore 9, 2) := by decide +kernel
theorem dX9_goesOn_73 : decode cX9_goesOn 73 = .ok (.iload 9, 2) := by decide +kernel
theorem dX9_goesOn_75 : decode cX9_goesOn 75 = .ok (.iconst 4, 1) := by decide +kernel
theorem dX9_goesOn_76 : decode cX9_goesOn 76 = .ok (.if_icmp .ge 148, 3) := by decide +kernel
theorem dX9_goesOn_79 : decode cX9_goesOn 79 = .ok (.iload 6, 2) := by decide +kernel
theorem dX9_goesOn_81 : decode cX9_goesOn 81 = .ok (.ldc 166, 2) := by decide +kernel
theorem dX9_goesOn_83 : decode cX9_goesOn 83 = .ok (.if_icmp .ge 141, 3) := by decide +kernel
theorem dX9_goesOn_86 : decode cX9_goesOn 86 = .ok (.iload 6, 2) := by decide +kernel
theorem dX9_goesOn_88 : decode cX9_goesOn 88 = .ok (.istore 10, 2) := by decide +kernel
theorem dX9_goesOn_90 : decode cX9_goesOn 90 = .ok (.iload 7, 2) := by decide +kernel
theorem dX9_goesOn_92 : decode cX9_goesOn 92 = .ok (.istore 11, 2) := by decide +kernel
theorem dX9_goesOn_94 : decode cX9_goesOn 94 = .ok (.iload 8, 2) := by decide +kernel
theorem dX9_goesOn_96 : decode cX9_goesOn 96 = .ok (.istore 12, 2) := by decide +kernel
theorem dX9_goesOn_98 : decode cX9_goesOn 98 = .ok (.iload 4, 2) := by decide +kernel
theorem dX9_goesOn_100 : decode cX9_goesOn 100 = .ok (.ifCond .lt 64, 3) := by decide +kernel
theorem dX9_goesOn_103 : decode cX9_goesOn 103 = .ok (.iload 10, 2) := by decide +kernel
theorem dX9_goesOn_105 : decode cX9_goesOn 105 = .ok (.aload_n 0, 1) := by decide +kernel
theorem dX9_goesOn_106 : decode cX9_goesOn 106 = .ok (.iload 11, 2) := by decide +kernel
theorem dX9_goesOn_108 : decode cX9_goesOn 108 = .ok (.iload 12, 2) := by decide +kernel
theorem dX9_goesOn_110 : decode cX9_goesOn 110 = .ok (.aload_n 0, 1) := by decide +kernel
theorem dX9_goesOn_111 : decode cX9_goesOn 111 = .ok (.iload 4, 2) := by decide +kernel
theorem dX9_goesOn_113 : decode cX9_goesOn 113 = .ok (.iload 9, 2) := by decide +kernel
theorem dX9_goesOn_115 : decode cX9_goesOn 115 = .ok (.iconst 2, 1) := by decide +kernel
theorem dX9_goesOn_116 : decode cX9_goesOn 116 = .ok (.idiv, 1) := by decide +kernel
theorem dX9_goesOn_117 : decode cX9_goesOn 117 = .ok (.invokevirtual 163, 3) := by decide +kernel
theorem dX9_goesOn_120 : decode cX9_goesOn 120 = .ok (.aload_n 0, 1) := by decide +kernel
theorem dX9_goesOn_121 : decode cX9_goesOn 121 = .ok (.iload 4, 2) := by decide +kernel
theorem dX9_goesOn_123 : decode cX9_goesOn 123 = .ok (.iconst 1, 1) := by decide +kernel
theorem dX9_goesOn_124 : decode cX9_goesOn 124 = .ok (.iload 9, 2) := by decide +kernel
theorem dX9_goesOn_126 : decode cX9_goesOn 126 = .ok (.iconst 2, 1) := by decide +kernel
theorem dX9_goesOn_127 : decode cX9_goesOn 127 = .ok (.idiv, 1) := by decide +kernel
theorem dX9_goesOn_128 : decode cX9_goesOn 128 = .ok (.isub, 1) := by decide +kernel
theorem dX9_goesOn_129 : decode cX9_goesOn 129 = .ok (.invokevirtual 163, 3) := by decide +kernel
theorem dX9_goesOn_132 : decode cX9_goesOn 132 = .ok (.invokevirtual 167, 3) := by decide +kernel
theorem dX9_goesOn_135 : decode cX9_goesOn 135 = .ok (.iadd, 1) := by decide +kernel
theorem dX9_goesOn_136 : decode cX9_goesOn 136 = .ok (.istore 10, 2) := by decide +kernel
theorem dX9_goesOn_138 : decode cX9_goesOn 138 = .ok (.aload_n 0, 1) := by decide +kernel
theorem dX9_goesOn_139 : decode cX9_goesOn 139 = .ok (.iload 4, 2) := by decide +kernel
theorem dX9_goesOn_141 : decode cX9_goesOn 141 = .ok (.iload 9, 2) := by decide +kernel
theorem dX9_goesOn_143 : decode cX9_goesOn 143 = .ok (.iconst 2, 1) := by decide +kernel
theorem dX9_goesOn_144 : decode cX9_goesOn 144 = .ok (.idiv, 1) := by decide +kernel
theorem dX9_goesOn_145 : decode cX9_goesOn 145 = .ok (.invokevirtual 163, 3) := by decide +kernel
theorem dX9_goesOn_148 : decode cX9_goesOn 148 = .ok (.istore 11, 2) := by decide +kernel
theorem dX9_goesOn_150 : decode cX9_goesOn 150 = .ok (.aload_n 0, 1) := by decide +kernel
theorem dX9_goesOn_151 : decode cX9_goesOn 151 = .ok (.iload 4, 2) := by decide +kernel
theorem dX9_goesOn_153 : decode cX9_goesOn 153 = .ok (.iconst 1, 1) := by decide +kernel
theorem dX9_goesOn_154 : decode cX9_goesOn 154 = .ok (.iload 9, 2) := by decide +kernel
theorem dX9_goesOn_156 : decode cX9_goesOn 156 = .ok (.iconst 2, 1) := by decide +kernel
theorem dX9_goesOn_157 : decode cX9_goesOn 157 = .ok (.idiv, 1) := by decide +kernel
theorem dX9_goesOn_158 : decode cX9_goesOn 158 = .ok (.isub, 1) := by decide +kernel
theorem dX9_goesOn_159 : decode cX9_goesOn 159 = .ok (.invokevirtual 163, 3) := by decide +kernel
theorem dX9_goesOn_162 : decode cX9_goesOn 162 = .ok (.istore 12, 2) := by decide +kernel
theorem dX9_goesOn_164 : decode cX9_goesOn 164 = .ok (.iload 10, 2) := by decide +kernel
theorem dX9_goesOn_166 : decode cX9_goesOn 166 = .ok (.aload_n 0, 1) := by decide +kernel
theorem dX9_goesOn_167 : decode cX9_goesOn 167 = .ok (.iload 11, 2) := by decide +kernel
theorem dX9_goesOn_169 : decode cX9_goesOn 169 = .ok (.iload 12, 2) := by decide +kernel
theorem dX9_goesOn_171 : decode cX9_goesOn 171 = .ok (.aload_n 0, 1) := by decide +kernel
theorem dX9_goesOn_172 : decode cX9_goesOn 172 = .ok (.iload_n 2, 1) := by decide +kernel
theorem dX9_goesOn_173 : decode cX9_goesOn 173 = .ok (.iload 9, 2) := by decide +kernel
theorem dX9_goesOn_175 : decode cX9_goesOn 175 = .ok (.iconst 2, 1) := by decide +kernel
theorem dX9_goesOn_176 : decode cX9_goesOn 176 = .ok (.irem, 1) := by decide +kernel
theorem dX9_goesOn_177 : decode cX9_goesOn 177 = .ok (.invokevirtual 163, 3) := by decide +kernel
theorem dX9_goesOn_180 : decode cX9_goesOn 180 = .ok (.aload_n 0, 1) := by decide +kernel
theorem dX9_goesOn_181 : decode cX9_goesOn 181 = .ok (.iload_n 2, 1) := by decide +kernel
theorem dX9_goesOn_182 : decode cX9_goesOn 182 = .ok (.iconst 1, 1) := by decide +kernel
theorem dX9_goesOn_183 : decode cX9_goesOn 183 = .ok (.iload 9, 2) := by decide +kernel
theorem dX9_goesOn_185 : decode cX9_goesOn 185 = .ok (.iconst 2, 1) := by decide +kernel
theorem dX9_goesOn_186 : decode cX9_goesOn 186 = .ok (.irem, 1) := by decide +kernel
theorem dX9_goesOn_187 : decode cX9_goesOn 187 = .ok (.isub, 1) := by decide +kernel
theorem dX9_goesOn_188 : decode cX9_goesOn 188 = .ok (.invokevirtual 163, 3) := by decide +kernel
theorem dX9_goesOn_191 : decode cX9_goesOn 191 = .ok (.invokevirtual 167, 3) := by decide +kernel
theorem dX9_goesOn_194 : decode cX9_goesOn 194 = .ok (.iadd, 1) := by decide +kernel
theorem dX9_goesOn_195 : decode cX9_goesOn 195 = .ok (.istore 10, 2) := by decide +kernel
theorem dX9_goesOn_197 : decode cX9_goesOn 197 = .ok (.aload_n 0, 1) := by decide +kernel
theorem dX9_goesOn_198 : decode cX9_goesOn 198 = .ok (.bipush 54, 2) := by decide +kernel
theorem dX9_goesOn_200 : decode cX9_goesOn 200 = .ok (.iload_n 1, 1) := by decide +kernel
theorem dX9_goesOn_201 : decode cX9_goesOn 201 = .ok (.iload_n 3, 1) := by decide +kernel
theorem dX9_goesOn_202 : decode cX9_goesOn 202 = .ok (.iadd, 1) := by decide +kernel
theorem dX9_goesOn_203 : decode cX9_goesOn 203 = .ok (.imul, 1) := by decide +kernel
theorem dX9_goesOn_204 : decode cX9_goesOn 204 = .ok (.iconst 2, 1) := by decide +kernel
theorem dX9_goesOn_205 : decode cX9_goesOn 205 = .ok (.iload_n 2, 1) := by decide +kernel
theorem dX9_goesOn_206 : decode cX9_goesOn 206 = .ok (.imul, 1) := by decide +kernel
theorem dX9_goesOn_207 : decode cX9_goesOn 207 = .ok (.iadd, 1) := by decide +kernel
theorem dX9_goesOn_208 : decode cX9_goesOn 208 = .ok (.iload 9, 2) := by decide +kernel
theorem dX9_goesOn_210 : decode cX9_goesOn 210 = .ok (.iconst 2, 1) := by decide +kernel
theorem dX9_goesOn_211 : decode cX9_goesOn 211 = .ok (.irem, 1) := by decide +kernel
theorem dX9_goesOn_212 : decode cX9_goesOn 212 = .ok (.iadd, 1) := by decide +kernel
theorem dX9_goesOn_213 : decode cX9_goesOn 213 = .ok (.iload 10, 2) := by decide +kernel
theorem dX9_goesOn_215 : decode cX9_goesOn 215 = .ok (.invokevirtual 170, 3) := by decide +kernel
theorem dX9_goesOn_218 : decode cX9_goesOn 218 = .ok (.iinc 9 1, 3) := by decide +kernel
theorem dX9_goesOn_221 : decode cX9_goesOn 221 = .ok (.goto (-148), 3) := by decide +kernel
theorem dX9_goesOn_224 : decode cX9_goesOn 224 = .ok (.iinc 5 1, 3) := by decide +kernel
theorem dX9_goesOn_227 : decode cX9_goesOn 227 = .ok (.goto (-224), 3) := by decide +kernel
theorem dX9_goesOn_230 : decode cX9_goesOn 230 = .ok (.return_, 1) := by decide +kernel
theorem dX9_stands_0 : decode cX9_stands 0 = .ok (.iload_n 2, 1) := by decide +kernel
theorem dX9_stands_1 : decode cX9_stands 1 = .ok (.aload_n 0, 1) := by decide +kernel
theorem dX9_stands_2 : decode cX9_stands 2 = .ok (.iload_n 1, 1) := by decide +kernel
theorem dX9_stands_3 : decode cX9_stands 3 = .ok (.invokevirtual 100, 3) := by decide +kernel
theorem dX9_stands_6 : decode cX9_stands 6 = .ok (.iadd, 1) := by decide +kernel
theorem dX9_stands_7 : decode cX9_stands 7 = .ok (.aload_n 0, 1) := by decide +kernel
theorem dX9_stands_8 : decode cX9_stands 8 = .ok (.getfield 13, 3) := by decide +kernel
theorem dX9_stands_11 : decode cX9_stands 11 = .ok (.iconst 0, 1) := by decide +kernel
theorem dX9_stands_12 : decode cX9_stands 12 = .ok (.iaload, 1) := by decide +kernel
theorem dX9_stands_13 : decode cX9_stands 13 = .ok (.if_icmp .gt 7, 3) := by decide +kernel
theorem dX9_stands_16 : decode cX9_stands 16 = .ok (.iconst 1, 1) := by decide +kernel
theorem dX9_stands_17 : decode cX9_stands 17 = .ok (.goto 4, 3) := by decide +kernel
theorem dX9_stands_20 : decode cX9_stands 20 = .ok (.iconst 0, 1) := by decide +kernel
theorem dX9_stands_21 : decode cX9_stands 21 = .ok (.istore_n 3, 1) := by decide +kernel
theorem dX9_stands_22 : decode cX9_stands 22 = .ok (.iconst 0, 1) := by decide +kernel
theorem dX9_stands_23 : decode cX9_stands 23 = .ok (.istore 4, 2) := by decide +kernel
theorem dX9_stands_25 : decode cX9_stands 25 = .ok (.iload 4, 2) := by decide +kernel
theorem dX9_stands_27 : decode cX9_stands 27 = .ok (.aload_n 0, 1) := by decide +kernel
theorem dX9_stands_28 : decode cX9_stands 28 = .ok (.iload_n 1, 1) := by decide +kernel
theorem dX9_stands_29 : decode cX9_stands 29 = .ok (.invokevirtual 100, 3) := by decide +kernel
theorem dX9_stands_32 : decode cX9_stands 32 = .ok (.if_icmp .ge 37, 3) := by decide +kernel
theorem dX9_stands_35 : decode cX9_stands 35 = .ok (.iload_n 3, 1) := by decide +kernel
theorem dX9_stands_36 : decode cX9_stands 36 = .ok (.ifCond .eq 33, 3) := by decide +kernel
theorem dX9_stands_39 : decode cX9_stands 39 = .ok (.aload_n 0, 1) := by decide +kernel
theorem dX9_stands_40 : decode cX9_stands 40 = .ok (.iload_n 2, 1) := by decide +kernel
theorem dX9_stands_41 : decode cX9_stands 41 = .ok (.iload 4, 2) := by decide +kernel
theorem dX9_stands_43 : decode cX9_stands 43 = .ok (.iadd, 1) := by decide +kernel
theorem dX9_stands_44 : decode cX9_stands 44 = .ok (.invokevirtual 91, 3) := by decide +kernel
theorem dX9_stands_47 : decode cX9_stands 47 = .ok (.aload_n 0, 1) := by decide +kernel
theorem dX9_stands_48 : decode cX9_stands 48 = .ok (.iload_n 1, 1) := by decide +kernel
theorem dX9_stands_49 : decode cX9_stands 49 = .ok (.iload 4, 2) := by decide +kernel
theorem dX9_stands_51 : decode cX9_stands 51 = .ok (.invokevirtual 103, 3) := by decide +kernel
theorem dX9_stands_54 : decode cX9_stands 54 = .ok (.if_icmp .ne 7, 3) := by decide +kernel
theorem dX9_stands_57 : decode cX9_stands 57 = .ok (.iconst 1, 1) := by decide +kernel
theorem dX9_stands_58 : decode cX9_stands 58 = .ok (.goto 4, 3) := by decide +kernel
theorem dX9_stands_61 : decode cX9_stands 61 = .ok (.iconst 0, 1) := by decide +kernel
theorem dX9_stands_62 : decode cX9_stands 62 = .ok (.istore_n 3, 1) := by decide +kernel
theorem dX9_stands_63 : decode cX9_stands 63 = .ok (.iinc 4 1, 3) := by decide +kernel
theorem dX9_stands_66 : decode cX9_stands 66 = .ok (.goto (-41), 3) := by decide +kernel
theorem dX9_stands_69 : decode cX9_stands 69 = .ok (.iload_n 3, 1) := by decide +kernel
theorem dX9_stands_70 : decode cX9_stands 70 = .ok (.ireturn, 1) := by decide +kernel
theorem dX9_brief_0 : decode cX9_brief 0 = .ok (.iload_n 1, 1) := by decide +kernel
theorem dX9_brief_1 : decode cX9_brief 1 = .ok (.i2l, 1) := by decide +kernel
theorem dX9_brief_2 : decode cX9_brief 2 = .ok (.lconst 0, 1) := by decide +kernel
theorem dX9_brief_3 : decode cX9_brief 3 = .ok (.lconst 1, 1) := by decide +kernel
theorem dX9_brief_4 : decode cX9_brief 4 = .ok (.invokestatic 76, 3) := by decide +kernel
theorem dX9_brief_7 : decode cX9_brief 7 = .ok (.ifCond .ne 5, 3) := by decide +kernel
theorem dX9_brief_10 : decode cX9_brief 10 = .ok (.iconst (-1), 1) := by decide +kernel
theorem dX9_brief_11 : decode cX9_brief 11 = .ok (.ireturn, 1) := by decide +kernel
theorem dX9_brief_12 : decode cX9_brief 12 = .ok (.iconst 0, 1) := by decide +kernel
theorem dX9_brief_13 : decode cX9_brief 13 = .ok (.istore_n 2, 1) := by decide +kernel
theorem dX9_brief_14 : decode cX9_brief 14 = .ok (.iload_n 2, 1) := by decide +kernel
theorem dX9_brief_15 : decode cX9_brief 15 = .ok (.sipush 702, 3) := by decide +kernel
theorem dX9_brief_18 : decode cX9_brief 18 = .ok (.if_icmp .ge 17, 3) := by decide +kernel
theorem dX9_brief_21 : decode cX9_brief 21 = .ok (.aload_n 0, 1) := by decide +kernel
theorem dX9_brief_22 : decode cX9_brief 22 = .ok (.getfield 19, 3) := by decide +kernel
theorem dX9_brief_25 : decode cX9_brief 25 = .ok (.iload_n 2, 1) := by decide +kernel
theorem dX9_brief_26 : decode cX9_brief 26 = .ok (.ldc 166, 2) := by decide +kernel
theorem dX9_brief_28 : decode cX9_brief 28 = .ok (.iastore, 1) := by decide +kernel
theorem dX9_brief_29 : decode cX9_brief 29 = .ok (.iinc 2 1, 3) := by decide +kernel
theorem dX9_brief_32 : decode cX9_brief 32 = .ok (.goto (-18), 3) := by decide +kernel
theorem dX9_brief_35 : decode cX9_brief 35 = .ok (.aload_n 0, 1) := by decide +kernel
theorem dX9_brief_36 : decode cX9_brief 36 = .ok (.getfield 19, 3) := by decide +kernel
theorem dX9_brief_39 : decode cX9_brief 39 = .ok (.iconst 0, 1) := by decide +kernel
theorem dX9_brief_40 : decode cX9_brief 40 = .ok (.iconst 0, 1) := by decide +kernel
theorem dX9_brief_41 : decode cX9_brief 41 = .ok (.iastore, 1) := by decide +kernel
theorem dX9_brief_42 : decode cX9_brief 42 = .ok (.iconst 0, 1) := by decide +kernel
theorem dX9_brief_43 : decode cX9_brief 43 = .ok (.istore_n 2, 1) := by decide +kernel
theorem dX9_brief_44 : decode cX9_brief 44 = .ok (.iload_n 2, 1) := by decide +kernel
theorem dX9_brief_45 : decode cX9_brief 45 = .ok (.aload_n 0, 1) := by decide +kernel
theorem dX9_brief_46 : decode cX9_brief 46 = .ok (.getfield 13, 3) := by decide +kernel
theorem dX9_brief_49 : decode cX9_brief 49 = .ok (.iconst 0, 1) := by decide +kernel
theorem dX9_brief_50 : decode cX9_brief 50 = .ok (.iaload, 1) := by decide +kernel
theorem dX9_brief_51 : decode cX9_brief 51 = .ok (.if_icmp .ge 61, 3) := by decide +kernel
theorem dX9_brief_54 : decode cX9_brief 54 = .ok (.aload_n 0, 1) := by decide +kernel
theorem dX9_brief_55 : decode cX9_brief 55 = .ok (.iload_n 2, 1) := by decide +kernel
theorem dX9_brief_56 : decode cX9_brief 56 = .ok (.aload_n 0, 1) := by decide +kernel
theorem dX9_brief_57 : decode cX9_brief 57 = .ok (.iload_n 2, 1) := by decide +kernel
theorem dX9_brief_58 : decode cX9_brief 58 = .ok (.invokevirtual 91, 3) := by decide +kernel
theorem dX9_brief_61 : decode cX9_brief 61 = .ok (.iconst 1, 1) := by decide +kernel
theorem dX9_brief_62 : decode cX9_brief 62 = .ok (.iconst (-1), 1) := by decide +kernel
theorem dX9_brief_63 : decode cX9_brief 63 = .ok (.invokevirtual 174, 3) := by decide +kernel
theorem dX9_brief_66 : decode cX9_brief 66 = .ok (.iconst 0, 1) := by decide +kernel
theorem dX9_brief_67 : decode cX9_brief 67 = .ok (.istore_n 3, 1) := by decide +kernel
theorem dX9_brief_68 : decode cX9_brief 68 = .ok (.iload_n 3, 1) := by decide +kernel
theorem dX9_brief_69 : decode cX9_brief 69 = .ok (.aload_n 0, 1) := by decide +kernel
theorem dX9_brief_70 : decode cX9_brief 70 = .ok (.getfield 13, 3) := by decide +kernel
theorem dX9_brief_73 : decode cX9_brief 73 = .ok (.iconst 1, 1) := by decide +kernel
theorem dX9_brief_74 : decode cX9_brief 74 = .ok (.iaload, 1) := by decide +kernel
theorem dX9_brief_75 : decode cX9_brief 75 = .ok (.if_icmp .ge 31, 3) := by decide +kernel
theorem dX9_brief_78 : decode cX9_brief 78 = .ok (.aload_n 0, 1) := by decide +kernel
theorem dX9_brief_79 : decode cX9_brief 79 = .ok (.iload_n 3, 1) := by decide +kernel
theorem dX9_brief_80 : decode cX9_brief 80 = .ok (.iload_n 2, 1) := by decide +kernel
theorem dX9_brief_81 : decode cX9_brief 81 = .ok (.invokevirtual 178, 3) := by decide +kernel
theorem dX9_brief_84 : decode cX9_brief 84 = .ok (.ifCond .eq 16, 3) := by decide +kernel
theorem dX9_brief_87 : decode cX9_brief 87 = .ok (.aload_n 0, 1) := by decide +kernel
theorem dX9_brief_88 : decode cX9_brief 88 = .ok (.iload_n 2, 1) := by decide +kernel
theorem dX9_brief_89 : decode cX9_brief 89 = .ok (.iload_n 3, 1) := by decide +kernel
theorem dX9_brief_90 : decode cX9_brief 90 = .ok (.aload_n 0, 1) := by decide +kernel
theorem dX9_brief_91 : decode cX9_brief 91 = .ok (.iload_n 3, 1) := by decide +kernel
theorem dX9_brief_92 : decode cX9_brief 92 = .ok (.invokevirtual 100, 3) := by decide +kernel
theorem dX9_brief_95 : decode cX9_brief 95 = .ok (.bipush 26, 2) := by decide +kernel
theorem dX9_brief_97 : decode cX9_brief 97 = .ok (.invokevirtual 174, 3) := by decide +kernel
theorem dX9_brief_100 : decode cX9_brief 100 = .ok (.iinc 3 1, 3) := by decide +kernel
theorem dX9_brief_103 : decode cX9_brief 103 = .ok (.goto (-35), 3) := by decide +kernel
theorem dX9_brief_106 : decode cX9_brief 106 = .ok (.iinc 2 1, 3) := by decide +kernel
theorem dX9_brief_109 : decode cX9_brief 109 = .ok (.goto (-65), 3) := by decide +kernel
theorem dX9_brief_112 : decode cX9_brief 112 = .ok (.ldc 166, 2) := by decide +kernel
theorem dX9_brief_114 : decode cX9_brief 114 = .ok (.istore_n 2, 1) := by decide +kernel
theorem dX9_brief_115 : decode cX9_brief 115 = .ok (.iconst 0, 1) := by decide +kernel
theorem dX9_brief_116 : decode cX9_brief 116 = .ok (.istore_n 3, 1) := by decide +kernel
theorem dX9_brief_117 : decode cX9_brief 117 = .ok (.iload_n 3, 1) := by decide +kernel
theorem dX9_brief_118 : decode cX9_brief 118 = .ok (.bipush 54, 2) := by decide +kernel
theorem dX9_brief_120 : decode cX9_brief 120 = .ok (.if_icmp .ge 50, 3) := by decide +kernel
theorem dX9_brief_123 : decode cX9_brief 123 = .ok (.aload_n 0, 1) := by decide +kernel
theorem dX9_brief_124 : decode cX9_brief 124 = .ok (.getfield 19, 3) := by decide +kernel
theorem dX9_brief_127 : decode cX9_brief 127 = .ok (.bipush 54, 2) := by decide +kernel
theorem dX9_brief_129 : decode cX9_brief 129 = .ok (.aload_n 0, 1) := by decide +kernel
theorem dX9_brief_130 : decode cX9_brief 130 = .ok (.getfield 13, 3) := by decide +kernel
theorem dX9_brief_133 : decode cX9_brief 133 = .ok (.iconst 0, 1) := by decide +kernel
theorem dX9_brief_134 : decode cX9_brief 134 = .ok (.iaload, 1) := by decide +kernel
theorem dX9_brief_135 : decode cX9_brief 135 = .ok (.imul, 1) := by decide +kernel
theorem dX9_brief_136 : decode cX9_brief 136 = .ok (.iload_n 3, 1) := by decide +kernel
theorem dX9_brief_137 : decode cX9_brief 137 = .ok (.iadd, 1) := by decide +kernel
theorem dX9_brief_138 : decode cX9_brief 138 = .ok (.iaload, 1) := by decide +kernel
theorem dX9_brief_139 : decode cX9_brief 139 = .ok (.iload_n 2, 1) := by decide +kernel
theorem dX9_brief_140 : decode cX9_brief 140 = .ok (.if_icmp .ge 22, 3) := by decide +kernel
theorem dX9_brief_143 : decode cX9_brief 143 = .ok (.aload_n 0, 1) := by decide +kernel
theorem dX9_brief_144 : decode cX9_brief 144 = .ok (.getfield 19, 3) := by decide +kernel
theorem dX9_brief_147 : decode cX9_brief 147 = .ok (.bipush 54, 2) := by decide +kernel
theorem dX9_brief_149 : decode cX9_brief 149 = .ok (.aload_n 0, 1) := by decide +kernel
theorem dX9_brief_150 : decode cX9_brief 150 = .ok (.getfield 13, 3) := by decide +kernel
theorem dX9_brief_153 : decode cX9_brief 153 = .ok (.iconst 0, 1) := by decide +kernel
theorem dX9_brief_154 : decode cX9_brief 154 = .ok (.iaload, 1) := by decide +kernel
theorem dX9_brief_155 : decode cX9_brief 155 = .ok (.imul, 1) := by decide +kernel
theorem dX9_brief_156 : decode cX9_brief 156 = .ok (.iload_n 3, 1) := by decide +kernel
theorem dX9_brief_157 : decode cX9_brief 157 = .ok (.iadd, 1) := by decide +kernel
theorem dX9_brief_158 : decode cX9_brief 158 = .ok (.iaload, 1) := by decide +kernel
theorem dX9_brief_159 : decode cX9_brief 159 = .ok (.goto 4, 3) := by decide +kernel
theorem dX9_brief_162 : decode cX9_brief 162 = .ok (.iload_n 2, 1) := by decide +kernel
theorem dX9_brief_163 : decode cX9_brief 163 = .ok (.istore_n 2, 1) := by decide +kernel
theorem dX9_brief_164 : decode cX9_brief 164 = .ok (.iinc 3 1, 3) := by decide +kernel
theorem dX9_brief_167 : decode cX9_brief 167 = .ok (.goto (-50), 3) := by decide +kernel
theorem dX9_brief_170 : decode cX9_brief 170 = .ok (.iload_n 1, 1) := by decide +kernel
theorem dX9_brief_171 : decode cX9_brief 171 = .ok (.ifCond .ne 10, 3) := by decide +kernel
theorem dX9_brief_174 : decode cX9_brief 174 = .ok (.iload_n 2, 1) := by decide +kernel
theorem dX9_brief_175 : decode cX9_brief 175 = .ok (.bipush 100, 2) := by decide +kernel
theorem dX9_brief_177 : decode cX9_brief 177 = .ok (.idiv, 1) := by decide +kernel
theorem dX9_brief_178 : decode cX9_brief 178 = .ok (.goto 7, 3) := by decide +kernel
theorem dX9_brief_181 : decode cX9_brief 181 = .ok (.iload_n 2, 1) := by decide +kernel
theorem dX9_brief_182 : decode cX9_brief 182 = .ok (.bipush 100, 2) := by decide +kernel
theorem dX9_brief_184 : decode cX9_brief 184 = .ok (.irem, 1) := by decide +kernel
theorem dX9_brief_185 : decode cX9_brief 185 = .ok (.ireturn, 1) := by decide +kernel
theorem dX9_sees_0 : decode cX9_sees 0 = .ok (.aload_n 0, 1) := by decide +kernel
theorem dX9_sees_1 : decode cX9_sees 1 = .ok (.aload_n 0, 1) := by decide +kernel
theorem dX9_sees_2 : decode cX9_sees 2 = .ok (.getfield 13, 3) := by decide +kernel
theorem dX9_sees_5 : decode cX9_sees 5 = .ok (.iconst 0, 1) := by decide +kernel
theorem dX9_sees_6 : decode cX9_sees 6 = .ok (.iaload, 1) := by decide +kernel
theorem dX9_sees_7 : decode cX9_sees 7 = .ok (.putfield 182, 3) := by decide +kernel
theorem dX9_sees_10 : decode cX9_sees 10 = .ok (.iconst 0, 1) := by decide +kernel
theorem dX9_sees_11 : decode cX9_sees 11 = .ok (.istore_n 1, 1) := by decide +kernel
theorem dX9_sees_12 : decode cX9_sees 12 = .ok (.iload_n 1, 1) := by decide +kernel
theorem dX9_sees_13 : decode cX9_sees 13 = .ok (.aload_n 0, 1) := by decide +kernel
theorem dX9_sees_14 : decode cX9_sees 14 = .ok (.getfield 182, 3) := by decide +kernel
theorem dX9_sees_17 : decode cX9_sees 17 = .ok (.if_icmp .ge 39, 3) := by decide +kernel
theorem dX9_sees_20 : decode cX9_sees 20 = .ok (.aload_n 0, 1) := by decide +kernel
theorem dX9_sees_21 : decode cX9_sees 21 = .ok (.getfield 22, 3) := by decide +kernel
theorem dX9_sees_24 : decode cX9_sees 24 = .ok (.iload_n 1, 1) := by decide +kernel
theorem dX9_sees_25 : decode cX9_sees 25 = .ok (.aload_n 0, 1) := by decide +kernel
theorem dX9_sees_26 : decode cX9_sees 26 = .ok (.aload_n 0, 1) := by decide +kernel
theorem dX9_sees_27 : decode cX9_sees 27 = .ok (.iload_n 1, 1) := by decide +kernel
theorem dX9_sees_28 : decode cX9_sees 28 = .ok (.invokevirtual 91, 3) := by decide +kernel
theorem dX9_sees_31 : decode cX9_sees 31 = .ok (.invokevirtual 61, 3) := by decide +kernel
theorem dX9_sees_34 : decode cX9_sees 34 = .ok (.iastore, 1) := by decide +kernel
theorem dX9_sees_35 : decode cX9_sees 35 = .ok (.aload_n 0, 1) := by decide +kernel
theorem dX9_sees_36 : decode cX9_sees 36 = .ok (.getfield 25, 3) := by decide +kernel
theorem dX9_sees_39 : decode cX9_sees 39 = .ok (.iload_n 1, 1) := by decide +kernel
theorem dX9_sees_40 : decode cX9_sees 40 = .ok (.aload_n 0, 1) := by decide +kernel
theorem dX9_sees_41 : decode cX9_sees 41 = .ok (.aload_n 0, 1) := by decide +kernel
theorem dX9_sees_42 : decode cX9_sees 42 = .ok (.iload_n 1, 1) := by decide +kernel
theorem dX9_sees_43 : decode cX9_sees 43 = .ok (.invokevirtual 91, 3) := by decide +kernel
theorem dX9_sees_46 : decode cX9_sees 46 = .ok (.invokevirtual 65, 3) := by decide +kernel
theorem dX9_sees_49 : decode cX9_sees 49 = .ok (.iastore, 1) := by decide +kernel
theorem dX9_sees_50 : decode cX9_sees 50 = .ok (.iinc 1 1, 3) := by decide +kernel
theorem dX9_sees_53 : decode cX9_sees 53 = .ok (.goto (-41), 3) := by decide +kernel
theorem dX9_sees_56 : decode cX9_sees 56 = .ok (.return_, 1) := by decide +kernel
theorem dX9_nears_0 : decode cX9_nears 0 = .ok (.aload_n 0, 1) := by decide +kernel
theorem dX9_nears_1 : decode cX9_nears 1 = .ok (.bipush (-4), 2) := by decide +kernel
theorem dX9_nears_3 : decode cX9_nears 3 = .ok (.putfield 185, 3) := by decide +kernel
theorem dX9_nears_6 : decode cX9_nears 6 = .ok (.aload_n 0, 1) := by decide +kernel
theorem dX9_nears_7 : decode cX9_nears 7 = .ok (.bipush (-4), 2) := by decide +kernel
theorem dX9_nears_9 : decode cX9_nears 9 = .ok (.putfield 188, 3) := by decide +kernel
theorem dX9_nears_12 : decode cX9_nears 12 = .ok (.aload_n 0, 1) := by decide +kernel
theorem dX9_nears_13 : decode cX9_nears 13 = .ok (.iconst 0, 1) := by decide +kernel
theorem dX9_nears_14 : decode cX9_nears 14 = .ok (.putfield 191, 3) := by decide +kernel
theorem dX9_nears_17 : decode cX9_nears 17 = .ok (.iconst 0, 1) := by decide +kernel
theorem dX9_nears_18 : decode cX9_nears 18 = .ok (.istore_n 1, 1) := by decide +kernel
theorem dX9_nears_19 : decode cX9_nears 19 = .ok (.iload_n 1, 1) := by decide +kernel
theorem dX9_nears_20 : decode cX9_nears 20 = .ok (.aload_n 0, 1) := by decide +kernel
theorem dX9_nears_21 : decode cX9_nears 21 = .ok (.getfield 13, 3) := by decide +kernel
theorem dX9_nears_24 : decode cX9_nears 24 = .ok (.iconst 1, 1) := by decide +kernel
theorem dX9_nears_25 : decode cX9_nears 25 = .ok (.iaload, 1) := by decide +kernel
theorem dX9_nears_26 : decode cX9_nears 26 = .ok (.if_icmp .ge 182, 3) := by decide +kernel
theorem dX9_nears_29 : decode cX9_nears 29 = .ok (.iconst 0, 1) := by decide +kernel
theorem dX9_nears_30 : decode cX9_nears 30 = .ok (.istore_n 2, 1) := by decide +kernel
theorem dX9_nears_31 : decode cX9_nears 31 = .ok (.iconst 0, 1) := by decide +kernel
theorem dX9_nears_32 : decode cX9_nears 32 = .ok (.istore_n 3, 1) := by decide +kernel
theorem dX9_nears_33 : decode cX9_nears 33 = .ok (.iload_n 3, 1) := by decide +kernel
theorem dX9_nears_34 : decode cX9_nears 34 = .ok (.aload_n 0, 1) := by decide +kernel
theorem dX9_nears_35 : decode cX9_nears 35 = .ok (.getfield 182, 3) := by decide +kernel
theorem dX9_nears_38 : decode cX9_nears 38 = .ok (.if_icmp .ge 59, 3) := by decide +kernel
theorem dX9_nears_41 : decode cX9_nears 41 = .ok (.aload_n 0, 1) := by decide +kernel
theorem dX9_nears_42 : decode cX9_nears 42 = .ok (.iload_n 1, 1) := by decide +kernel
theorem dX9_nears_43 : decode cX9_nears 43 = .ok (.invokevirtual 100, 3) := by decide +kernel
theorem dX9_nears_46 : decode cX9_nears 46 = .ok (.aload_n 0, 1) := by decide +kernel
theorem dX9_nears_47 : decode cX9_nears 47 = .ok (.getfield 182, 3) := by decide +kernel
theorem dX9_nears_50 : decode cX9_nears 50 = .ok (.if_icmp .ne 47, 3) := by decide +kernel
theorem dX9_nears_53 : decode cX9_nears 53 = .ok (.iload_n 2, 1) := by decide +kernel
theorem dX9_nears_54 : decode cX9_nears 54 = .ok (.aload_n 0, 1) := by decide +kernel
theorem dX9_nears_55 : decode cX9_nears 55 = .ok (.getfield 22, 3) := by decide +kernel
theorem dX9_nears_58 : decode cX9_nears 58 = .ok (.iload_n 3, 1) := by decide +kernel
theorem dX9_nears_59 : decode cX9_nears 59 = .ok (.iaload, 1) := by decide +kernel
theorem dX9_nears_60 : decode cX9_nears 60 = .ok (.aload_n 0, 1) := by decide +kernel
theorem dX9_nears_61 : decode cX9_nears 61 = .ok (.getfield 25, 3) := by decide +kernel
theorem dX9_nears_64 : decode cX9_nears 64 = .ok (.iload_n 3, 1) := by decide +kernel
theorem dX9_nears_65 : decode cX9_nears 65 = .ok (.iaload, 1) := by decide +kernel
theorem dX9_nears_66 : decode cX9_nears 66 = .ok (.aload_n 0, 1) := by decide +kernel
theorem dX9_nears_67 : decode cX9_nears 67 = .ok (.aload_n 0, 1) := by decide +kernel
theorem dX9_nears_68 : decode cX9_nears 68 = .ok (.iload_n 1, 1) := by decide +kernel
theorem dX9_nears_69 : decode cX9_nears 69 = .ok (.iload_n 3, 1) := by decide +kernel
theorem dX9_nears_70 : decode cX9_nears 70 = .ok (.invokevirtual 103, 3) := by decide +kernel
theorem dX9_nears_73 : decode cX9_nears 73 = .ok (.invokevirtual 61, 3) := by decide +kernel
theorem dX9_nears_76 : decode cX9_nears 76 = .ok (.aload_n 0, 1) := by decide +kernel
theorem dX9_nears_77 : decode cX9_nears 77 = .ok (.aload_n 0, 1) := by decide +kernel
theorem dX9_nears_78 : decode cX9_nears 78 = .ok (.iload_n 1, 1) := by decide +kernel
theorem dX9_nears_79 : decode cX9_nears 79 = .ok (.iload_n 3, 1) := by decide +kernel
theorem dX9_nears_80 : decode cX9_nears 80 = .ok (.invokevirtual 103, 3) := by decide +kernel
theorem dX9_nears_83 : decode cX9_nears 83 = .ok (.invokevirtual 65, 3) := by decide +kernel
theorem dX9_nears_86 : decode cX9_nears 86 = .ok (.invokestatic 87, 3) := by decide +kernel
theorem dX9_nears_89 : decode cX9_nears 89 = .ok (.iadd, 1) := by decide +kernel
theorem dX9_nears_90 : decode cX9_nears 90 = .ok (.istore_n 2, 1) := by decide +kernel
theorem dX9_nears_91 : decode cX9_nears 91 = .ok (.iinc 3 1, 3) := by decide +kernel
theorem dX9_nears_94 : decode cX9_nears 94 = .ok (.goto (-61), 3) := by decide +kernel
theorem dX9_nears_97 : decode cX9_nears 97 = .ok (.aload_n 0, 1) := by decide +kernel
theorem dX9_nears_98 : decode cX9_nears 98 = .ok (.iload_n 1, 1) := by decide +kernel
theorem dX9_nears_99 : decode cX9_nears 99 = .ok (.invokevirtual 100, 3) := by decide +kernel
theorem dX9_nears_102 : decode cX9_nears 102 = .ok (.aload_n 0, 1) := by decide +kernel
theorem dX9_nears_103 : decode cX9_nears 103 = .ok (.getfield 182, 3) := by decide +kernel
theorem dX9_nears_106 : decode cX9_nears 106 = .ok (.if_icmp .ne 96, 3) := by decide +kernel
theorem dX9_nears_109 : decode cX9_nears 109 = .ok (.aload_n 0, 1) := by decide +kernel
theorem dX9_nears_110 : decode cX9_nears 110 = .ok (.aload_n 0, 1) := by decide +kernel
theorem dX9_nears_111 : decode cX9_nears 111 = .ok (.getfield 185, 3) := by decide +kernel
theorem dX9_nears_114 : decode cX9_nears 114 = .ok (.ifCond .lt 26, 3) := by decide +kernel
theorem dX9_nears_117 : decode cX9_nears 117 = .ok (.iload_n 2, 1) := by decide +kernel
theorem dX9_nears_118 : decode cX9_nears 118 = .ok (.aload_n 0, 1) := by decide +kernel
theorem dX9_nears_119 : decode cX9_nears 119 = .ok (.getfield 188, 3) := by decide +kernel
theorem dX9_nears_122 : decode cX9_nears 122 = .ok (.if_icmp .lt 18, 3) := by decide +kernel
theorem dX9_nears_125 : decode cX9_nears 125 = .ok (.aload_n 0, 1) := by decide +kernel
theorem dX9_nears_126 : decode cX9_nears 126 = .ok (.getfield 191, 3) := by decide +kernel
theorem dX9_nears_129 : decode cX9_nears 129 = .ok (.ifCond .eq 15, 3) := by decide +kernel
theorem dX9_nears_132 : decode cX9_nears 132 = .ok (.iload_n 2, 1) := by decide +kernel
theorem dX9_nears_133 : decode cX9_nears 133 = .ok (.aload_n 0, 1) := by decide +kernel
theorem dX9_nears_134 : decode cX9_nears 134 = .ok (.getfield 188, 3) := by decide +kernel
theorem dX9_nears_137 : decode cX9_nears 137 = .ok (.if_icmp .eq 7, 3) := by decide +kernel
theorem dX9_nears_140 : decode cX9_nears 140 = .ok (.iconst 1, 1) := by decide +kernel
theorem dX9_nears_141 : decode cX9_nears 141 = .ok (.goto 4, 3) := by decide +kernel
theorem dX9_nears_144 : decode cX9_nears 144 = .ok (.iconst 0, 1) := by decide +kernel
theorem dX9_nears_145 : decode cX9_nears 145 = .ok (.putfield 191, 3) := by decide +kernel
theorem dX9_nears_148 : decode cX9_nears 148 = .ok (.aload_n 0, 1) := by decide +kernel
theorem dX9_nears_149 : decode cX9_nears 149 = .ok (.aload_n 0, 1) := by decide +kernel
theorem dX9_nears_150 : decode cX9_nears 150 = .ok (.getfield 185, 3) := by decide +kernel
theorem dX9_nears_153 : decode cX9_nears 153 = .ok (.ifCond .lt 11, 3) := by decide +kernel
theorem dX9_nears_156 : decode cX9_nears 156 = .ok (.iload_n 2, 1) := by decide +kernel
theorem dX9_nears_157 : decode cX9_nears 157 = .ok (.aload_n 0, 1) := by decide +kernel
theorem dX9_nears_158 : decode cX9_nears 158 = .ok (.getfield 188, 3) := by decide +kernel
theorem dX9_nears_161 : decode cX9_nears 161 = .ok (.if_icmp .ge 7, 3) := by decide +kernel
theorem dX9_nears_164 : decode cX9_nears 164 = .ok (.iload_n 1, 1) := by decide +kernel
theorem dX9_nears_165 : decode cX9_nears 165 = .ok (.goto 7, 3) := by decide +kernel
theorem dX9_nears_168 : decode cX9_nears 168 = .ok (.aload_n 0, 1) := by decide +kernel
theorem dX9_nears_169 : decode cX9_nears 169 = .ok (.getfield 185, 3) := by decide +kernel
theorem dX9_nears_172 : decode cX9_nears 172 = .ok (.putfield 185, 3) := by decide +kernel
theorem dX9_nears_175 : decode cX9_nears 175 = .ok (.aload_n 0, 1) := by decide +kernel
theorem dX9_nears_176 : decode cX9_nears 176 = .ok (.aload_n 0, 1) := by decide +kernel
theorem dX9_nears_177 : decode cX9_nears 177 = .ok (.getfield 188, 3) := by decide +kernel
theorem dX9_nears_180 : decode cX9_nears 180 = .ok (.ifCond .lt 11, 3) := by decide +kernel
theorem dX9_nears_183 : decode cX9_nears 183 = .ok (.iload_n 2, 1) := by decide +kernel
theorem dX9_nears_184 : decode cX9_nears 184 = .ok (.aload_n 0, 1) := by decide +kernel
theorem dX9_nears_185 : decode cX9_nears 185 = .ok (.getfield 188, 3) := by decide +kernel
theorem dX9_nears_188 : decode cX9_nears 188 = .ok (.if_icmp .ge 7, 3) := by decide +kernel
theorem dX9_nears_191 : decode cX9_nears 191 = .ok (.iload_n 2, 1) := by decide +kernel
theorem dX9_nears_192 : decode cX9_nears 192 = .ok (.goto 7, 3) := by decide +kernel
theorem dX9_nears_195 : decode cX9_nears 195 = .ok (.aload_n 0, 1) := by decide +kernel
theorem dX9_nears_196 : decode cX9_nears 196 = .ok (.getfield 188, 3) := by decide +kernel
theorem dX9_nears_199 : decode cX9_nears 199 = .ok (.putfield 188, 3) := by decide +kernel
theorem dX9_nears_202 : decode cX9_nears 202 = .ok (.iinc 1 1, 3) := by decide +kernel
theorem dX9_nears_205 : decode cX9_nears 205 = .ok (.goto (-186), 3) := by decide +kernel
theorem dX9_nears_208 : decode cX9_nears 208 = .ok (.return_, 1) := by decide +kernel
theorem dX9_nearest_0 : decode cX9_nearest 0 = .ok (.iload_n 1, 1) := by decide +kernel
theorem dX9_nearest_1 : decode cX9_nearest 1 = .ok (.i2l, 1) := by decide +kernel
theorem dX9_nearest_2 : decode cX9_nearest 2 = .ok (.lconst 0, 1) := by decide +kernel
theorem dX9_nearest_3 : decode cX9_nearest 3 = .ok (.ldc2_w 195, 3) := by decide +kernel
theorem dX9_nearest_6 : decode cX9_nearest 6 = .ok (.invokestatic 76, 3) := by decide +kernel
theorem dX9_nearest_9 : decode cX9_nearest 9 = .ok (.ifCond .ne 5, 3) := by decide +kernel
theorem dX9_nearest_12 : decode cX9_nearest 12 = .ok (.iconst (-1), 1) := by decide +kernel
theorem dX9_nearest_13 : decode cX9_nearest 13 = .ok (.ireturn, 1) := by decide +kernel
theorem dX9_nearest_14 : decode cX9_nearest 14 = .ok (.aload_n 0, 1) := by decide +kernel
theorem dX9_nearest_15 : decode cX9_nearest 15 = .ok (.invokevirtual 197, 3) := by decide +kernel
theorem dX9_nearest_18 : decode cX9_nearest 18 = .ok (.aload_n 0, 1) := by decide +kernel
theorem dX9_nearest_19 : decode cX9_nearest 19 = .ok (.invokevirtual 200, 3) := by decide +kernel
theorem dX9_nearest_22 : decode cX9_nearest 22 = .ok (.iload_n 1, 1) := by decide +kernel
theorem dX9_nearest_23 : decode cX9_nearest 23 = .ok (.ifCond .ne 10, 3) := by decide +kernel
theorem dX9_nearest_26 : decode cX9_nearest 26 = .ok (.aload_n 0, 1) := by decide +kernel
theorem dX9_nearest_27 : decode cX9_nearest 27 = .ok (.getfield 185, 3) := by decide +kernel
theorem dX9_nearest_30 : decode cX9_nearest 30 = .ok (.goto 39, 3) := by decide +kernel
theorem dX9_nearest_33 : decode cX9_nearest 33 = .ok (.iload_n 1, 1) := by decide +kernel
theorem dX9_nearest_34 : decode cX9_nearest 34 = .ok (.iconst 1, 1) := by decide +kernel
theorem dX9_nearest_35 : decode cX9_nearest 35 = .ok (.if_icmp .ne 10, 3) := by decide +kernel
theorem dX9_nearest_38 : decode cX9_nearest 38 = .ok (.aload_n 0, 1) := by decide +kernel
theorem dX9_nearest_39 : decode cX9_nearest 39 = .ok (.getfield 188, 3) := by decide +kernel
theorem dX9_nearest_42 : decode cX9_nearest 42 = .ok (.goto 27, 3) := by decide +kernel
theorem dX9_nearest_45 : decode cX9_nearest 45 = .ok (.aload_n 0, 1) := by decide +kernel
theorem dX9_nearest_46 : decode cX9_nearest 46 = .ok (.getfield 185, 3) := by decide +kernel
theorem dX9_nearest_49 : decode cX9_nearest 49 = .ok (.ifCond .ge 8, 3) := by decide +kernel
theorem dX9_nearest_52 : decode cX9_nearest 52 = .ok (.bipush (-4), 2) := by decide +kernel
theorem dX9_nearest_54 : decode cX9_nearest 54 = .ok (.goto 15, 3) := by decide +kernel
theorem dX9_nearest_57 : decode cX9_nearest 57 = .ok (.aload_n 0, 1) := by decide +kernel
theorem dX9_nearest_58 : decode cX9_nearest 58 = .ok (.getfield 191, 3) := by decide +kernel
theorem dX9_nearest_61 : decode cX9_nearest 61 = .ok (.ifCond .eq 7, 3) := by decide +kernel
theorem dX9_nearest_64 : decode cX9_nearest 64 = .ok (.iconst 1, 1) := by decide +kernel
theorem dX9_nearest_65 : decode cX9_nearest 65 = .ok (.goto 4, 3) := by decide +kernel
theorem dX9_nearest_68 : decode cX9_nearest 68 = .ok (.iconst 0, 1) := by decide +kernel
theorem dX9_nearest_69 : decode cX9_nearest 69 = .ok (.ireturn, 1) := by decide +kernel
theorem dX9_slips_0 : decode cX9_slips 0 = .ok (.iload_n 1, 1) := by decide +kernel
theorem dX9_slips_1 : decode cX9_slips 1 = .ok (.i2l, 1) := by decide +kernel
theorem dX9_slips_2 : decode cX9_slips 2 = .ok (.lconst 0, 1) := by decide +kernel
theorem dX9_slips_3 : decode cX9_slips 3 = .ok (.ldc2_w 195, 3) := by decide +kernel
theorem dX9_slips_6 : decode cX9_slips 6 = .ok (.invokestatic 76, 3) := by decide +kernel
theorem dX9_slips_9 : decode cX9_slips 9 = .ok (.ifCond .ne 5, 3) := by decide +kernel
theorem dX9_slips_12 : decode cX9_slips 12 = .ok (.iconst (-1), 1) := by decide +kernel
theorem dX9_slips_13 : decode cX9_slips 13 = .ok (.ireturn, 1) := by decide +kernel
theorem dX9_slips_14 : decode cX9_slips 14 = .ok (.aload_n 0, 1) := by decide +kernel
theorem dX9_slips_15 : decode cX9_slips 15 = .ok (.invokevirtual 197, 3) := by decide +kernel
theorem dX9_slips_18 : decode cX9_slips 18 = .ok (.aload_n 0, 1) := by decide +kernel
theorem dX9_slips_19 : decode cX9_slips 19 = .ok (.invokevirtual 200, 3) := by decide +kernel
theorem dX9_slips_22 : decode cX9_slips 22 = .ok (.aload_n 0, 1) := by decide +kernel
theorem dX9_slips_23 : decode cX9_slips 23 = .ok (.getfield 185, 3) := by decide +kernel
theorem dX9_slips_26 : decode cX9_slips 26 = .ok (.istore_n 2, 1) := by decide +kernel
theorem dX9_slips_27 : decode cX9_slips 27 = .ok (.iconst 0, 1) := by decide +kernel
theorem dX9_slips_28 : decode cX9_slips 28 = .ok (.istore_n 3, 1) := by decide +kernel
theorem dX9_slips_29 : decode cX9_slips 29 = .ok (.iconst 0, 1) := by decide +kernel
theorem dX9_slips_30 : decode cX9_slips 30 = .ok (.istore 4, 2) := by decide +kernel
theorem dX9_slips_32 : decode cX9_slips 32 = .ok (.iload 4, 2) := by decide +kernel
theorem dX9_slips_34 : decode cX9_slips 34 = .ok (.iconst 4, 1) := by decide +kernel
theorem dX9_slips_35 : decode cX9_slips 35 = .ok (.aload_n 0, 1) := by decide +kernel
theorem dX9_slips_36 : decode cX9_slips 36 = .ok (.getfield 13, 3) := by decide +kernel
theorem dX9_slips_39 : decode cX9_slips 39 = .ok (.iconst 0, 1) := by decide +kernel
theorem dX9_slips_40 : decode cX9_slips 40 = .ok (.iaload, 1) := by decide +kernel
theorem dX9_slips_41 : decode cX9_slips 41 = .ok (.imul, 1) := by decide +kernel
theorem dX9_slips_42 : decode cX9_slips 42 = .ok (.if_icmp .ge 184, 3) := by decide +kernel
theorem dX9_slips_45 : decode cX9_slips 45 = .ok (.aload_n 0, 1) := by decide +kernel
theorem dX9_slips_46 : decode cX9_slips 46 = .ok (.invokevirtual 197, 3) := by decide +kernel
theorem dX9_slips_49 : decode cX9_slips 49 = .ok (.iload 4, 2) := by decide +kernel
theorem dX9_slips_51 : decode cX9_slips 51 = .ok (.iconst 4, 1) := by decide +kernel
theorem dX9_slips_52 : decode cX9_slips 52 = .ok (.idiv, 1) := by decide +kernel
theorem dX9_slips_53 : decode cX9_slips 53 = .ok (.istore 5, 2) := by decide +kernel
theorem dX9_slips_55 : decode cX9_slips 55 = .ok (.iload 4, 2) := by decide +kernel
theorem dX9_slips_57 : decode cX9_slips 57 = .ok (.iconst 2, 1) := by decide +kernel
theorem dX9_slips_58 : decode cX9_slips 58 = .ok (.irem, 1) := by decide +kernel
theorem dX9_slips_59 : decode cX9_slips 59 = .ok (.ifCond .ne 7, 3) := by decide +kernel
theorem dX9_slips_62 : decode cX9_slips 62 = .ok (.iconst 1, 1) := by decide +kernel
theorem dX9_slips_63 : decode cX9_slips 63 = .ok (.goto 5, 3) := by decide +kernel
theorem dX9_slips_66 : decode cX9_slips 66 = .ok (.bipush 7, 2) := by decide +kernel
theorem dX9_slips_68 : decode cX9_slips 68 = .ok (.istore 6, 2) := by decide +kernel
theorem dX9_slips_70 : decode cX9_slips 70 = .ok (.iload 4, 2) := by decide +kernel
theorem dX9_slips_72 : decode cX9_slips 72 = .ok (.iconst 2, 1) := by decide +kernel
theorem dX9_slips_73 : decode cX9_slips 73 = .ok (.idiv, 1) := by decide +kernel
theorem dX9_slips_74 : decode cX9_slips 74 = .ok (.iconst 2, 1) := by decide +kernel
theorem dX9_slips_75 : decode cX9_slips 75 = .ok (.irem, 1) := by decide +kernel
theorem dX9_slips_76 : decode cX9_slips 76 = .ok (.ifCond .ne 26, 3) := by decide +kernel
theorem dX9_slips_79 : decode cX9_slips 79 = .ok (.aload_n 0, 1) := by decide +kernel
theorem dX9_slips_80 : decode cX9_slips 80 = .ok (.getfield 22, 3) := by decide +kernel
theorem dX9_slips_83 : decode cX9_slips 83 = .ok (.iload 5, 2) := by decide +kernel
theorem dX9_slips_85 : decode cX9_slips 85 = .ok (.aload_n 0, 1) := by decide +kernel
theorem dX9_slips_86 : decode cX9_slips 86 = .ok (.getfield 22, 3) := by decide +kernel
theorem dX9_slips_89 : decode cX9_slips 89 = .ok (.iload 5, 2) := by decide +kernel
theorem dX9_slips_91 : decode cX9_slips 91 = .ok (.iaload, 1) := by decide +kernel
theorem dX9_slips_92 : decode cX9_slips 92 = .ok (.iload 6, 2) := by decide +kernel
theorem dX9_slips_94 : decode cX9_slips 94 = .ok (.iadd, 1) := by decide +kernel
theorem dX9_slips_95 : decode cX9_slips 95 = .ok (.bipush 8, 2) := by decide +kernel
theorem dX9_slips_97 : decode cX9_slips 97 = .ok (.irem, 1) := by decide +kernel
theorem dX9_slips_98 : decode cX9_slips 98 = .ok (.iastore, 1) := by decide +kernel
theorem dX9_slips_99 : decode cX9_slips 99 = .ok (.goto 23, 3) := by decide +kernel
theorem dX9_slips_102 : decode cX9_slips 102 = .ok (.aload_n 0, 1) := by decide +kernel
theorem dX9_slips_103 : decode cX9_slips 103 = .ok (.getfield 25, 3) := by decide +kernel
theorem dX9_slips_106 : decode cX9_slips 106 = .ok (.iload 5, 2) := by decide +kernel
theorem dX9_slips_108 : decode cX9_slips 108 = .ok (.aload_n 0, 1) := by decide +kernel
theorem dX9_slips_109 : decode cX9_slips 109 = .ok (.getfield 25, 3) := by decide +kernel
theorem dX9_slips_112 : decode cX9_slips 112 = .ok (.iload 5, 2) := by decide +kernel
theorem dX9_slips_114 : decode cX9_slips 114 = .ok (.iaload, 1) := by decide +kernel
theorem dX9_slips_115 : decode cX9_slips 115 = .ok (.iload 6, 2) := by decide +kernel
theorem dX9_slips_117 : decode cX9_slips 117 = .ok (.iadd, 1) := by decide +kernel
theorem dX9_slips_118 : decode cX9_slips 118 = .ok (.bipush 8, 2) := by decide +kernel
theorem dX9_slips_120 : decode cX9_slips 120 = .ok (.irem, 1) := by decide +kernel
theorem dX9_slips_121 : decode cX9_slips 121 = .ok (.iastore, 1) := by decide +kernel
theorem dX9_slips_122 : decode cX9_slips 122 = .ok (.aload_n 0, 1) := by decide +kernel
theorem dX9_slips_123 : decode cX9_slips 123 = .ok (.aload_n 0, 1) := by decide +kernel
theorem dX9_slips_124 : decode cX9_slips 124 = .ok (.getfield 22, 3) := by decide +kernel
theorem dX9_slips_127 : decode cX9_slips 127 = .ok (.iload 5, 2) := by decide +kernel
theorem dX9_slips_129 : decode cX9_slips 129 = .ok (.iaload, 1) := by decide +kernel
theorem dX9_slips_130 : decode cX9_slips 130 = .ok (.aload_n 0, 1) := by decide +kernel
theorem dX9_slips_131 : decode cX9_slips 131 = .ok (.getfield 25, 3) := by decide +kernel
theorem dX9_slips_134 : decode cX9_slips 134 = .ok (.iload 5, 2) := by decide +kernel
theorem dX9_slips_136 : decode cX9_slips 136 = .ok (.iaload, 1) := by decide +kernel
theorem dX9_slips_137 : decode cX9_slips 137 = .ok (.invokevirtual 68, 3) := by decide +kernel
theorem dX9_slips_140 : decode cX9_slips 140 = .ok (.ifCond .ge 7, 3) := by decide +kernel
theorem dX9_slips_143 : decode cX9_slips 143 = .ok (.iconst 1, 1) := by decide +kernel
theorem dX9_slips_144 : decode cX9_slips 144 = .ok (.goto 4, 3) := by decide +kernel
theorem dX9_slips_147 : decode cX9_slips 147 = .ok (.iconst 0, 1) := by decide +kernel
theorem dX9_slips_148 : decode cX9_slips 148 = .ok (.istore 7, 2) := by decide +kernel
theorem dX9_slips_150 : decode cX9_slips 150 = .ok (.aload_n 0, 1) := by decide +kernel
theorem dX9_slips_151 : decode cX9_slips 151 = .ok (.invokevirtual 200, 3) := by decide +kernel
theorem dX9_slips_154 : decode cX9_slips 154 = .ok (.iload_n 1, 1) := by decide +kernel
theorem dX9_slips_155 : decode cX9_slips 155 = .ok (.ifCond .ne 8, 3) := by decide +kernel
theorem dX9_slips_158 : decode cX9_slips 158 = .ok (.iload 7, 2) := by decide +kernel
theorem dX9_slips_160 : decode cX9_slips 160 = .ok (.goto 45, 3) := by decide +kernel
theorem dX9_slips_163 : decode cX9_slips 163 = .ok (.iload_n 1, 1) := by decide +kernel
theorem dX9_slips_164 : decode cX9_slips 164 = .ok (.iconst 1, 1) := by decide +kernel
theorem dX9_slips_165 : decode cX9_slips 165 = .ok (.if_icmp .ne 16, 3) := by decide +kernel
theorem dX9_slips_168 : decode cX9_slips 168 = .ok (.iload 7, 2) := by decide +kernel
theorem dX9_slips_170 : decode cX9_slips 170 = .ok (.ifCond .ne 7, 3) := by decide +kernel
theorem dX9_slips_173 : decode cX9_slips 173 = .ok (.iconst 1, 1) := by decide +kernel
theorem dX9_slips_174 : decode cX9_slips 174 = .ok (.goto 31, 3) := by decide +kernel
theorem dX9_slips_177 : decode cX9_slips 177 = .ok (.iconst 0, 1) := by decide +kernel
theorem dX9_slips_178 : decode cX9_slips 178 = .ok (.goto 27, 3) := by decide +kernel
theorem dX9_slips_181 : decode cX9_slips 181 = .ok (.iload_n 2, 1) := by decide +kernel
theorem dX9_slips_182 : decode cX9_slips 182 = .ok (.ifCond .lt 22, 3) := by decide +kernel
theorem dX9_slips_185 : decode cX9_slips 185 = .ok (.aload_n 0, 1) := by decide +kernel
theorem dX9_slips_186 : decode cX9_slips 186 = .ok (.getfield 185, 3) := by decide +kernel
theorem dX9_slips_189 : decode cX9_slips 189 = .ok (.iload_n 2, 1) := by decide +kernel
theorem dX9_slips_190 : decode cX9_slips 190 = .ok (.if_icmp .ne 14, 3) := by decide +kernel
theorem dX9_slips_193 : decode cX9_slips 193 = .ok (.aload_n 0, 1) := by decide +kernel
theorem dX9_slips_194 : decode cX9_slips 194 = .ok (.getfield 191, 3) := by decide +kernel
theorem dX9_slips_197 : decode cX9_slips 197 = .ok (.ifCond .eq 7, 3) := by decide +kernel
theorem dX9_slips_200 : decode cX9_slips 200 = .ok (.iconst 1, 1) := by decide +kernel
theorem dX9_slips_201 : decode cX9_slips 201 = .ok (.goto 4, 3) := by decide +kernel
theorem dX9_slips_204 : decode cX9_slips 204 = .ok (.iconst 0, 1) := by decide +kernel
theorem dX9_slips_205 : decode cX9_slips 205 = .ok (.istore 8, 2) := by decide +kernel
theorem dX9_slips_207 : decode cX9_slips 207 = .ok (.iload_n 3, 1) := by decide +kernel
theorem dX9_slips_208 : decode cX9_slips 208 = .ok (.iload 8, 2) := by decide +kernel
theorem dX9_slips_210 : decode cX9_slips 210 = .ok (.ifCond .eq 7, 3) := by decide +kernel
theorem dX9_slips_213 : decode cX9_slips 213 = .ok (.iconst 1, 1) := by decide +kernel
theorem dX9_slips_214 : decode cX9_slips 214 = .ok (.goto 4, 3) := by decide +kernel
theorem dX9_slips_217 : decode cX9_slips 217 = .ok (.iconst 0, 1) := by decide +kernel
theorem dX9_slips_218 : decode cX9_slips 218 = .ok (.iadd, 1) := by decide +kernel
theorem dX9_slips_219 : decode cX9_slips 219 = .ok (.istore_n 3, 1) := by decide +kernel
theorem dX9_slips_220 : decode cX9_slips 220 = .ok (.iinc 4 1, 3) := by decide +kernel
theorem dX9_slips_223 : decode cX9_slips 223 = .ok (.goto (-191), 3) := by decide +kernel
theorem dX9_slips_226 : decode cX9_slips 226 = .ok (.iload_n 3, 1) := by decide +kernel
theorem dX9_slips_227 : decode cX9_slips 227 = .ok (.ireturn, 1) := by decide +kernel
theorem dX9_still_0 : decode cX9_still 0 = .ok (.aload_n 0, 1) := by decide +kernel
theorem dX9_still_1 : decode cX9_still 1 = .ok (.iload_n 1, 1) := by decide +kernel
theorem dX9_still_2 : decode cX9_still 2 = .ok (.invokevirtual 96, 3) := by decide +kernel
theorem dX9_still_5 : decode cX9_still 5 = .ok (.ifCond .eq 25, 3) := by decide +kernel
theorem dX9_still_8 : decode cX9_still 8 = .ok (.iload_n 2, 1) := by decide +kernel
theorem dX9_still_9 : decode cX9_still 9 = .ok (.i2l, 1) := by decide +kernel
theorem dX9_still_10 : decode cX9_still 10 = .ok (.lconst 0, 1) := by decide +kernel
theorem dX9_still_11 : decode cX9_still 11 = .ok (.ldc2_w 203, 3) := by decide +kernel
theorem dX9_still_14 : decode cX9_still 14 = .ok (.invokestatic 76, 3) := by decide +kernel
theorem dX9_still_17 : decode cX9_still 17 = .ok (.ifCond .eq 13, 3) := by decide +kernel
theorem dX9_still_20 : decode cX9_still 20 = .ok (.iload_n 3, 1) := by decide +kernel
theorem dX9_still_21 : decode cX9_still 21 = .ok (.i2l, 1) := by decide +kernel
theorem dX9_still_22 : decode cX9_still 22 = .ok (.lconst 0, 1) := by decide +kernel
theorem dX9_still_23 : decode cX9_still 23 = .ok (.lconst 1, 1) := by decide +kernel
theorem dX9_still_24 : decode cX9_still 24 = .ok (.invokestatic 76, 3) := by decide +kernel
theorem dX9_still_27 : decode cX9_still 27 = .ok (.ifCond .ne 5, 3) := by decide +kernel
theorem dX9_still_30 : decode cX9_still 30 = .ok (.iconst (-1), 1) := by decide +kernel
theorem dX9_still_31 : decode cX9_still 31 = .ok (.ireturn, 1) := by decide +kernel
theorem dX9_still_32 : decode cX9_still 32 = .ok (.iconst 0, 1) := by decide +kernel
theorem dX9_still_33 : decode cX9_still 33 = .ok (.istore 4, 2) := by decide +kernel
theorem dX9_still_35 : decode cX9_still 35 = .ok (.iconst 1, 1) := by decide +kernel
theorem dX9_still_36 : decode cX9_still 36 = .ok (.istore 5, 2) := by decide +kernel
theorem dX9_still_38 : decode cX9_still 38 = .ok (.aload_n 0, 1) := by decide +kernel
theorem dX9_still_39 : decode cX9_still 39 = .ok (.aload_n 0, 1) := by decide +kernel
theorem dX9_still_40 : decode cX9_still 40 = .ok (.iload_n 1, 1) := by decide +kernel
theorem dX9_still_41 : decode cX9_still 41 = .ok (.invokevirtual 100, 3) := by decide +kernel
theorem dX9_still_44 : decode cX9_still 44 = .ok (.putfield 182, 3) := by decide +kernel
theorem dX9_still_47 : decode cX9_still 47 = .ok (.iconst 0, 1) := by decide +kernel
theorem dX9_still_48 : decode cX9_still 48 = .ok (.istore 6, 2) := by decide +kernel
theorem dX9_still_50 : decode cX9_still 50 = .ok (.iload 6, 2) := by decide +kernel
theorem dX9_still_52 : decode cX9_still 52 = .ok (.aload_n 0, 1) := by decide +kernel
theorem dX9_still_53 : decode cX9_still 53 = .ok (.getfield 182, 3) := by decide +kernel
theorem dX9_still_56 : decode cX9_still 56 = .ok (.if_icmp .ge 16, 3) := by decide +kernel
theorem dX9_still_59 : decode cX9_still 59 = .ok (.iload 5, 2) := by decide +kernel
theorem dX9_still_61 : decode cX9_still 61 = .ok (.bipush 10, 2) := by decide +kernel
theorem dX9_still_63 : decode cX9_still 63 = .ok (.imul, 1) := by decide +kernel
theorem dX9_still_64 : decode cX9_still 64 = .ok (.istore 5, 2) := by decide +kernel
theorem dX9_still_66 : decode cX9_still 66 = .ok (.iinc 6 1, 3) := by decide +kernel
theorem dX9_still_69 : decode cX9_still 69 = .ok (.goto (-19), 3) := by decide +kernel
theorem dX9_still_72 : decode cX9_still 72 = .ok (.iconst 0, 1) := by decide +kernel
theorem dX9_still_73 : decode cX9_still 73 = .ok (.istore 6, 2) := by decide +kernel
theorem dX9_still_75 : decode cX9_still 75 = .ok (.iload 6, 2) := by decide +kernel
theorem dX9_still_77 : decode cX9_still 77 = .ok (.iconst 1, 1) := by decide +kernel
theorem dX9_still_78 : decode cX9_still 78 = .ok (.aload_n 0, 1) := by decide +kernel
theorem dX9_still_79 : decode cX9_still 79 = .ok (.getfield 182, 3) := by decide +kernel
theorem dX9_still_82 : decode cX9_still 82 = .ok (.ishl, 1) := by decide +kernel
theorem dX9_still_83 : decode cX9_still 83 = .ok (.if_icmp .ge 146, 3) := by decide +kernel
theorem dX9_still_86 : decode cX9_still 86 = .ok (.iconst 1, 1) := by decide +kernel
theorem dX9_still_87 : decode cX9_still 87 = .ok (.istore 7, 2) := by decide +kernel
theorem dX9_still_89 : decode cX9_still 89 = .ok (.iconst 0, 1) := by decide +kernel
theorem dX9_still_90 : decode cX9_still 90 = .ok (.istore 8, 2) := by decide +kernel
theorem dX9_still_92 : decode cX9_still 92 = .ok (.iload 8, 2) := by decide +kernel
theorem dX9_still_94 : decode cX9_still 94 = .ok (.aload_n 0, 1) := by decide +kernel
theorem dX9_still_95 : decode cX9_still 95 = .ok (.getfield 182, 3) := by decide +kernel
theorem dX9_still_98 : decode cX9_still 98 = .ok (.if_icmp .ge 95, 3) := by decide +kernel
theorem dX9_still_101 : decode cX9_still 101 = .ok (.iload 6, 2) := by decide +kernel
theorem dX9_still_103 : decode cX9_still 103 = .ok (.iload 8, 2) := by decide +kernel
theorem dX9_still_105 : decode cX9_still 105 = .ok (.ishr, 1) := by decide +kernel
theorem dX9_still_106 : decode cX9_still 106 = .ok (.iconst 1, 1) := by decide +kernel
theorem dX9_still_107 : decode cX9_still 107 = .ok (.iand, 1) := by decide +kernel
theorem dX9_still_108 : decode cX9_still 108 = .ok (.iconst 1, 1) := by decide +kernel
theorem dX9_still_109 : decode cX9_still 109 = .ok (.if_icmp .ne 7, 3) := by decide +kernel
theorem dX9_still_112 : decode cX9_still 112 = .ok (.iconst 1, 1) := by decide +kernel
theorem dX9_still_113 : decode cX9_still 113 = .ok (.goto 4, 3) := by decide +kernel
theorem dX9_still_116 : decode cX9_still 116 = .ok (.iconst 0, 1) := by decide +kernel
theorem dX9_still_117 : decode cX9_still 117 = .ok (.istore 9, 2) := by decide +kernel
theorem dX9_still_119 : decode cX9_still 119 = .ok (.aload_n 0, 1) := by decide +kernel
theorem dX9_still_120 : decode cX9_still 120 = .ok (.getfield 22, 3) := by decide +kernel
theorem dX9_still_123 : decode cX9_still 123 = .ok (.iload 8, 2) := by decide +kernel
theorem dX9_still_125 : decode cX9_still 125 = .ok (.aload_n 0, 1) := by decide +kernel
theorem dX9_still_126 : decode cX9_still 126 = .ok (.aload_n 0, 1) := by decide +kernel
theorem dX9_still_127 : decode cX9_still 127 = .ok (.iload_n 1, 1) := by decide +kernel
theorem dX9_still_128 : decode cX9_still 128 = .ok (.iload 8, 2) := by decide +kernel
theorem dX9_still_130 : decode cX9_still 130 = .ok (.invokevirtual 103, 3) := by decide +kernel
theorem dX9_still_133 : decode cX9_still 133 = .ok (.invokevirtual 61, 3) := by decide +kernel
theorem dX9_still_136 : decode cX9_still 136 = .ok (.iastore, 1) := by decide +kernel
theorem dX9_still_137 : decode cX9_still 137 = .ok (.aload_n 0, 1) := by decide +kernel
theorem dX9_still_138 : decode cX9_still 138 = .ok (.getfield 25, 3) := by decide +kernel
theorem dX9_still_141 : decode cX9_still 141 = .ok (.iload 8, 2) := by decide +kernel
theorem dX9_still_143 : decode cX9_still 143 = .ok (.aload_n 0, 1) := by decide +kernel
theorem dX9_still_144 : decode cX9_still 144 = .ok (.aload_n 0, 1) := by decide +kernel
theorem dX9_still_145 : decode cX9_still 145 = .ok (.iload_n 1, 1) := by decide +kernel
theorem dX9_still_146 : decode cX9_still 146 = .ok (.iload 8, 2) := by decide +kernel
theorem dX9_still_148 : decode cX9_still 148 = .ok (.invokevirtual 103, 3) := by decide +kernel
theorem dX9_still_151 : decode cX9_still 151 = .ok (.invokevirtual 65, 3) := by decide +kernel
theorem dX9_still_154 : decode cX9_still 154 = .ok (.iload 9, 2) := by decide +kernel
theorem dX9_still_156 : decode cX9_still 156 = .ok (.ifCond .eq 7, 3) := by decide +kernel
theorem dX9_still_159 : decode cX9_still 159 = .ok (.iconst 1, 1) := by decide +kernel
theorem dX9_still_160 : decode cX9_still 160 = .ok (.goto 4, 3) := by decide +kernel
theorem dX9_still_163 : decode cX9_still 163 = .ok (.iconst 0, 1) := by decide +kernel
theorem dX9_still_164 : decode cX9_still 164 = .ok (.iadd, 1) := by decide +kernel
theorem dX9_still_165 : decode cX9_still 165 = .ok (.bipush 8, 2) := by decide +kernel
theorem dX9_still_167 : decode cX9_still 167 = .ok (.irem, 1) := by decide +kernel
theorem dX9_still_168 : decode cX9_still 168 = .ok (.iastore, 1) := by decide +kernel
theorem dX9_still_169 : decode cX9_still 169 = .ok (.iload 7, 2) := by decide +kernel
theorem dX9_still_171 : decode cX9_still 171 = .ok (.iload 9, 2) := by decide +kernel
theorem dX9_still_173 : decode cX9_still 173 = .ok (.ifCond .eq 7, 3) := by decide +kernel
theorem dX9_still_176 : decode cX9_still 176 = .ok (.iload_n 2, 1) := by decide +kernel
theorem dX9_still_177 : decode cX9_still 177 = .ok (.goto 7, 3) := by decide +kernel
theorem dX9_still_180 : decode cX9_still 180 = .ok (.bipush 10, 2) := by decide +kernel
theorem dX9_still_182 : decode cX9_still 182 = .ok (.iload_n 2, 1) := by decide +kernel
theorem dX9_still_183 : decode cX9_still 183 = .ok (.isub, 1) := by decide +kernel
theorem dX9_still_184 : decode cX9_still 184 = .ok (.imul, 1) := by decide +kernel
theorem dX9_still_185 : decode cX9_still 185 = .ok (.istore 7, 2) := by decide +kernel
theorem dX9_still_187 : decode cX9_still 187 = .ok (.iinc 8 1, 3) := by decide +kernel
theorem dX9_still_190 : decode cX9_still 190 = .ok (.goto (-98), 3) := by decide +kernel
theorem dX9_still_193 : decode cX9_still 193 = .ok (.aload_n 0, 1) := by decide +kernel
theorem dX9_still_194 : decode cX9_still 194 = .ok (.invokevirtual 200, 3) := by decide +kernel
theorem dX9_still_197 : decode cX9_still 197 = .ok (.iload 4, 2) := by decide +kernel
theorem dX9_still_199 : decode cX9_still 199 = .ok (.aload_n 0, 1) := by decide +kernel
theorem dX9_still_200 : decode cX9_still 200 = .ok (.getfield 185, 3) := by decide +kernel
theorem dX9_still_203 : decode cX9_still 203 = .ok (.iload_n 1, 1) := by decide +kernel
theorem dX9_still_204 : decode cX9_still 204 = .ok (.if_icmp .ne 15, 3) := by decide +kernel
theorem dX9_still_207 : decode cX9_still 207 = .ok (.aload_n 0, 1) := by decide +kernel
theorem dX9_still_208 : decode cX9_still 208 = .ok (.getfield 191, 3) := by decide +kernel
theorem dX9_still_211 : decode cX9_still 211 = .ok (.ifCond .eq 8, 3) := by decide +kernel
theorem dX9_still_214 : decode cX9_still 214 = .ok (.iload 7, 2) := by decide +kernel
theorem dX9_still_216 : decode cX9_still 216 = .ok (.goto 4, 3) := by decide +kernel
theorem dX9_still_219 : decode cX9_still 219 = .ok (.iconst 0, 1) := by decide +kernel
theorem dX9_still_220 : decode cX9_still 220 = .ok (.iadd, 1) := by decide +kernel
theorem dX9_still_221 : decode cX9_still 221 = .ok (.istore 4, 2) := by decide +kernel
theorem dX9_still_223 : decode cX9_still 223 = .ok (.iinc 6 1, 3) := by decide +kernel
theorem dX9_still_226 : decode cX9_still 226 = .ok (.goto (-151), 3) := by decide +kernel
theorem dX9_still_229 : decode cX9_still 229 = .ok (.iload 4, 2) := by decide +kernel
theorem dX9_still_231 : decode cX9_still 231 = .ok (.istore 6, 2) := by decide +kernel
theorem dX9_still_233 : decode cX9_still 233 = .ok (.iload 5, 2) := by decide +kernel
theorem dX9_still_235 : decode cX9_still 235 = .ok (.istore 7, 2) := by decide +kernel
theorem dX9_still_237 : decode cX9_still 237 = .ok (.iload 7, 2) := by decide +kernel
theorem dX9_still_239 : decode cX9_still 239 = .ok (.ifCond .eq 21, 3) := by decide +kernel
theorem dX9_still_242 : decode cX9_still 242 = .ok (.iload 6, 2) := by decide +kernel
theorem dX9_still_244 : decode cX9_still 244 = .ok (.iload 7, 2) := by decide +kernel
theorem dX9_still_246 : decode cX9_still 246 = .ok (.irem, 1) := by decide +kernel
theorem dX9_still_247 : decode cX9_still 247 = .ok (.istore 8, 2) := by decide +kernel
theorem dX9_still_249 : decode cX9_still 249 = .ok (.iload 7, 2) := by decide +kernel
theorem dX9_still_251 : decode cX9_still 251 = .ok (.istore 6, 2) := by decide +kernel
theorem dX9_still_253 : decode cX9_still 253 = .ok (.iload 8, 2) := by decide +kernel
theorem dX9_still_255 : decode cX9_still 255 = .ok (.istore 7, 2) := by decide +kernel
theorem dX9_still_257 : decode cX9_still 257 = .ok (.goto (-20), 3) := by decide +kernel
theorem dX9_still_260 : decode cX9_still 260 = .ok (.iload_n 3, 1) := by decide +kernel
theorem dX9_still_261 : decode cX9_still 261 = .ok (.ifCond .ne 8, 3) := by decide +kernel
theorem dX9_still_264 : decode cX9_still 264 = .ok (.iload 4, 2) := by decide +kernel
theorem dX9_still_266 : decode cX9_still 266 = .ok (.goto 5, 3) := by decide +kernel
theorem dX9_still_269 : decode cX9_still 269 = .ok (.iload 5, 2) := by decide +kernel
theorem dX9_still_271 : decode cX9_still 271 = .ok (.iload 6, 2) := by decide +kernel
theorem dX9_still_273 : decode cX9_still 273 = .ok (.idiv, 1) := by decide +kernel
theorem dX9_still_274 : decode cX9_still 274 = .ok (.ireturn, 1) := by decide +kernel
theorem dX9_type_0 : decode cX9_type 0 = .ok (.iload_n 1, 1) := by decide +kernel
theorem dX9_type_1 : decode cX9_type 1 = .ok (.i2l, 1) := by decide +kernel
theorem dX9_type_2 : decode cX9_type 2 = .ok (.ldc2_w 205, 3) := by decide +kernel
theorem dX9_type_5 : decode cX9_type 5 = .ok (.ldc2_w 207, 3) := by decide +kernel
theorem dX9_type_8 : decode cX9_type 8 = .ok (.invokestatic 76, 3) := by decide +kernel
theorem dX9_type_11 : decode cX9_type 11 = .ok (.ifCond .ne 5, 3) := by decide +kernel
theorem dX9_type_14 : decode cX9_type 14 = .ok (.iconst (-1), 1) := by decide +kernel
theorem dX9_type_15 : decode cX9_type 15 = .ok (.ireturn, 1) := by decide +kernel
theorem dX9_type_16 : decode cX9_type 16 = .ok (.aload_n 0, 1) := by decide +kernel
theorem dX9_type_17 : decode cX9_type 17 = .ok (.getfield 209, 3) := by decide +kernel
theorem dX9_type_20 : decode cX9_type 20 = .ok (.bipush 90, 2) := by decide +kernel
theorem dX9_type_22 : decode cX9_type 22 = .ok (.if_icmp .ne 6, 3) := by decide +kernel
theorem dX9_type_25 : decode cX9_type 25 = .ok (.bipush (-3), 2) := by decide +kernel
theorem dX9_type_27 : decode cX9_type 27 = .ok (.ireturn, 1) := by decide +kernel
theorem dX9_type_28 : decode cX9_type 28 = .ok (.aload_n 0, 1) := by decide +kernel
theorem dX9_type_29 : decode cX9_type 29 = .ok (.getfield 28, 3) := by decide +kernel
theorem dX9_type_32 : decode cX9_type 32 = .ok (.aload_n 0, 1) := by decide +kernel
theorem dX9_type_33 : decode cX9_type 33 = .ok (.getfield 209, 3) := by decide +kernel
theorem dX9_type_36 : decode cX9_type 36 = .ok (.iload_n 1, 1) := by decide +kernel
theorem dX9_type_37 : decode cX9_type 37 = .ok (.iastore, 1) := by decide +kernel
theorem dX9_type_38 : decode cX9_type 38 = .ok (.aload_n 0, 1) := by decide +kernel
theorem dX9_type_39 : decode cX9_type 39 = .ok (.dup, 1) := by decide +kernel
theorem dX9_type_40 : decode cX9_type 40 = .ok (.getfield 209, 3) := by decide +kernel
theorem dX9_type_43 : decode cX9_type 43 = .ok (.iconst 1, 1) := by decide +kernel
theorem dX9_type_44 : decode cX9_type 44 = .ok (.iadd, 1) := by decide +kernel
theorem dX9_type_45 : decode cX9_type 45 = .ok (.putfield 209, 3) := by decide +kernel
theorem dX9_type_48 : decode cX9_type 48 = .ok (.aload_n 0, 1) := by decide +kernel
theorem dX9_type_49 : decode cX9_type 49 = .ok (.getfield 209, 3) := by decide +kernel
theorem dX9_type_52 : decode cX9_type 52 = .ok (.ireturn, 1) := by decide +kernel
theorem dX9_here_0 : decode cX9_here 0 = .ok (.aload_n 0, 1) := by decide +kernel
theorem dX9_here_1 : decode cX9_here 1 = .ok (.getfield 212, 3) := by decide +kernel
theorem dX9_here_4 : decode cX9_here 4 = .ok (.aload_n 0, 1) := by decide +kernel
theorem dX9_here_5 : decode cX9_here 5 = .ok (.getfield 209, 3) := by decide +kernel
theorem dX9_here_8 : decode cX9_here 8 = .ok (.if_icmp .ge 30, 3) := by decide +kernel
theorem dX9_here_11 : decode cX9_here 11 = .ok (.aload_n 0, 1) := by decide +kernel
theorem dX9_here_12 : decode cX9_here 12 = .ok (.getfield 28, 3) := by decide +kernel
theorem dX9_here_15 : decode cX9_here 15 = .ok (.aload_n 0, 1) := by decide +kernel
theorem dX9_here_16 : decode cX9_here 16 = .ok (.getfield 212, 3) := by decide +kernel
theorem dX9_here_19 : decode cX9_here 19 = .ok (.iaload, 1) := by decide +kernel
theorem dX9_here_20 : decode cX9_here 20 = .ok (.bipush 32, 2) := by decide +kernel
theorem dX9_here_22 : decode cX9_here 22 = .ok (.if_icmp .ne 16, 3) := by decide +kernel
theorem dX9_here_25 : decode cX9_here 25 = .ok (.aload_n 0, 1) := by decide +kernel
theorem dX9_here_26 : decode cX9_here 26 = .ok (.dup, 1) := by decide +kernel
theorem dX9_here_27 : decode cX9_here 27 = .ok (.getfield 212, 3) := by decide +kernel
theorem dX9_here_30 : decode cX9_here 30 = .ok (.iconst 1, 1) := by decide +kernel
theorem dX9_here_31 : decode cX9_here 31 = .ok (.iadd, 1) := by decide +kernel
theorem dX9_here_32 : decode cX9_here 32 = .ok (.putfield 212, 3) := by decide +kernel
theorem dX9_here_35 : decode cX9_here 35 = .ok (.goto (-35), 3) := by decide +kernel
theorem dX9_here_38 : decode cX9_here 38 = .ok (.aload_n 0, 1) := by decide +kernel
theorem dX9_here_39 : decode cX9_here 39 = .ok (.getfield 212, 3) := by decide +kernel
theorem dX9_here_42 : decode cX9_here 42 = .ok (.aload_n 0, 1) := by decide +kernel
theorem dX9_here_43 : decode cX9_here 43 = .ok (.getfield 209, 3) := by decide +kernel
theorem dX9_here_46 : decode cX9_here 46 = .ok (.if_icmp .ge 15, 3) := by decide +kernel
theorem dX9_here_49 : decode cX9_here 49 = .ok (.aload_n 0, 1) := by decide +kernel
theorem dX9_here_50 : decode cX9_here 50 = .ok (.getfield 28, 3) := by decide +kernel
theorem dX9_here_53 : decode cX9_here 53 = .ok (.aload_n 0, 1) := by decide +kernel
theorem dX9_here_54 : decode cX9_here 54 = .ok (.getfield 212, 3) := by decide +kernel
theorem dX9_here_57 : decode cX9_here 57 = .ok (.iaload, 1) := by decide +kernel
theorem dX9_here_58 : decode cX9_here 58 = .ok (.goto 4, 3) := by decide +kernel
theorem dX9_here_61 : decode cX9_here 61 = .ok (.iconst 0, 1) := by decide +kernel
theorem dX9_here_62 : decode cX9_here 62 = .ok (.ireturn, 1) := by decide +kernel
theorem dX9_word_0 : decode cX9_word 0 = .ok (.bipush 17, 2) := by decide +kernel
theorem dX9_word_2 : decode cX9_word 2 = .ok (.bipush 7, 2) := by decide +kernel
theorem dX9_word_4 : decode cX9_word 4 = .ok (.aload_n 0, 1) := by decide +kernel
theorem dX9_word_5 : decode cX9_word 5 = .ok (.getfield 13, 3) := by decide +kernel
theorem dX9_word_8 : decode cX9_word 8 = .ok (.iconst 1, 1) := by decide +kernel
theorem dX9_word_9 : decode cX9_word 9 = .ok (.iaload, 1) := by decide +kernel
theorem dX9_word_10 : decode cX9_word 10 = .ok (.imul, 1) := by decide +kernel
theorem dX9_word_11 : decode cX9_word 11 = .ok (.iadd, 1) := by decide +kernel
theorem dX9_word_12 : decode cX9_word 12 = .ok (.istore_n 1, 1) := by decide +kernel
theorem dX9_word_13 : decode cX9_word 13 = .ok (.iconst 0, 1) := by decide +kernel
theorem dX9_word_14 : decode cX9_word 14 = .ok (.istore_n 2, 1) := by decide +kernel
theorem dX9_word_15 : decode cX9_word 15 = .ok (.aload_n 0, 1) := by decide +kernel
theorem dX9_word_16 : decode cX9_word 16 = .ok (.invokevirtual 215, 3) := by decide +kernel
theorem dX9_word_19 : decode cX9_word 19 = .ok (.i2l, 1) := by decide +kernel
theorem dX9_word_20 : decode cX9_word 20 = .ok (.ldc2_w 218, 3) := by decide +kernel
theorem dX9_word_23 : decode cX9_word 23 = .ok (.ldc2_w 220, 3) := by decide +kernel
theorem dX9_word_26 : decode cX9_word 26 = .ok (.invokestatic 76, 3) := by decide +kernel
theorem dX9_word_29 : decode cX9_word 29 = .ok (.ifCond .eq 42, 3) := by decide +kernel
theorem dX9_word_32 : decode cX9_word 32 = .ok (.iload_n 2, 1) := by decide +kernel
theorem dX9_word_33 : decode cX9_word 33 = .ok (.bipush 6, 2) := by decide +kernel
theorem dX9_word_35 : decode cX9_word 35 = .ok (.if_icmp .ne 5, 3) := by decide +kernel
theorem dX9_word_38 : decode cX9_word 38 = .ok (.iconst 0, 1) := by decide +kernel
theorem dX9_word_39 : decode cX9_word 39 = .ok (.ireturn, 1) := by decide +kernel
theorem dX9_word_40 : decode cX9_word 40 = .ok (.iinc 2 1, 3) := by decide +kernel
theorem dX9_word_43 : decode cX9_word 43 = .ok (.aload_n 0, 1) := by decide +kernel
theorem dX9_word_44 : decode cX9_word 44 = .ok (.getfield 13, 3) := by decide +kernel
theorem dX9_word_47 : decode cX9_word 47 = .ok (.iload_n 1, 1) := by decide +kernel
theorem dX9_word_48 : decode cX9_word 48 = .ok (.iload_n 2, 1) := by decide +kernel
theorem dX9_word_49 : decode cX9_word 49 = .ok (.iadd, 1) := by decide +kernel
theorem dX9_word_50 : decode cX9_word 50 = .ok (.aload_n 0, 1) := by decide +kernel
theorem dX9_word_51 : decode cX9_word 51 = .ok (.invokevirtual 215, 3) := by decide +kernel
theorem dX9_word_54 : decode cX9_word 54 = .ok (.bipush 97, 2) := by decide +kernel
theorem dX9_word_56 : decode cX9_word 56 = .ok (.isub, 1) := by decide +kernel
theorem dX9_word_57 : decode cX9_word 57 = .ok (.iastore, 1) := by decide +kernel
theorem dX9_word_58 : decode cX9_word 58 = .ok (.aload_n 0, 1) := by decide +kernel
theorem dX9_word_59 : decode cX9_word 59 = .ok (.dup, 1) := by decide +kernel
theorem dX9_word_60 : decode cX9_word 60 = .ok (.getfield 212, 3) := by decide +kernel
theorem dX9_word_63 : decode cX9_word 63 = .ok (.iconst 1, 1) := by decide +kernel
theorem dX9_word_64 : decode cX9_word 64 = .ok (.iadd, 1) := by decide +kernel
theorem dX9_word_65 : decode cX9_word 65 = .ok (.putfield 212, 3) := by decide +kernel
theorem dX9_word_68 : decode cX9_word 68 = .ok (.goto (-53), 3) := by decide +kernel
theorem dX9_word_71 : decode cX9_word 71 = .ok (.aload_n 0, 1) := by decide +kernel
theorem dX9_word_72 : decode cX9_word 72 = .ok (.getfield 13, 3) := by decide +kernel
theorem dX9_word_75 : decode cX9_word 75 = .ok (.iload_n 1, 1) := by decide +kernel
theorem dX9_word_76 : decode cX9_word 76 = .ok (.iload_n 2, 1) := by decide +kernel
theorem dX9_word_77 : decode cX9_word 77 = .ok (.iastore, 1) := by decide +kernel
theorem dX9_word_78 : decode cX9_word 78 = .ok (.aload_n 0, 1) := by decide +kernel
theorem dX9_word_79 : decode cX9_word 79 = .ok (.getfield 13, 3) := by decide +kernel
theorem dX9_word_82 : decode cX9_word 82 = .ok (.iconst 1, 1) := by decide +kernel
theorem dX9_word_83 : decode cX9_word 83 = .ok (.dup2, 1) := by decide +kernel
theorem dX9_word_84 : decode cX9_word 84 = .ok (.iaload, 1) := by decide +kernel
theorem dX9_word_85 : decode cX9_word 85 = .ok (.iconst 1, 1) := by decide +kernel
theorem dX9_word_86 : decode cX9_word 86 = .ok (.iadd, 1) := by decide +kernel
theorem dX9_word_87 : decode cX9_word 87 = .ok (.iastore, 1) := by decide +kernel
theorem dX9_word_88 : decode cX9_word 88 = .ok (.iload_n 2, 1) := by decide +kernel
theorem dX9_word_89 : decode cX9_word 89 = .ok (.ifCond .le 36, 3) := by decide +kernel
theorem dX9_word_92 : decode cX9_word 92 = .ok (.aload_n 0, 1) := by decide +kernel
theorem dX9_word_93 : decode cX9_word 93 = .ok (.invokevirtual 215, 3) := by decide +kernel
theorem dX9_word_96 : decode cX9_word 96 = .ok (.bipush 58, 2) := by decide +kernel
theorem dX9_word_98 : decode cX9_word 98 = .ok (.if_icmp .eq 23, 3) := by decide +kernel
theorem dX9_word_101 : decode cX9_word 101 = .ok (.aload_n 0, 1) := by decide +kernel
theorem dX9_word_102 : decode cX9_word 102 = .ok (.invokevirtual 215, 3) := by decide +kernel
theorem dX9_word_105 : decode cX9_word 105 = .ok (.bipush 44, 2) := by decide +kernel
theorem dX9_word_107 : decode cX9_word 107 = .ok (.if_icmp .ne 18, 3) := by decide +kernel
theorem dX9_word_110 : decode cX9_word 110 = .ok (.aload_n 0, 1) := by decide +kernel
theorem dX9_word_111 : decode cX9_word 111 = .ok (.getfield 13, 3) := by decide +kernel
theorem dX9_word_114 : decode cX9_word 114 = .ok (.iconst 1, 1) := by decide +kernel
theorem dX9_word_115 : decode cX9_word 115 = .ok (.iaload, 1) := by decide +kernel
theorem dX9_word_116 : decode cX9_word 116 = .ok (.bipush 6, 2) := by decide +kernel
theorem dX9_word_118 : decode cX9_word 118 = .ok (.if_icmp .ge 7, 3) := by decide +kernel
theorem dX9_word_121 : decode cX9_word 121 = .ok (.iconst 1, 1) := by decide +kernel
theorem dX9_word_122 : decode cX9_word 122 = .ok (.goto 4, 3) := by decide +kernel
theorem dX9_word_125 : decode cX9_word 125 = .ok (.iconst 0, 1) := by decide +kernel
theorem dX9_word_126 : decode cX9_word 126 = .ok (.ireturn, 1) := by decide +kernel
theorem dX9_isText_0 : decode cX9_isText 0 = .ok (.aload_n 0, 1) := by decide +kernel
theorem dX9_isText_1 : decode cX9_isText 1 = .ok (.iconst 0, 1) := by decide +kernel
theorem dX9_isText_2 : decode cX9_isText 2 = .ok (.putfield 212, 3) := by decide +kernel
theorem dX9_isText_5 : decode cX9_isText 5 = .ok (.aload_n 0, 1) := by decide +kernel
theorem dX9_isText_6 : decode cX9_isText 6 = .ok (.getfield 13, 3) := by decide +kernel
theorem dX9_isText_9 : decode cX9_isText 9 = .ok (.iconst 1, 1) := by decide +kernel
theorem dX9_isText_10 : decode cX9_isText 10 = .ok (.iconst 0, 1) := by decide +kernel
theorem dX9_isText_11 : decode cX9_isText 11 = .ok (.iastore, 1) := by decide +kernel
theorem dX9_isText_12 : decode cX9_isText 12 = .ok (.aload_n 0, 1) := by decide +kernel
theorem dX9_isText_13 : decode cX9_isText 13 = .ok (.getfield 13, 3) := by decide +kernel
theorem dX9_isText_16 : decode cX9_isText 16 = .ok (.iconst 0, 1) := by decide +kernel
theorem dX9_isText_17 : decode cX9_isText 17 = .ok (.iconst 0, 1) := by decide +kernel
theorem dX9_isText_18 : decode cX9_isText 18 = .ok (.iastore, 1) := by decide +kernel
theorem dX9_isText_19 : decode cX9_isText 19 = .ok (.aload_n 0, 1) := by decide +kernel
theorem dX9_isText_20 : decode cX9_isText 20 = .ok (.invokevirtual 215, 3) := by decide +kernel
theorem dX9_isText_23 : decode cX9_isText 23 = .ok (.bipush 58, 2) := by decide +kernel
theorem dX9_isText_25 : decode cX9_isText 25 = .ok (.if_icmp .eq 7, 3) := by decide +kernel
theorem dX9_isText_28 : decode cX9_isText 28 = .ok (.iconst 1, 1) := by decide +kernel
theorem dX9_isText_29 : decode cX9_isText 29 = .ok (.goto 4, 3) := by decide +kernel
theorem dX9_isText_32 : decode cX9_isText 32 = .ok (.iconst 0, 1) := by decide +kernel
theorem dX9_isText_33 : decode cX9_isText 33 = .ok (.istore_n 1, 1) := by decide +kernel
theorem dX9_isText_34 : decode cX9_isText 34 = .ok (.iload_n 1, 1) := by decide +kernel
theorem dX9_isText_35 : decode cX9_isText 35 = .ok (.ifCond .eq 48, 3) := by decide +kernel
theorem dX9_isText_38 : decode cX9_isText 38 = .ok (.aload_n 0, 1) := by decide +kernel
theorem dX9_isText_39 : decode cX9_isText 39 = .ok (.invokevirtual 222, 3) := by decide +kernel
theorem dX9_isText_42 : decode cX9_isText 42 = .ok (.ifCond .ne 5, 3) := by decide +kernel
theorem dX9_isText_45 : decode cX9_isText 45 = .ok (.iconst 0, 1) := by decide +kernel
theorem dX9_isText_46 : decode cX9_isText 46 = .ok (.ireturn, 1) := by decide +kernel
theorem dX9_isText_47 : decode cX9_isText 47 = .ok (.aload_n 0, 1) := by decide +kernel
theorem dX9_isText_48 : decode cX9_isText 48 = .ok (.invokevirtual 215, 3) := by decide +kernel
theorem dX9_isText_51 : decode cX9_isText 51 = .ok (.bipush 44, 2) := by decide +kernel
theorem dX9_isText_53 : decode cX9_isText 53 = .ok (.if_icmp .ne 7, 3) := by decide +kernel
theorem dX9_isText_56 : decode cX9_isText 56 = .ok (.iconst 1, 1) := by decide +kernel
theorem dX9_isText_57 : decode cX9_isText 57 = .ok (.goto 4, 3) := by decide +kernel
theorem dX9_isText_60 : decode cX9_isText 60 = .ok (.iconst 0, 1) := by decide +kernel
theorem dX9_isText_61 : decode cX9_isText 61 = .ok (.istore_n 1, 1) := by decide +kernel
theorem dX9_isText_62 : decode cX9_isText 62 = .ok (.aload_n 0, 1) := by decide +kernel
theorem dX9_isText_63 : decode cX9_isText 63 = .ok (.dup, 1) := by decide +kernel
theorem dX9_isText_64 : decode cX9_isText 64 = .ok (.getfield 212, 3) := by decide +kernel
theorem dX9_isText_67 : decode cX9_isText 67 = .ok (.iload_n 1, 1) := by decide +kernel
theorem dX9_isText_68 : decode cX9_isText 68 = .ok (.ifCond .eq 7, 3) := by decide +kernel
theorem dX9_isText_71 : decode cX9_isText 71 = .ok (.iconst 1, 1) := by decide +kernel
theorem dX9_isText_72 : decode cX9_isText 72 = .ok (.goto 4, 3) := by decide +kernel
theorem dX9_isText_75 : decode cX9_isText 75 = .ok (.iconst 0, 1) := by decide +kernel
theorem dX9_isText_76 : decode cX9_isText 76 = .ok (.iadd, 1) := by decide +kernel
theorem dX9_isText_77 : decode cX9_isText 77 = .ok (.putfield 212, 3) := by decide +kernel
theorem dX9_isText_80 : decode cX9_isText 80 = .ok (.goto (-46), 3) := by decide +kernel
theorem dX9_isText_83 : decode cX9_isText 83 = .ok (.aload_n 0, 1) := by decide +kernel
theorem dX9_isText_84 : decode cX9_isText 84 = .ok (.dup, 1) := by decide +kernel
theorem dX9_isText_85 : decode cX9_isText 85 = .ok (.getfield 212, 3) := by decide +kernel
theorem dX9_isText_88 : decode cX9_isText 88 = .ok (.iconst 1, 1) := by decide +kernel
theorem dX9_isText_89 : decode cX9_isText 89 = .ok (.iadd, 1) := by decide +kernel
theorem dX9_isText_90 : decode cX9_isText 90 = .ok (.putfield 212, 3) := by decide +kernel
theorem dX9_isText_93 : decode cX9_isText 93 = .ok (.aload_n 0, 1) := by decide +kernel
theorem dX9_isText_94 : decode cX9_isText 94 = .ok (.invokevirtual 215, 3) := by decide +kernel
theorem dX9_isText_97 : decode cX9_isText 97 = .ok (.i2l, 1) := by decide +kernel
theorem dX9_isText_98 : decode cX9_isText 98 = .ok (.ldc2_w 218, 3) := by decide +kernel
theorem dX9_isText_101 : decode cX9_isText 101 = .ok (.ldc2_w 220, 3) := by decide +kernel
theorem dX9_isText_104 : decode cX9_isText 104 = .ok (.invokestatic 76, 3) := by decide +kernel
theorem dX9_isText_107 : decode cX9_isText 107 = .ok (.ifCond .eq 57, 3) := by decide +kernel
theorem dX9_isText_110 : decode cX9_isText 110 = .ok (.aload_n 0, 1) := by decide +kernel
theorem dX9_isText_111 : decode cX9_isText 111 = .ok (.getfield 13, 3) := by decide +kernel
theorem dX9_isText_114 : decode cX9_isText 114 = .ok (.iconst 0, 1) := by decide +kernel
theorem dX9_isText_115 : decode cX9_isText 115 = .ok (.iaload, 1) := by decide +kernel
theorem dX9_isText_116 : decode cX9_isText 116 = .ok (.bipush 12, 2) := by decide +kernel
theorem dX9_isText_118 : decode cX9_isText 118 = .ok (.if_icmp .ge 46, 3) := by decide +kernel
theorem dX9_isText_121 : decode cX9_isText 121 = .ok (.aload_n 0, 1) := by decide +kernel
theorem dX9_isText_122 : decode cX9_isText 122 = .ok (.getfield 13, 3) := by decide +kernel
theorem dX9_isText_125 : decode cX9_isText 125 = .ok (.iconst 5, 1) := by decide +kernel
theorem dX9_isText_126 : decode cX9_isText 126 = .ok (.aload_n 0, 1) := by decide +kernel
theorem dX9_isText_127 : decode cX9_isText 127 = .ok (.getfield 13, 3) := by decide +kernel
theorem dX9_isText_130 : decode cX9_isText 130 = .ok (.iconst 0, 1) := by decide +kernel
theorem dX9_isText_131 : decode cX9_isText 131 = .ok (.iaload, 1) := by decide +kernel
theorem dX9_isText_132 : decode cX9_isText 132 = .ok (.iadd, 1) := by decide +kernel
theorem dX9_isText_133 : decode cX9_isText 133 = .ok (.aload_n 0, 1) := by decide +kernel
theorem dX9_isText_134 : decode cX9_isText 134 = .ok (.invokevirtual 215, 3) := by decide +kernel
theorem dX9_isText_137 : decode cX9_isText 137 = .ok (.bipush 97, 2) := by decide +kernel
theorem dX9_isText_139 : decode cX9_isText 139 = .ok (.isub, 1) := by decide +kernel
theorem dX9_isText_140 : decode cX9_isText 140 = .ok (.iastore, 1) := by decide +kernel
theorem dX9_isText_141 : decode cX9_isText 141 = .ok (.aload_n 0, 1) := by decide +kernel
theorem dX9_isText_142 : decode cX9_isText 142 = .ok (.getfield 13, 3) := by decide +kernel
theorem dX9_isText_145 : decode cX9_isText 145 = .ok (.iconst 0, 1) := by decide +kernel
theorem dX9_isText_146 : decode cX9_isText 146 = .ok (.dup2, 1) := by decide +kernel
theorem dX9_isText_147 : decode cX9_isText 147 = .ok (.iaload, 1) := by decide +kernel
theorem dX9_isText_148 : decode cX9_isText 148 = .ok (.iconst 1, 1) := by decide +kernel
theorem dX9_isText_149 : decode cX9_isText 149 = .ok (.iadd, 1) := by decide +kernel
theorem dX9_isText_150 : decode cX9_isText 150 = .ok (.iastore, 1) := by decide +kernel
theorem dX9_isText_151 : decode cX9_isText 151 = .ok (.aload_n 0, 1) := by decide +kernel
theorem dX9_isText_152 : decode cX9_isText 152 = .ok (.dup, 1) := by decide +kernel
theorem dX9_isText_153 : decode cX9_isText 153 = .ok (.getfield 212, 3) := by decide +kernel
theorem dX9_isText_156 : decode cX9_isText 156 = .ok (.iconst 1, 1) := by decide +kernel
theorem dX9_isText_157 : decode cX9_isText 157 = .ok (.iadd, 1) := by decide +kernel
theorem dX9_isText_158 : decode cX9_isText 158 = .ok (.putfield 212, 3) := by decide +kernel
theorem dX9_isText_161 : decode cX9_isText 161 = .ok (.goto (-68), 3) := by decide +kernel
theorem dX9_isText_164 : decode cX9_isText 164 = .ok (.aload_n 0, 1) := by decide +kernel
theorem dX9_isText_165 : decode cX9_isText 165 = .ok (.invokevirtual 215, 3) := by decide +kernel
theorem dX9_isText_168 : decode cX9_isText 168 = .ok (.ifCond .ne 7, 3) := by decide +kernel
theorem dX9_isText_171 : decode cX9_isText 171 = .ok (.iconst 1, 1) := by decide +kernel
theorem dX9_isText_172 : decode cX9_isText 172 = .ok (.goto 4, 3) := by decide +kernel
theorem dX9_isText_175 : decode cX9_isText 175 = .ok (.iconst 0, 1) := by decide +kernel
theorem dX9_isText_176 : decode cX9_isText 176 = .ok (.ireturn, 1) := by decide +kernel
theorem dX9_read_0 : decode cX9_read 0 = .ok (.aload_n 0, 1) := by decide +kernel
theorem dX9_read_1 : decode cX9_read 1 = .ok (.invokevirtual 111, 3) := by decide +kernel
theorem dX9_read_4 : decode cX9_read 4 = .ok (.aload_n 0, 1) := by decide +kernel
theorem dX9_read_5 : decode cX9_read 5 = .ok (.invokevirtual 226, 3) := by decide +kernel
theorem dX9_read_8 : decode cX9_read 8 = .ok (.istore_n 1, 1) := by decide +kernel
theorem dX9_read_9 : decode cX9_read 9 = .ok (.aload_n 0, 1) := by decide +kernel
theorem dX9_read_10 : decode cX9_read 10 = .ok (.invokevirtual 215, 3) := by decide +kernel
theorem dX9_read_13 : decode cX9_read 13 = .ok (.ifCond .ne 10, 3) := by decide +kernel
theorem dX9_read_16 : decode cX9_read 16 = .ok (.aload_n 0, 1) := by decide +kernel
theorem dX9_read_17 : decode cX9_read 17 = .ok (.getfield 209, 3) := by decide +kernel
theorem dX9_read_20 : decode cX9_read 20 = .ok (.goto 7, 3) := by decide +kernel
theorem dX9_read_23 : decode cX9_read 23 = .ok (.aload_n 0, 1) := by decide +kernel
theorem dX9_read_24 : decode cX9_read 24 = .ok (.getfield 212, 3) := by decide +kernel
theorem dX9_read_27 : decode cX9_read 27 = .ok (.istore_n 2, 1) := by decide +kernel
theorem dX9_read_28 : decode cX9_read 28 = .ok (.aload_n 0, 1) := by decide +kernel
theorem dX9_read_29 : decode cX9_read 29 = .ok (.iconst 0, 1) := by decide +kernel
theorem dX9_read_30 : decode cX9_read 30 = .ok (.putfield 209, 3) := by decide +kernel
theorem dX9_read_33 : decode cX9_read 33 = .ok (.iload_n 1, 1) := by decide +kernel
theorem dX9_read_34 : decode cX9_read 34 = .ok (.ifCond .ne 34, 3) := by decide +kernel
theorem dX9_read_37 : decode cX9_read 37 = .ok (.iconst 0, 1) := by decide +kernel
theorem dX9_read_38 : decode cX9_read 38 = .ok (.istore_n 3, 1) := by decide +kernel
theorem dX9_read_39 : decode cX9_read 39 = .ok (.iload_n 3, 1) := by decide +kernel
theorem dX9_read_40 : decode cX9_read 40 = .ok (.bipush 59, 2) := by decide +kernel
theorem dX9_read_42 : decode cX9_read 42 = .ok (.if_icmp .ge 21, 3) := by decide +kernel
theorem dX9_read_45 : decode cX9_read 45 = .ok (.aload_n 0, 1) := by decide +kernel
theorem dX9_read_46 : decode cX9_read 46 = .ok (.getfield 13, 3) := by decide +kernel
theorem dX9_read_49 : decode cX9_read 49 = .ok (.iload_n 3, 1) := by decide +kernel
theorem dX9_read_50 : decode cX9_read 50 = .ok (.aload_n 0, 1) := by decide +kernel
theorem dX9_read_51 : decode cX9_read 51 = .ok (.getfield 16, 3) := by decide +kernel
theorem dX9_read_54 : decode cX9_read 54 = .ok (.iload_n 3, 1) := by decide +kernel
theorem dX9_read_55 : decode cX9_read 55 = .ok (.iaload, 1) := by decide +kernel
theorem dX9_read_56 : decode cX9_read 56 = .ok (.iastore, 1) := by decide +kernel
theorem dX9_read_57 : decode cX9_read 57 = .ok (.iinc 3 1, 3) := by decide +kernel
theorem dX9_read_60 : decode cX9_read 60 = .ok (.goto (-21), 3) := by decide +kernel
theorem dX9_read_63 : decode cX9_read 63 = .ok (.bipush (-20), 2) := by decide +kernel
theorem dX9_read_65 : decode cX9_read 65 = .ok (.iload_n 2, 1) := by decide +kernel
theorem dX9_read_66 : decode cX9_read 66 = .ok (.isub, 1) := by decide +kernel
theorem dX9_read_67 : decode cX9_read 67 = .ok (.ireturn, 1) := by decide +kernel
theorem dX9_read_68 : decode cX9_read 68 = .ok (.aload_n 0, 1) := by decide +kernel
theorem dX9_read_69 : decode cX9_read 69 = .ok (.invokevirtual 108, 3) := by decide +kernel
theorem dX9_read_72 : decode cX9_read 72 = .ok (.aload_n 0, 1) := by decide +kernel
theorem dX9_read_73 : decode cX9_read 73 = .ok (.getfield 13, 3) := by decide +kernel
theorem dX9_read_76 : decode cX9_read 76 = .ok (.iconst 0, 1) := by decide +kernel
theorem dX9_read_77 : decode cX9_read 77 = .ok (.iaload, 1) := by decide +kernel
theorem dX9_read_78 : decode cX9_read 78 = .ok (.ireturn, 1) := by decide +kernel
theorem dX9_drift_0 : decode cX9_drift 0 = .ok (.iload_n 1, 1) := by decide +kernel
theorem dX9_drift_1 : decode cX9_drift 1 = .ok (.i2l, 1) := by decide +kernel
theorem dX9_drift_2 : decode cX9_drift 2 = .ok (.lconst 1, 1) := by decide +kernel
theorem dX9_drift_3 : decode cX9_drift 3 = .ok (.ldc2_w 229, 3) := by decide +kernel
theorem dX9_drift_6 : decode cX9_drift 6 = .ok (.invokestatic 76, 3) := by decide +kernel
theorem dX9_drift_9 : decode cX9_drift 9 = .ok (.ifCond .ne 5, 3) := by decide +kernel
theorem dX9_drift_12 : decode cX9_drift 12 = .ok (.iconst (-1), 1) := by decide +kernel
theorem dX9_drift_13 : decode cX9_drift 13 = .ok (.ireturn, 1) := by decide +kernel
theorem dX9_drift_14 : decode cX9_drift 14 = .ok (.iconst 0, 1) := by decide +kernel
theorem dX9_drift_15 : decode cX9_drift 15 = .ok (.istore_n 2, 1) := by decide +kernel
theorem dX9_drift_16 : decode cX9_drift 16 = .ok (.iload_n 2, 1) := by decide +kernel
theorem dX9_drift_17 : decode cX9_drift 17 = .ok (.iload_n 1, 1) := by decide +kernel
theorem dX9_drift_18 : decode cX9_drift 18 = .ok (.if_icmp .ge 135, 3) := by decide +kernel
theorem dX9_drift_21 : decode cX9_drift 21 = .ok (.aload_n 0, 1) := by decide +kernel
theorem dX9_drift_22 : decode cX9_drift 22 = .ok (.invokevirtual 111, 3) := by decide +kernel
theorem dX9_drift_25 : decode cX9_drift 25 = .ok (.aload_n 0, 1) := by decide +kernel
theorem dX9_drift_26 : decode cX9_drift 26 = .ok (.invokevirtual 108, 3) := by decide +kernel
theorem dX9_drift_29 : decode cX9_drift 29 = .ok (.aload_n 0, 1) := by decide +kernel
theorem dX9_drift_30 : decode cX9_drift 30 = .ok (.getfield 13, 3) := by decide +kernel
theorem dX9_drift_33 : decode cX9_drift 33 = .ok (.iconst 4, 1) := by decide +kernel
theorem dX9_drift_34 : decode cX9_drift 34 = .ok (.iaload, 1) := by decide +kernel
theorem dX9_drift_35 : decode cX9_drift 35 = .ok (.i2l, 1) := by decide +kernel
theorem dX9_drift_36 : decode cX9_drift 36 = .ok (.ldc2_w 231, 3) := by decide +kernel
theorem dX9_drift_39 : decode cX9_drift 39 = .ok (.lmul, 1) := by decide +kernel
theorem dX9_drift_40 : decode cX9_drift 40 = .ok (.ldc2_w 233, 3) := by decide +kernel
theorem dX9_drift_43 : decode cX9_drift 43 = .ok (.ladd, 1) := by decide +kernel
theorem dX9_drift_44 : decode cX9_drift 44 = .ok (.ldc2_w 235, 3) := by decide +kernel
theorem dX9_drift_47 : decode cX9_drift 47 = .ok (.lrem, 1) := by decide +kernel
theorem dX9_drift_48 : decode cX9_drift 48 = .ok (.lstore_n 3, 1) := by decide +kernel
theorem dX9_drift_49 : decode cX9_drift 49 = .ok (.aload_n 0, 1) := by decide +kernel
theorem dX9_drift_50 : decode cX9_drift 50 = .ok (.getfield 13, 3) := by decide +kernel
theorem dX9_drift_53 : decode cX9_drift 53 = .ok (.iconst 4, 1) := by decide +kernel
theorem dX9_drift_54 : decode cX9_drift 54 = .ok (.lload_n 3, 1) := by decide +kernel
theorem dX9_drift_55 : decode cX9_drift 55 = .ok (.l2i, 1) := by decide +kernel
theorem dX9_drift_56 : decode cX9_drift 56 = .ok (.iastore, 1) := by decide +kernel
theorem dX9_drift_57 : decode cX9_drift 57 = .ok (.lload_n 3, 1) := by decide +kernel
theorem dX9_drift_58 : decode cX9_drift 58 = .ok (.ldc2_w 237, 3) := by decide +kernel
theorem dX9_drift_61 : decode cX9_drift 61 = .ok (.ldiv, 1) := by decide +kernel
theorem dX9_drift_62 : decode cX9_drift 62 = .ok (.l2i, 1) := by decide +kernel
theorem dX9_drift_63 : decode cX9_drift 63 = .ok (.istore 5, 2) := by decide +kernel
theorem dX9_drift_65 : decode cX9_drift 65 = .ok (.iload 5, 2) := by decide +kernel
theorem dX9_drift_67 : decode cX9_drift 67 = .ok (.bipush 8, 2) := by decide +kernel
theorem dX9_drift_69 : decode cX9_drift 69 = .ok (.idiv, 1) := by decide +kernel
theorem dX9_drift_70 : decode cX9_drift 70 = .ok (.istore 6, 2) := by decide +kernel
theorem dX9_drift_72 : decode cX9_drift 72 = .ok (.iload 5, 2) := by decide +kernel
theorem dX9_drift_74 : decode cX9_drift 74 = .ok (.bipush 8, 2) := by decide +kernel
theorem dX9_drift_76 : decode cX9_drift 76 = .ok (.irem, 1) := by decide +kernel
theorem dX9_drift_77 : decode cX9_drift 77 = .ok (.istore 7, 2) := by decide +kernel
theorem dX9_drift_79 : decode cX9_drift 79 = .ok (.aload_n 0, 1) := by decide +kernel
theorem dX9_drift_80 : decode cX9_drift 80 = .ok (.iload 7, 2) := by decide +kernel
theorem dX9_drift_82 : decode cX9_drift 82 = .ok (.iconst 4, 1) := by decide +kernel
theorem dX9_drift_83 : decode cX9_drift 83 = .ok (.if_icmp .ge 15, 3) := by decide +kernel
theorem dX9_drift_86 : decode cX9_drift 86 = .ok (.aload_n 0, 1) := by decide +kernel
theorem dX9_drift_87 : decode cX9_drift 87 = .ok (.iload 6, 2) := by decide +kernel
theorem dX9_drift_89 : decode cX9_drift 89 = .ok (.bipush 26, 2) := by decide +kernel
theorem dX9_drift_91 : decode cX9_drift 91 = .ok (.irem, 1) := by decide +kernel
theorem dX9_drift_92 : decode cX9_drift 92 = .ok (.invokevirtual 114, 3) := by decide +kernel
theorem dX9_drift_95 : decode cX9_drift 95 = .ok (.goto 49, 3) := by decide +kernel
theorem dX9_drift_98 : decode cX9_drift 98 = .ok (.iload 7, 2) := by decide +kernel
theorem dX9_drift_100 : decode cX9_drift 100 = .ok (.iconst 4, 1) := by decide +kernel
theorem dX9_drift_101 : decode cX9_drift 101 = .ok (.if_icmp .ne 10, 3) := by decide +kernel
theorem dX9_drift_104 : decode cX9_drift 104 = .ok (.aload_n 0, 1) := by decide +kernel
theorem dX9_drift_105 : decode cX9_drift 105 = .ok (.invokevirtual 120, 3) := by decide +kernel
theorem dX9_drift_108 : decode cX9_drift 108 = .ok (.goto 36, 3) := by decide +kernel
theorem dX9_drift_111 : decode cX9_drift 111 = .ok (.iload 7, 2) := by decide +kernel
theorem dX9_drift_113 : decode cX9_drift 113 = .ok (.iconst 5, 1) := by decide +kernel
theorem dX9_drift_114 : decode cX9_drift 114 = .ok (.if_icmp .ne 15, 3) := by decide +kernel
theorem dX9_drift_117 : decode cX9_drift 117 = .ok (.aload_n 0, 1) := by decide +kernel
theorem dX9_drift_118 : decode cX9_drift 118 = .ok (.iload 6, 2) := by decide +kernel
theorem dX9_drift_120 : decode cX9_drift 120 = .ok (.bipush 6, 2) := by decide +kernel
theorem dX9_drift_122 : decode cX9_drift 122 = .ok (.irem, 1) := by decide +kernel
theorem dX9_drift_123 : decode cX9_drift 123 = .ok (.invokevirtual 130, 3) := by decide +kernel
theorem dX9_drift_126 : decode cX9_drift 126 = .ok (.goto 18, 3) := by decide +kernel
theorem dX9_drift_129 : decode cX9_drift 129 = .ok (.aload_n 0, 1) := by decide +kernel
theorem dX9_drift_130 : decode cX9_drift 130 = .ok (.iload 7, 2) := by decide +kernel
theorem dX9_drift_132 : decode cX9_drift 132 = .ok (.bipush 6, 2) := by decide +kernel
theorem dX9_drift_134 : decode cX9_drift 134 = .ok (.isub, 1) := by decide +kernel
theorem dX9_drift_135 : decode cX9_drift 135 = .ok (.iload 6, 2) := by decide +kernel
theorem dX9_drift_137 : decode cX9_drift 137 = .ok (.iconst 4, 1) := by decide +kernel
theorem dX9_drift_138 : decode cX9_drift 138 = .ok (.irem, 1) := by decide +kernel
theorem dX9_drift_139 : decode cX9_drift 139 = .ok (.iconst 1, 1) := by decide +kernel
theorem dX9_drift_140 : decode cX9_drift 140 = .ok (.iadd, 1) := by decide +kernel
theorem dX9_drift_141 : decode cX9_drift 141 = .ok (.invokevirtual 133, 3) := by decide +kernel
theorem dX9_drift_144 : decode cX9_drift 144 = .ok (.putfield 239, 3) := by decide +kernel
theorem dX9_drift_147 : decode cX9_drift 147 = .ok (.iinc 2 1, 3) := by decide +kernel
theorem dX9_drift_150 : decode cX9_drift 150 = .ok (.goto (-134), 3) := by decide +kernel
theorem dX9_drift_153 : decode cX9_drift 153 = .ok (.aload_n 0, 1) := by decide +kernel
theorem dX9_drift_154 : decode cX9_drift 154 = .ok (.getfield 13, 3) := by decide +kernel
theorem dX9_drift_157 : decode cX9_drift 157 = .ok (.iconst 0, 1) := by decide +kernel
theorem dX9_drift_158 : decode cX9_drift 158 = .ok (.iaload, 1) := by decide +kernel
theorem dX9_drift_159 : decode cX9_drift 159 = .ok (.ireturn, 1) := by decide +kernel
theorem dX9_seed_0 : decode cX9_seed 0 = .ok (.iload_n 1, 1) := by decide +kernel
theorem dX9_seed_1 : decode cX9_seed 1 = .ok (.ifCond .ge 5, 3) := by decide +kernel
theorem dX9_seed_4 : decode cX9_seed 4 = .ok (.iconst (-1), 1) := by decide +kernel
theorem dX9_seed_5 : decode cX9_seed 5 = .ok (.ireturn, 1) := by decide +kernel
theorem dX9_seed_6 : decode cX9_seed 6 = .ok (.aload_n 0, 1) := by decide +kernel
theorem dX9_seed_7 : decode cX9_seed 7 = .ok (.getfield 13, 3) := by decide +kernel
theorem dX9_seed_10 : decode cX9_seed 10 = .ok (.iconst 4, 1) := by decide +kernel
theorem dX9_seed_11 : decode cX9_seed 11 = .ok (.iaload, 1) := by decide +kernel
theorem dX9_seed_12 : decode cX9_seed 12 = .ok (.istore_n 2, 1) := by decide +kernel
theorem dX9_seed_13 : decode cX9_seed 13 = .ok (.aload_n 0, 1) := by decide +kernel
theorem dX9_seed_14 : decode cX9_seed 14 = .ok (.getfield 13, 3) := by decide +kernel
theorem dX9_seed_17 : decode cX9_seed 17 = .ok (.iconst 4, 1) := by decide +kernel
theorem dX9_seed_18 : decode cX9_seed 18 = .ok (.iload_n 1, 1) := by decide +kernel
theorem dX9_seed_19 : decode cX9_seed 19 = .ok (.iastore, 1) := by decide +kernel
theorem dX9_seed_20 : decode cX9_seed 20 = .ok (.iload_n 2, 1) := by decide +kernel
theorem dX9_seed_21 : decode cX9_seed 21 = .ok (.ireturn, 1) := by decide +kernel
theorem dX9_notes_0 : decode cX9_notes 0 = .ok (.aload_n 0, 1) := by decide +kernel
theorem dX9_notes_1 : decode cX9_notes 1 = .ok (.getfield 136, 3) := by decide +kernel
theorem dX9_notes_4 : decode cX9_notes 4 = .ok (.bipush 6, 2) := by decide +kernel
theorem dX9_notes_6 : decode cX9_notes 6 = .ok (.if_icmp .ne 39, 3) := by decide +kernel
theorem dX9_notes_9 : decode cX9_notes 9 = .ok (.bipush 59, 2) := by decide +kernel
theorem dX9_notes_11 : decode cX9_notes 11 = .ok (.istore_n 1, 1) := by decide +kernel
theorem dX9_notes_12 : decode cX9_notes 12 = .ok (.iload_n 1, 1) := by decide +kernel
theorem dX9_notes_13 : decode cX9_notes 13 = .ok (.sipush 354, 3) := by decide +kernel
theorem dX9_notes_16 : decode cX9_notes 16 = .ok (.if_icmp .ge 24, 3) := by decide +kernel
theorem dX9_notes_19 : decode cX9_notes 19 = .ok (.aload_n 0, 1) := by decide +kernel
theorem dX9_notes_20 : decode cX9_notes 20 = .ok (.getfield 31, 3) := by decide +kernel
theorem dX9_notes_23 : decode cX9_notes 23 = .ok (.iload_n 1, 1) := by decide +kernel
theorem dX9_notes_24 : decode cX9_notes 24 = .ok (.bipush 59, 2) := by decide +kernel
theorem dX9_notes_26 : decode cX9_notes 26 = .ok (.isub, 1) := by decide +kernel
theorem dX9_notes_27 : decode cX9_notes 27 = .ok (.aload_n 0, 1) := by decide +kernel
theorem dX9_notes_28 : decode cX9_notes 28 = .ok (.getfield 31, 3) := by decide +kernel
theorem dX9_notes_31 : decode cX9_notes 31 = .ok (.iload_n 1, 1) := by decide +kernel
theorem dX9_notes_32 : decode cX9_notes 32 = .ok (.iaload, 1) := by decide +kernel
theorem dX9_notes_33 : decode cX9_notes 33 = .ok (.iastore, 1) := by decide +kernel
theorem dX9_notes_34 : decode cX9_notes 34 = .ok (.iinc 1 1, 3) := by decide +kernel
theorem dX9_notes_37 : decode cX9_notes 37 = .ok (.goto (-25), 3) := by decide +kernel
theorem dX9_notes_40 : decode cX9_notes 40 = .ok (.aload_n 0, 1) := by decide +kernel
theorem dX9_notes_41 : decode cX9_notes 41 = .ok (.iconst 5, 1) := by decide +kernel
theorem dX9_notes_42 : decode cX9_notes 42 = .ok (.putfield 136, 3) := by decide +kernel
theorem dX9_notes_45 : decode cX9_notes 45 = .ok (.iconst 0, 1) := by decide +kernel
theorem dX9_notes_46 : decode cX9_notes 46 = .ok (.istore_n 1, 1) := by decide +kernel
theorem dX9_notes_47 : decode cX9_notes 47 = .ok (.iload_n 1, 1) := by decide +kernel
theorem dX9_notes_48 : decode cX9_notes 48 = .ok (.bipush 59, 2) := by decide +kernel
theorem dX9_notes_50 : decode cX9_notes 50 = .ok (.if_icmp .ge 29, 3) := by decide +kernel
theorem dX9_notes_53 : decode cX9_notes 53 = .ok (.aload_n 0, 1) := by decide +kernel
theorem dX9_notes_54 : decode cX9_notes 54 = .ok (.getfield 31, 3) := by decide +kernel
theorem dX9_notes_57 : decode cX9_notes 57 = .ok (.bipush 59, 2) := by decide +kernel
theorem dX9_notes_59 : decode cX9_notes 59 = .ok (.aload_n 0, 1) := by decide +kernel
theorem dX9_notes_60 : decode cX9_notes 60 = .ok (.getfield 136, 3) := by decide +kernel
theorem dX9_notes_63 : decode cX9_notes 63 = .ok (.imul, 1) := by decide +kernel
theorem dX9_notes_64 : decode cX9_notes 64 = .ok (.iload_n 1, 1) := by decide +kernel
theorem dX9_notes_65 : decode cX9_notes 65 = .ok (.iadd, 1) := by decide +kernel
theorem dX9_notes_66 : decode cX9_notes 66 = .ok (.aload_n 0, 1) := by decide +kernel
theorem dX9_notes_67 : decode cX9_notes 67 = .ok (.getfield 16, 3) := by decide +kernel
theorem dX9_notes_70 : decode cX9_notes 70 = .ok (.iload_n 1, 1) := by decide +kernel
theorem dX9_notes_71 : decode cX9_notes 71 = .ok (.iaload, 1) := by decide +kernel
theorem dX9_notes_72 : decode cX9_notes 72 = .ok (.iastore, 1) := by decide +kernel
theorem dX9_notes_73 : decode cX9_notes 73 = .ok (.iinc 1 1, 3) := by decide +kernel
theorem dX9_notes_76 : decode cX9_notes 76 = .ok (.goto (-29), 3) := by decide +kernel
theorem dX9_notes_79 : decode cX9_notes 79 = .ok (.aload_n 0, 1) := by decide +kernel
theorem dX9_notes_80 : decode cX9_notes 80 = .ok (.dup, 1) := by decide +kernel
theorem dX9_notes_81 : decode cX9_notes 81 = .ok (.getfield 136, 3) := by decide +kernel
theorem dX9_notes_84 : decode cX9_notes 84 = .ok (.iconst 1, 1) := by decide +kernel
theorem dX9_notes_85 : decode cX9_notes 85 = .ok (.iadd, 1) := by decide +kernel
theorem dX9_notes_86 : decode cX9_notes 86 = .ok (.putfield 136, 3) := by decide +kernel
theorem dX9_notes_89 : decode cX9_notes 89 = .ok (.return_, 1) := by decide +kernel
theorem dX9_undo_0 : decode cX9_undo 0 = .ok (.aload_n 0, 1) := by decide +kernel
theorem dX9_undo_1 : decode cX9_undo 1 = .ok (.getfield 136, 3) := by decide +kernel
theorem dX9_undo_4 : decode cX9_undo 4 = .ok (.ifCond .ne 6, 3) := by decide +kernel
theorem dX9_undo_7 : decode cX9_undo 7 = .ok (.bipush (-4), 2) := by decide +kernel
theorem dX9_undo_9 : decode cX9_undo 9 = .ok (.ireturn, 1) := by decide +kernel
theorem dX9_undo_10 : decode cX9_undo 10 = .ok (.aload_n 0, 1) := by decide +kernel
theorem dX9_undo_11 : decode cX9_undo 11 = .ok (.dup, 1) := by decide +kernel
theorem dX9_undo_12 : decode cX9_undo 12 = .ok (.getfield 136, 3) := by decide +kernel
theorem dX9_undo_15 : decode cX9_undo 15 = .ok (.iconst 1, 1) := by decide +kernel
theorem dX9_undo_16 : decode cX9_undo 16 = .ok (.isub, 1) := by decide +kernel
theorem dX9_undo_17 : decode cX9_undo 17 = .ok (.putfield 136, 3) := by decide +kernel
theorem dX9_undo_20 : decode cX9_undo 20 = .ok (.iconst 0, 1) := by decide +kernel
theorem dX9_undo_21 : decode cX9_undo 21 = .ok (.istore_n 1, 1) := by decide +kernel
theorem dX9_undo_22 : decode cX9_undo 22 = .ok (.iload_n 1, 1) := by decide +kernel
theorem dX9_undo_23 : decode cX9_undo 23 = .ok (.bipush 59, 2) := by decide +kernel
theorem dX9_undo_25 : decode cX9_undo 25 = .ok (.if_icmp .ge 29, 3) := by decide +kernel
theorem dX9_undo_28 : decode cX9_undo 28 = .ok (.aload_n 0, 1) := by decide +kernel
theorem dX9_undo_29 : decode cX9_undo 29 = .ok (.getfield 13, 3) := by decide +kernel
theorem dX9_undo_32 : decode cX9_undo 32 = .ok (.iload_n 1, 1) := by decide +kernel
theorem dX9_undo_33 : decode cX9_undo 33 = .ok (.aload_n 0, 1) := by decide +kernel
theorem dX9_undo_34 : decode cX9_undo 34 = .ok (.getfield 31, 3) := by decide +kernel
theorem dX9_undo_37 : decode cX9_undo 37 = .ok (.bipush 59, 2) := by decide +kernel
theorem dX9_undo_39 : decode cX9_undo 39 = .ok (.aload_n 0, 1) := by decide +kernel
theorem dX9_undo_40 : decode cX9_undo 40 = .ok (.getfield 136, 3) := by decide +kernel
theorem dX9_undo_43 : decode cX9_undo 43 = .ok (.imul, 1) := by decide +kernel
theorem dX9_undo_44 : decode cX9_undo 44 = .ok (.iload_n 1, 1) := by decide +kernel
theorem dX9_undo_45 : decode cX9_undo 45 = .ok (.iadd, 1) := by decide +kernel
theorem dX9_undo_46 : decode cX9_undo 46 = .ok (.iaload, 1) := by decide +kernel
theorem dX9_undo_47 : decode cX9_undo 47 = .ok (.iastore, 1) := by decide +kernel
theorem dX9_undo_48 : decode cX9_undo 48 = .ok (.iinc 1 1, 3) := by decide +kernel
theorem dX9_undo_51 : decode cX9_undo 51 = .ok (.goto (-29), 3) := by decide +kernel
theorem dX9_undo_54 : decode cX9_undo 54 = .ok (.aload_n 0, 1) := by decide +kernel
theorem dX9_undo_55 : decode cX9_undo 55 = .ok (.getfield 136, 3) := by decide +kernel
theorem dX9_undo_58 : decode cX9_undo 58 = .ok (.ireturn, 1) := by decide +kernel
theorem dX9_image_0 : decode cX9_image 0 = .ok (.iconst 0, 1) := by decide +kernel
theorem dX9_image_1 : decode cX9_image 1 = .ok (.istore_n 1, 1) := by decide +kernel
theorem dX9_image_2 : decode cX9_image 2 = .ok (.iload_n 1, 1) := by decide +kernel
theorem dX9_image_3 : decode cX9_image 3 = .ok (.bipush 59, 2) := by decide +kernel
theorem dX9_image_5 : decode cX9_image 5 = .ok (.if_icmp .ge 21, 3) := by decide +kernel
theorem dX9_image_8 : decode cX9_image 8 = .ok (.aload_n 0, 1) := by decide +kernel
theorem dX9_image_9 : decode cX9_image 9 = .ok (.getfield 34, 3) := by decide +kernel
theorem dX9_image_12 : decode cX9_image 12 = .ok (.iload_n 1, 1) := by decide +kernel
theorem dX9_image_13 : decode cX9_image 13 = .ok (.aload_n 0, 1) := by decide +kernel
theorem dX9_image_14 : decode cX9_image 14 = .ok (.getfield 13, 3) := by decide +kernel
theorem dX9_image_17 : decode cX9_image 17 = .ok (.iload_n 1, 1) := by decide +kernel
theorem dX9_image_18 : decode cX9_image 18 = .ok (.iaload, 1) := by decide +kernel
theorem dX9_image_19 : decode cX9_image 19 = .ok (.iastore, 1) := by decide +kernel
theorem dX9_image_20 : decode cX9_image 20 = .ok (.iinc 1 1, 3) := by decide +kernel
theorem dX9_image_23 : decode cX9_image 23 = .ok (.goto (-21), 3) := by decide +kernel
theorem dX9_image_26 : decode cX9_image 26 = .ok (.iconst 0, 1) := by decide +kernel
theorem dX9_image_27 : decode cX9_image 27 = .ok (.istore_n 1, 1) := by decide +kernel
theorem dX9_image_28 : decode cX9_image 28 = .ok (.iload_n 1, 1) := by decide +kernel
theorem dX9_image_29 : decode cX9_image 29 = .ok (.sipush 354, 3) := by decide +kernel
theorem dX9_image_32 : decode cX9_image 32 = .ok (.if_icmp .ge 21, 3) := by decide +kernel
theorem dX9_image_35 : decode cX9_image 35 = .ok (.aload_n 0, 1) := by decide +kernel
theorem dX9_image_36 : decode cX9_image 36 = .ok (.getfield 37, 3) := by decide +kernel
theorem dX9_image_39 : decode cX9_image 39 = .ok (.iload_n 1, 1) := by decide +kernel
theorem dX9_image_40 : decode cX9_image 40 = .ok (.aload_n 0, 1) := by decide +kernel
theorem dX9_image_41 : decode cX9_image 41 = .ok (.getfield 31, 3) := by decide +kernel
theorem dX9_image_44 : decode cX9_image 44 = .ok (.iload_n 1, 1) := by decide +kernel
theorem dX9_image_45 : decode cX9_image 45 = .ok (.iaload, 1) := by decide +kernel
theorem dX9_image_46 : decode cX9_image 46 = .ok (.iastore, 1) := by decide +kernel
theorem dX9_image_47 : decode cX9_image 47 = .ok (.iinc 1 1, 3) := by decide +kernel
theorem dX9_image_50 : decode cX9_image 50 = .ok (.goto (-22), 3) := by decide +kernel
theorem dX9_image_53 : decode cX9_image 53 = .ok (.aload_n 0, 1) := by decide +kernel
theorem dX9_image_54 : decode cX9_image 54 = .ok (.aload_n 0, 1) := by decide +kernel
theorem dX9_image_55 : decode cX9_image 55 = .ok (.getfield 136, 3) := by decide +kernel
theorem dX9_image_58 : decode cX9_image 58 = .ok (.putfield 40, 3) := by decide +kernel
theorem dX9_image_61 : decode cX9_image 61 = .ok (.iconst 1, 1) := by decide +kernel
theorem dX9_image_62 : decode cX9_image 62 = .ok (.ireturn, 1) := by decide +kernel
theorem dX9_restore_0 : decode cX9_restore 0 = .ok (.aload_n 0, 1) := by decide +kernel
theorem dX9_restore_1 : decode cX9_restore 1 = .ok (.getfield 40, 3) := by decide +kernel
theorem dX9_restore_4 : decode cX9_restore 4 = .ok (.ifCond .ge 6, 3) := by decide +kernel
theorem dX9_restore_7 : decode cX9_restore 7 = .ok (.bipush (-4), 2) := by decide +kernel
theorem dX9_restore_9 : decode cX9_restore 9 = .ok (.ireturn, 1) := by decide +kernel
theorem dX9_restore_10 : decode cX9_restore 10 = .ok (.iconst 0, 1) := by decide +kernel
theorem dX9_restore_11 : decode cX9_restore 11 = .ok (.istore_n 1, 1) := by decide +kernel
theorem dX9_restore_12 : decode cX9_restore 12 = .ok (.iload_n 1, 1) := by decide +kernel
theorem dX9_restore_13 : decode cX9_restore 13 = .ok (.bipush 59, 2) := by decide +kernel
theorem dX9_restore_15 : decode cX9_restore 15 = .ok (.if_icmp .ge 21, 3) := by decide +kernel
theorem dX9_restore_18 : decode cX9_restore 18 = .ok (.aload_n 0, 1) := by decide +kernel
theorem dX9_restore_19 : decode cX9_restore 19 = .ok (.getfield 13, 3) := by decide +kernel
theorem dX9_restore_22 : decode cX9_restore 22 = .ok (.iload_n 1, 1) := by decide +kernel
theorem dX9_restore_23 : decode cX9_restore 23 = .ok (.aload_n 0, 1) := by decide +kernel
theorem dX9_restore_24 : decode cX9_restore 24 = .ok (.getfield 34, 3) := by decide +kernel
theorem dX9_restore_27 : decode cX9_restore 27 = .ok (.iload_n 1, 1) := by decide +kernel
theorem dX9_restore_28 : decode cX9_restore 28 = .ok (.iaload, 1) := by decide +kernel
theorem dX9_restore_29 : decode cX9_restore 29 = .ok (.iastore, 1) := by decide +kernel
theorem dX9_restore_30 : decode cX9_restore 30 = .ok (.iinc 1 1, 3) := by decide +kernel
theorem dX9_restore_33 : decode cX9_restore 33 = .ok (.goto (-21), 3) := by decide +kernel
theorem dX9_restore_36 : decode cX9_restore 36 = .ok (.iconst 0, 1) := by decide +kernel
theorem dX9_restore_37 : decode cX9_restore 37 = .ok (.istore_n 1, 1) := by decide +kernel
theorem dX9_restore_38 : decode cX9_restore 38 = .ok (.iload_n 1, 1) := by decide +kernel
theorem dX9_restore_39 : decode cX9_restore 39 = .ok (.sipush 354, 3) := by decide +kernel
theorem dX9_restore_42 : decode cX9_restore 42 = .ok (.if_icmp .ge 21, 3) := by decide +kernel
theorem dX9_restore_45 : decode cX9_restore 45 = .ok (.aload_n 0, 1) := by decide +kernel
theorem dX9_restore_46 : decode cX9_restore 46 = .ok (.getfield 31, 3) := by decide +kernel
theorem dX9_restore_49 : decode cX9_restore 49 = .ok (.iload_n 1, 1) := by decide +kernel
theorem dX9_restore_50 : decode cX9_restore 50 = .ok (.aload_n 0, 1) := by decide +kernel
theorem dX9_restore_51 : decode cX9_restore 51 = .ok (.getfield 37, 3) := by decide +kernel
theorem dX9_restore_54 : decode cX9_restore 54 = .ok (.iload_n 1, 1) := by decide +kernel
theorem dX9_restore_55 : decode cX9_restore 55 = .ok (.iaload, 1) := by decide +kernel
theorem dX9_restore_56 : decode cX9_restore 56 = .ok (.iastore, 1) := by decide +kernel
theorem dX9_restore_57 : decode cX9_restore 57 = .ok (.iinc 1 1, 3) := by decide +kernel
theorem dX9_restore_60 : decode cX9_restore 60 = .ok (.goto (-22), 3) := by decide +kernel
theorem dX9_restore_63 : decode cX9_restore 63 = .ok (.aload_n 0, 1) := by decide +kernel
theorem dX9_restore_64 : decode cX9_restore 64 = .ok (.aload_n 0, 1) := by decide +kernel
theorem dX9_restore_65 : decode cX9_restore 65 = .ok (.getfield 40, 3) := by decide +kernel
theorem dX9_restore_68 : decode cX9_restore 68 = .ok (.putfield 136, 3) := by decide +kernel
theorem dX9_restore_71 : decode cX9_restore 71 = .ok (.iconst 1, 1) := by decide +kernel
theorem dX9_restore_72 : decode cX9_restore 72 = .ok (.ireturn, 1) := by decide +kernel
theorem dX9_isSheet_0 : decode cX9_isSheet 0 = .ok (.iload_n 0, 1) := by decide +kernel
theorem dX9_isSheet_1 : decode cX9_isSheet 1 = .ok (.i2l, 1) := by decide +kernel
theorem dX9_isSheet_2 : decode cX9_isSheet 2 = .ok (.lconst 0, 1) := by decide +kernel
theorem dX9_isSheet_3 : decode cX9_isSheet 3 = .ok (.ldc2_w 158, 3) := by decide +kernel
theorem dX9_isSheet_6 : decode cX9_isSheet 6 = .ok (.invokestatic 76, 3) := by decide +kernel
theorem dX9_isSheet_9 : decode cX9_isSheet 9 = .ok (.ireturn, 1) := by decide +kernel
theorem dX9_cut_0 : decode cX9_cut 0 = .ok (.iload_n 2, 1) := by decide +kernel
theorem dX9_cut_1 : decode cX9_cut 1 = .ok (.ifCond .ne 10, 3) := by decide +kernel
theorem dX9_cut_4 : decode cX9_cut 4 = .ok (.lload_n 0, 1) := by decide +kernel
theorem dX9_cut_5 : decode cX9_cut 5 = .ok (.l2i, 1) := by decide +kernel
theorem dX9_cut_6 : decode cX9_cut 6 = .ok (.i2b, 1) := by decide +kernel
theorem dX9_cut_7 : decode cX9_cut 7 = .ok (.i2l, 1) := by decide +kernel
theorem dX9_cut_8 : decode cX9_cut 8 = .ok (.goto 27, 3) := by decide +kernel
theorem dX9_cut_11 : decode cX9_cut 11 = .ok (.iload_n 2, 1) := by decide +kernel
theorem dX9_cut_12 : decode cX9_cut 12 = .ok (.iconst 1, 1) := by decide +kernel
theorem dX9_cut_13 : decode cX9_cut 13 = .ok (.if_icmp .ne 10, 3) := by decide +kernel
theorem dX9_cut_16 : decode cX9_cut 16 = .ok (.lload_n 0, 1) := by decide +kernel
theorem dX9_cut_17 : decode cX9_cut 17 = .ok (.l2i, 1) := by decide +kernel
theorem dX9_cut_18 : decode cX9_cut 18 = .ok (.i2s, 1) := by decide +kernel
theorem dX9_cut_19 : decode cX9_cut 19 = .ok (.i2l, 1) := by decide +kernel
theorem dX9_cut_20 : decode cX9_cut 20 = .ok (.goto 15, 3) := by decide +kernel
theorem dX9_cut_23 : decode cX9_cut 23 = .ok (.iload_n 2, 1) := by decide +kernel
theorem dX9_cut_24 : decode cX9_cut 24 = .ok (.iconst 2, 1) := by decide +kernel
theorem dX9_cut_25 : decode cX9_cut 25 = .ok (.if_icmp .ne 9, 3) := by decide +kernel
theorem dX9_cut_28 : decode cX9_cut 28 = .ok (.lload_n 0, 1) := by decide +kernel
theorem dX9_cut_29 : decode cX9_cut 29 = .ok (.l2i, 1) := by decide +kernel
theorem dX9_cut_30 : decode cX9_cut 30 = .ok (.i2l, 1) := by decide +kernel
theorem dX9_cut_31 : decode cX9_cut 31 = .ok (.goto 4, 3) := by decide +kernel
theorem dX9_cut_34 : decode cX9_cut 34 = .ok (.lload_n 0, 1) := by decide +kernel
theorem dX9_cut_35 : decode cX9_cut 35 = .ok (.lreturn, 1) := by decide +kernel
theorem dX9_sheet_0 : decode cX9_sheet 0 = .ok (.iload_n 1, 1) := by decide +kernel
theorem dX9_sheet_1 : decode cX9_sheet 1 = .ok (.invokestatic 242, 3) := by decide +kernel
theorem dX9_sheet_4 : decode cX9_sheet 4 = .ok (.ifCond .eq 21, 3) := by decide +kernel
theorem dX9_sheet_7 : decode cX9_sheet 7 = .ok (.iload_n 2, 1) := by decide +kernel
theorem dX9_sheet_8 : decode cX9_sheet 8 = .ok (.i2l, 1) := by decide +kernel
theorem dX9_sheet_9 : decode cX9_sheet 9 = .ok (.lconst 0, 1) := by decide +kernel
theorem dX9_sheet_10 : decode cX9_sheet 10 = .ok (.ldc2_w 158, 3) := by decide +kernel
theorem dX9_sheet_13 : decode cX9_sheet 13 = .ok (.invokestatic 76, 3) := by decide +kernel
theorem dX9_sheet_16 : decode cX9_sheet 16 = .ok (.ifCond .eq 9, 3) := by decide +kernel
theorem dX9_sheet_19 : decode cX9_sheet 19 = .ok (.iload_n 3, 1) := by decide +kernel
theorem dX9_sheet_20 : decode cX9_sheet 20 = .ok (.bipush 24, 2) := by decide +kernel
theorem dX9_sheet_22 : decode cX9_sheet 22 = .ok (.if_icmp .le 5, 3) := by decide +kernel
theorem dX9_sheet_25 : decode cX9_sheet 25 = .ok (.iconst (-1), 1) := by decide +kernel
theorem dX9_sheet_26 : decode cX9_sheet 26 = .ok (.ireturn, 1) := by decide +kernel
theorem dX9_sheet_27 : decode cX9_sheet 27 = .ok (.iload_n 3, 1) := by decide +kernel
theorem dX9_sheet_28 : decode cX9_sheet 28 = .ok (.ifCond .ge 6, 3) := by decide +kernel
theorem dX9_sheet_31 : decode cX9_sheet 31 = .ok (.bipush (-14), 2) := by decide +kernel
theorem dX9_sheet_33 : decode cX9_sheet 33 = .ok (.ireturn, 1) := by decide +kernel
theorem dX9_sheet_34 : decode cX9_sheet 34 = .ok (.aload_n 0, 1) := by decide +kernel
theorem dX9_sheet_35 : decode cX9_sheet 35 = .ok (.getfield 44, 3) := by decide +kernel
theorem dX9_sheet_38 : decode cX9_sheet 38 = .ok (.iload_n 1, 1) := by decide +kernel
theorem dX9_sheet_39 : decode cX9_sheet 39 = .ok (.iload_n 2, 1) := by decide +kernel
theorem dX9_sheet_40 : decode cX9_sheet 40 = .ok (.iastore, 1) := by decide +kernel
theorem dX9_sheet_41 : decode cX9_sheet 41 = .ok (.aload_n 0, 1) := by decide +kernel
theorem dX9_sheet_42 : decode cX9_sheet 42 = .ok (.getfield 47, 3) := by decide +kernel
theorem dX9_sheet_45 : decode cX9_sheet 45 = .ok (.iload_n 1, 1) := by decide +kernel
theorem dX9_sheet_46 : decode cX9_sheet 46 = .ok (.iload_n 3, 1) := by decide +kernel
theorem dX9_sheet_47 : decode cX9_sheet 47 = .ok (.iastore, 1) := by decide +kernel
theorem dX9_sheet_48 : decode cX9_sheet 48 = .ok (.iconst 0, 1) := by decide +kernel
theorem dX9_sheet_49 : decode cX9_sheet 49 = .ok (.istore 4, 2) := by decide +kernel
theorem dX9_sheet_51 : decode cX9_sheet 51 = .ok (.iload 4, 2) := by decide +kernel
theorem dX9_sheet_53 : decode cX9_sheet 53 = .ok (.bipush 24, 2) := by decide +kernel
theorem dX9_sheet_55 : decode cX9_sheet 55 = .ok (.if_icmp .ge 22, 3) := by decide +kernel
theorem dX9_sheet_58 : decode cX9_sheet 58 = .ok (.aload_n 0, 1) := by decide +kernel
theorem dX9_sheet_59 : decode cX9_sheet 59 = .ok (.getfield 50, 3) := by decide +kernel
theorem dX9_sheet_62 : decode cX9_sheet 62 = .ok (.bipush 24, 2) := by decide +kernel
theorem dX9_sheet_64 : decode cX9_sheet 64 = .ok (.iload_n 1, 1) := by decide +kernel
theorem dX9_sheet_65 : decode cX9_sheet 65 = .ok (.imul, 1) := by decide +kernel
theorem dX9_sheet_66 : decode cX9_sheet 66 = .ok (.iload 4, 2) := by decide +kernel
theorem dX9_sheet_68 : decode cX9_sheet 68 = .ok (.iadd, 1) := by decide +kernel
theorem dX9_sheet_69 : decode cX9_sheet 69 = .ok (.lconst 0, 1) := by decide +kernel
theorem dX9_sheet_70 : decode cX9_sheet 70 = .ok (.lastore, 1) := by decide +kernel
theorem dX9_sheet_71 : decode cX9_sheet 71 = .ok (.iinc 4 1, 3) := by decide +kernel
theorem dX9_sheet_74 : decode cX9_sheet 74 = .ok (.goto (-23), 3) := by decide +kernel
theorem dX9_sheet_77 : decode cX9_sheet 77 = .ok (.iload_n 3, 1) := by decide +kernel
theorem dX9_sheet_78 : decode cX9_sheet 78 = .ok (.ireturn, 1) := by decide +kernel
theorem dX9_drop_0 : decode cX9_drop 0 = .ok (.iload_n 1, 1) := by decide +kernel
theorem dX9_drop_1 : decode cX9_drop 1 = .ok (.invokestatic 242, 3) := by decide +kernel
theorem dX9_drop_4 : decode cX9_drop 4 = .ok (.ifCond .ne 5, 3) := by decide +kernel
theorem dX9_drop_7 : decode cX9_drop 7 = .ok (.iconst (-1), 1) := by decide +kernel
theorem dX9_drop_8 : decode cX9_drop 8 = .ok (.ireturn, 1) := by decide +kernel
theorem dX9_drop_9 : decode cX9_drop 9 = .ok (.aload_n 0, 1) := by decide +kernel
theorem dX9_drop_10 : decode cX9_drop 10 = .ok (.getfield 44, 3) := by decide +kernel
theorem dX9_drop_13 : decode cX9_drop 13 = .ok (.iload_n 1, 1) := by decide +kernel
theorem dX9_drop_14 : decode cX9_drop 14 = .ok (.iaload, 1) := by decide +kernel
theorem dX9_drop_15 : decode cX9_drop 15 = .ok (.ifCond .ge 6, 3) := by decide +kernel
theorem dX9_drop_18 : decode cX9_drop 18 = .ok (.bipush (-11), 2) := by decide +kernel
theorem dX9_drop_20 : decode cX9_drop 20 = .ok (.ireturn, 1) := by decide +kernel
theorem dX9_drop_21 : decode cX9_drop 21 = .ok (.aload_n 0, 1) := by decide +kernel
theorem dX9_drop_22 : decode cX9_drop 22 = .ok (.getfield 44, 3) := by decide +kernel
theorem dX9_drop_25 : decode cX9_drop 25 = .ok (.iload_n 1, 1) := by decide +kernel
theorem dX9_drop_26 : decode cX9_drop 26 = .ok (.iconst (-1), 1) := by decide +kernel
theorem dX9_drop_27 : decode cX9_drop 27 = .ok (.iastore, 1) := by decide +kernel
theorem dX9_drop_28 : decode cX9_drop 28 = .ok (.aload_n 0, 1) := by decide +kernel
theorem dX9_drop_29 : decode cX9_drop 29 = .ok (.getfield 47, 3) := by decide +kernel
theorem dX9_drop_32 : decode cX9_drop 32 = .ok (.iload_n 1, 1) := by decide +kernel
theorem dX9_drop_33 : decode cX9_drop 33 = .ok (.iaload, 1) := by decide +kernel
theorem dX9_drop_34 : decode cX9_drop 34 = .ok (.ireturn, 1) := by decide +kernel
theorem dX9_why_0 : decode cX9_why 0 = .ok (.aload_n 0, 1) := by decide +kernel
theorem dX9_why_1 : decode cX9_why 1 = .ok (.getfield 44, 3) := by decide +kernel
theorem dX9_why_4 : decode cX9_why 4 = .ok (.iload_n 1, 1) := by decide +kernel
theorem dX9_why_5 : decode cX9_why 5 = .ok (.iaload, 1) := by decide +kernel
theorem dX9_why_6 : decode cX9_why 6 = .ok (.ifCond .ge 6, 3) := by decide +kernel
theorem dX9_why_9 : decode cX9_why 9 = .ok (.bipush (-11), 2) := by decide +kernel
theorem dX9_why_11 : decode cX9_why 11 = .ok (.ireturn, 1) := by decide +kernel
theorem dX9_why_12 : decode cX9_why 12 = .ok (.aload_n 0, 1) := by decide +kernel
theorem dX9_why_13 : decode cX9_why 13 = .ok (.getfield 44, 3) := by decide +kernel
theorem dX9_why_16 : decode cX9_why 16 = .ok (.iload_n 1, 1) := by decide +kernel
theorem dX9_why_17 : decode cX9_why 17 = .ok (.iaload, 1) := by decide +kernel
theorem dX9_why_18 : decode cX9_why 18 = .ok (.iload_n 2, 1) := by decide +kernel
theorem dX9_why_19 : decode cX9_why 19 = .ok (.if_icmp .eq 6, 3) := by decide +kernel
theorem dX9_why_22 : decode cX9_why 22 = .ok (.bipush (-12), 2) := by decide +kernel
theorem dX9_why_24 : decode cX9_why 24 = .ok (.ireturn, 1) := by decide +kernel
theorem dX9_why_25 : decode cX9_why 25 = .ok (.iload_n 3, 1) := by decide +kernel
theorem dX9_why_26 : decode cX9_why 26 = .ok (.ifCond .lt 16, 3) := by decide +kernel
theorem dX9_why_29 : decode cX9_why 29 = .ok (.iload 4, 2) := by decide +kernel
theorem dX9_why_31 : decode cX9_why 31 = .ok (.aload_n 0, 1) := by decide +kernel
theorem dX9_why_32 : decode cX9_why 32 = .ok (.getfield 47, 3) := by decide +kernel
theorem dX9_why_35 : decode cX9_why 35 = .ok (.iload_n 1, 1) := by decide +kernel
theorem dX9_why_36 : decode cX9_why 36 = .ok (.iaload, 1) := by decide +kernel
theorem dX9_why_37 : decode cX9_why 37 = .ok (.iload_n 3, 1) := by decide +kernel
theorem dX9_why_38 : decode cX9_why 38 = .ok (.isub, 1) := by decide +kernel
theorem dX9_why_39 : decode cX9_why 39 = .ok (.if_icmp .le 8, 3) := by decide +kernel
theorem dX9_why_42 : decode cX9_why 42 = .ok (.bipush (-13), 2) := by decide +kernel
theorem dX9_why_44 : decode cX9_why 44 = .ok (.goto 4, 3) := by decide +kernel
theorem dX9_why_47 : decode cX9_why 47 = .ok (.iconst 0, 1) := by decide +kernel
theorem dX9_why_48 : decode cX9_why 48 = .ok (.ireturn, 1) := by decide +kernel
theorem dX9_item_0 : decode cX9_item 0 = .ok (.iload_n 1, 1) := by decide +kernel
theorem dX9_item_1 : decode cX9_item 1 = .ok (.invokestatic 242, 3) := by decide +kernel
theorem dX9_item_4 : decode cX9_item 4 = .ok (.ifCond .eq 15, 3) := by decide +kernel
theorem dX9_item_7 : decode cX9_item 7 = .ok (.iload_n 2, 1) := by decide +kernel
theorem dX9_item_8 : decode cX9_item 8 = .ok (.i2l, 1) := by decide +kernel
theorem dX9_item_9 : decode cX9_item 9 = .ok (.lconst 0, 1) := by decide +kernel
theorem dX9_item_10 : decode cX9_item 10 = .ok (.ldc2_w 158, 3) := by decide +kernel
theorem dX9_item_13 : decode cX9_item 13 = .ok (.invokestatic 76, 3) := by decide +kernel
theorem dX9_item_16 : decode cX9_item 16 = .ok (.ifCond .ne 5, 3) := by decide +kernel
theorem dX9_item_19 : decode cX9_item 19 = .ok (.iconst (-1), 1) := by decide +kernel
theorem dX9_item_20 : decode cX9_item 20 = .ok (.ireturn, 1) := by decide +kernel
theorem dX9_item_21 : decode cX9_item 21 = .ok (.aload_n 0, 1) := by decide +kernel
theorem dX9_item_22 : decode cX9_item 22 = .ok (.iload_n 1, 1) := by decide +kernel
theorem dX9_item_23 : decode cX9_item 23 = .ok (.iload_n 2, 1) := by decide +kernel
theorem dX9_item_24 : decode cX9_item 24 = .ok (.iload_n 3, 1) := by decide +kernel
theorem dX9_item_25 : decode cX9_item 25 = .ok (.iconst 1, 1) := by decide +kernel
theorem dX9_item_26 : decode cX9_item 26 = .ok (.invokevirtual 245, 3) := by decide +kernel
theorem dX9_item_29 : decode cX9_item 29 = .ok (.istore 6, 2) := by decide +kernel
theorem dX9_item_31 : decode cX9_item 31 = .ok (.iload 6, 2) := by decide +kernel
theorem dX9_item_33 : decode cX9_item 33 = .ok (.ifCond .ge 6, 3) := by decide +kernel
theorem dX9_item_36 : decode cX9_item 36 = .ok (.iload 6, 2) := by decide +kernel
theorem dX9_item_38 : decode cX9_item 38 = .ok (.ireturn, 1) := by decide +kernel
theorem dX9_item_39 : decode cX9_item 39 = .ok (.aload_n 0, 1) := by decide +kernel
theorem dX9_item_40 : decode cX9_item 40 = .ok (.getfield 50, 3) := by decide +kernel
theorem dX9_item_43 : decode cX9_item 43 = .ok (.bipush 24, 2) := by decide +kernel
theorem dX9_item_45 : decode cX9_item 45 = .ok (.iload_n 1, 1) := by decide +kernel
theorem dX9_item_46 : decode cX9_item 46 = .ok (.imul, 1) := by decide +kernel
theorem dX9_item_47 : decode cX9_item 47 = .ok (.iload_n 3, 1) := by decide +kernel
theorem dX9_item_48 : decode cX9_item 48 = .ok (.iadd, 1) := by decide +kernel
theorem dX9_item_49 : decode cX9_item 49 = .ok (.lload 4, 2) := by decide +kernel
theorem dX9_item_51 : decode cX9_item 51 = .ok (.iload_n 2, 1) := by decide +kernel
theorem dX9_item_52 : decode cX9_item 52 = .ok (.invokestatic 248, 3) := by decide +kernel
theorem dX9_item_55 : decode cX9_item 55 = .ok (.lastore, 1) := by decide +kernel
theorem dX9_item_56 : decode cX9_item 56 = .ok (.iconst 1, 1) := by decide +kernel
theorem dX9_item_57 : decode cX9_item 57 = .ok (.ireturn, 1) := by decide +kernel
theorem dX9_copy_0 : decode cX9_copy 0 = .ok (.iload_n 1, 1) := by decide +kernel
theorem dX9_copy_1 : decode cX9_copy 1 = .ok (.invokestatic 242, 3) := by decide +kernel
theorem dX9_copy_4 : decode cX9_copy 4 = .ok (.ifCond .eq 10, 3) := by decide +kernel
theorem dX9_copy_7 : decode cX9_copy 7 = .ok (.iload_n 3, 1) := by decide +kernel
theorem dX9_copy_8 : decode cX9_copy 8 = .ok (.invokestatic 242, 3) := by decide +kernel
theorem dX9_copy_11 : decode cX9_copy 11 = .ok (.ifCond .ne 5, 3) := by decide +kernel
theorem dX9_copy_14 : decode cX9_copy 14 = .ok (.iconst (-1), 1) := by decide +kernel
theorem dX9_copy_15 : decode cX9_copy 15 = .ok (.ireturn, 1) := by decide +kernel
theorem dX9_copy_16 : decode cX9_copy 16 = .ok (.aload_n 0, 1) := by decide +kernel
theorem dX9_copy_17 : decode cX9_copy 17 = .ok (.getfield 44, 3) := by decide +kernel
theorem dX9_copy_20 : decode cX9_copy 20 = .ok (.iload_n 1, 1) := by decide +kernel
theorem dX9_copy_21 : decode cX9_copy 21 = .ok (.iaload, 1) := by decide +kernel
theorem dX9_copy_22 : decode cX9_copy 22 = .ok (.ifCond .lt 12, 3) := by decide +kernel
theorem dX9_copy_25 : decode cX9_copy 25 = .ok (.aload_n 0, 1) := by decide +kernel
theorem dX9_copy_26 : decode cX9_copy 26 = .ok (.getfield 44, 3) := by decide +kernel
theorem dX9_copy_29 : decode cX9_copy 29 = .ok (.iload_n 3, 1) := by decide +kernel
theorem dX9_copy_30 : decode cX9_copy 30 = .ok (.iaload, 1) := by decide +kernel
theorem dX9_copy_31 : decode cX9_copy 31 = .ok (.ifCond .ge 6, 3) := by decide +kernel
theorem dX9_copy_34 : decode cX9_copy 34 = .ok (.bipush (-11), 2) := by decide +kernel
theorem dX9_copy_36 : decode cX9_copy 36 = .ok (.ireturn, 1) := by decide +kernel
theorem dX9_copy_37 : decode cX9_copy 37 = .ok (.aload_n 0, 1) := by decide +kernel
theorem dX9_copy_38 : decode cX9_copy 38 = .ok (.getfield 44, 3) := by decide +kernel
theorem dX9_copy_41 : decode cX9_copy 41 = .ok (.iload_n 1, 1) := by decide +kernel
theorem dX9_copy_42 : decode cX9_copy 42 = .ok (.iaload, 1) := by decide +kernel
theorem dX9_copy_43 : decode cX9_copy 43 = .ok (.aload_n 0, 1) := by decide +kernel
theorem dX9_copy_44 : decode cX9_copy 44 = .ok (.getfield 44, 3) := by decide +kernel
theorem dX9_copy_47 : decode cX9_copy 47 = .ok (.iload_n 3, 1) := by decide +kernel
theorem dX9_copy_48 : decode cX9_copy 48 = .ok (.iaload, 1) := by decide +kernel
theorem dX9_copy_49 : decode cX9_copy 49 = .ok (.if_icmp .eq 6, 3) := by decide +kernel
theorem dX9_copy_52 : decode cX9_copy 52 = .ok (.bipush (-12), 2) := by decide +kernel
theorem dX9_copy_54 : decode cX9_copy 54 = .ok (.ireturn, 1) := by decide +kernel
theorem dX9_copy_55 : decode cX9_copy 55 = .ok (.iload 5, 2) := by decide +kernel
theorem dX9_copy_57 : decode cX9_copy 57 = .ok (.ifCond .lt 47, 3) := by decide +kernel
theorem dX9_copy_60 : decode cX9_copy 60 = .ok (.iload_n 2, 1) := by decide +kernel
theorem dX9_copy_61 : decode cX9_copy 61 = .ok (.ifCond .lt 43, 3) := by decide +kernel
theorem dX9_copy_64 : decode cX9_copy 64 = .ok (.iload 4, 2) := by decide +kernel
theorem dX9_copy_66 : decode cX9_copy 66 = .ok (.ifCond .lt 38, 3) := by decide +kernel
theorem dX9_copy_69 : decode cX9_copy 69 = .ok (.iload_n 2, 1) := by decide +kernel
theorem dX9_copy_70 : decode cX9_copy 70 = .ok (.i2l, 1) := by decide +kernel
theorem dX9_copy_71 : decode cX9_copy 71 = .ok (.iload 5, 2) := by decide +kernel
theorem dX9_copy_73 : decode cX9_copy 73 = .ok (.i2l, 1) := by decide +kernel
theorem dX9_copy_74 : decode cX9_copy 74 = .ok (.ladd, 1) := by decide +kernel
theorem dX9_copy_75 : decode cX9_copy 75 = .ok (.aload_n 0, 1) := by decide +kernel
theorem dX9_copy_76 : decode cX9_copy 76 = .ok (.getfield 47, 3) := by decide +kernel
theorem dX9_copy_79 : decode cX9_copy 79 = .ok (.iload_n 1, 1) := by decide +kernel
theorem dX9_copy_80 : decode cX9_copy 80 = .ok (.iaload, 1) := by decide +kernel
theorem dX9_copy_81 : decode cX9_copy 81 = .ok (.i2l, 1) := by decide +kernel
theorem dX9_copy_82 : decode cX9_copy 82 = .ok (.lcmp, 1) := by decide +kernel
theorem dX9_copy_83 : decode cX9_copy 83 = .ok (.ifCond .gt 21, 3) := by decide +kernel
theorem dX9_copy_86 : decode cX9_copy 86 = .ok (.iload 4, 2) := by decide +kernel
theorem dX9_copy_88 : decode cX9_copy 88 = .ok (.i2l, 1) := by decide +kernel
theorem dX9_copy_89 : decode cX9_copy 89 = .ok (.iload 5, 2) := by decide +kernel
theorem dX9_copy_91 : decode cX9_copy 91 = .ok (.i2l, 1) := by decide +kernel
theorem dX9_copy_92 : decode cX9_copy 92 = .ok (.ladd, 1) := by decide +kernel
theorem dX9_copy_93 : decode cX9_copy 93 = .ok (.aload_n 0, 1) := by decide +kernel
theorem dX9_copy_94 : decode cX9_copy 94 = .ok (.getfield 47, 3) := by decide +kernel
theorem dX9_copy_97 : decode cX9_copy 97 = .ok (.iload_n 3, 1) := by decide +kernel
theorem dX9_copy_98 : decode cX9_copy 98 = .ok (.iaload, 1) := by decide +kernel
theorem dX9_copy_99 : decode cX9_copy 99 = .ok (.i2l, 1) := by decide +kernel
theorem dX9_copy_100 : decode cX9_copy 100 = .ok (.lcmp, 1) := by decide +kernel
theorem dX9_copy_101 : decode cX9_copy 101 = .ok (.ifCond .le 6, 3) := by decide +kernel
theorem dX9_copy_104 : decode cX9_copy 104 = .ok (.bipush (-13), 2) := by decide +kernel
theorem dX9_copy_106 : decode cX9_copy 106 = .ok (.ireturn, 1) := by decide +kernel
theorem dX9_copy_107 : decode cX9_copy 107 = .ok (.iconst 0, 1) := by decide +kernel
theorem dX9_copy_108 : decode cX9_copy 108 = .ok (.istore 6, 2) := by decide +kernel
theorem dX9_copy_110 : decode cX9_copy 110 = .ok (.iload 6, 2) := by decide +kernel
theorem dX9_copy_112 : decode cX9_copy 112 = .ok (.iload 5, 2) := by decide +kernel
theorem dX9_copy_114 : decode cX9_copy 114 = .ok (.if_icmp .ge 30, 3) := by decide +kernel
theorem dX9_copy_117 : decode cX9_copy 117 = .ok (.aload_n 0, 1) := by decide +kernel
theorem dX9_copy_118 : decode cX9_copy 118 = .ok (.getfield 54, 3) := by decide +kernel
theorem dX9_copy_121 : decode cX9_copy 121 = .ok (.iload 6, 2) := by decide +kernel
theorem dX9_copy_123 : decode cX9_copy 123 = .ok (.aload_n 0, 1) := by decide +kernel
theorem dX9_copy_124 : decode cX9_copy 124 = .ok (.getfield 50, 3) := by decide +kernel
theorem dX9_copy_127 : decode cX9_copy 127 = .ok (.bipush 24, 2) := by decide +kernel
theorem dX9_copy_129 : decode cX9_copy 129 = .ok (.iload_n 1, 1) := by decide +kernel
theorem dX9_copy_130 : decode cX9_copy 130 = .ok (.imul, 1) := by decide +kernel
theorem dX9_copy_131 : decode cX9_copy 131 = .ok (.iload_n 2, 1) := by decide +kernel
theorem dX9_copy_132 : decode cX9_copy 132 = .ok (.iadd, 1) := by decide +kernel
theorem dX9_copy_133 : decode cX9_copy 133 = .ok (.iload 6, 2) := by decide +kernel
theorem dX9_copy_135 : decode cX9_copy 135 = .ok (.iadd, 1) := by decide +kernel
theorem dX9_copy_136 : decode cX9_copy 136 = .ok (.laload, 1) := by decide +kernel
theorem dX9_copy_137 : decode cX9_copy 137 = .ok (.lastore, 1) := by decide +kernel
theorem dX9_copy_138 : decode cX9_copy 138 = .ok (.iinc 6 1, 3) := by decide +kernel
theorem dX9_copy_141 : decode cX9_copy 141 = .ok (.goto (-31), 3) := by decide +kernel
theorem dX9_copy_144 : decode cX9_copy 144 = .ok (.iconst 0, 1) := by decide +kernel
theorem dX9_copy_145 : decode cX9_copy 145 = .ok (.istore 6, 2) := by decide +kernel
theorem dX9_copy_147 : decode cX9_copy 147 = .ok (.iload 6, 2) := by decide +kernel
theorem dX9_copy_149 : decode cX9_copy 149 = .ok (.iload 5, 2) := by decide +kernel
theorem dX9_copy_151 : decode cX9_copy 151 = .ok (.if_icmp .ge 31, 3) := by decide +kernel
theorem dX9_copy_154 : decode cX9_copy 154 = .ok (.aload_n 0, 1) := by decide +kernel
theorem dX9_copy_155 : decode cX9_copy 155 = .ok (.getfield 50, 3) := by decide +kernel
theorem dX9_copy_158 : decode cX9_copy 158 = .ok (.bipush 24, 2) := by decide +kernel
theorem dX9_copy_160 : decode cX9_copy 160 = .ok (.iload_n 3, 1) := by decide +kernel
theorem dX9_copy_161 : decode cX9_copy 161 = .ok (.imul, 1) := by decide +kernel
theorem dX9_copy_162 : decode cX9_copy 162 = .ok (.iload 4, 2) := by decide +kernel
theorem dX9_copy_164 : decode cX9_copy 164 = .ok (.iadd, 1) := by decide +kernel
theorem dX9_copy_165 : decode cX9_copy 165 = .ok (.iload 6, 2) := by decide +kernel
theorem dX9_copy_167 : decode cX9_copy 167 = .ok (.iadd, 1) := by decide +kernel
theorem dX9_copy_168 : decode cX9_copy 168 = .ok (.aload_n 0, 1) := by decide +kernel
theorem dX9_copy_169 : decode cX9_copy 169 = .ok (.getfield 54, 3) := by decide +kernel
theorem dX9_copy_172 : decode cX9_copy 172 = .ok (.iload 6, 2) := by decide +kernel
theorem dX9_copy_174 : decode cX9_copy 174 = .ok (.laload, 1) := by decide +kernel
theorem dX9_copy_175 : decode cX9_copy 175 = .ok (.lastore, 1) := by decide +kernel
theorem dX9_copy_176 : decode cX9_copy 176 = .ok (.iinc 6 1, 3) := by decide +kernel
theorem dX9_copy_179 : decode cX9_copy 179 = .ok (.goto (-32), 3) := by decide +kernel
theorem dX9_copy_182 : decode cX9_copy 182 = .ok (.iload 5, 2) := by decide +kernel
theorem dX9_copy_184 : decode cX9_copy 184 = .ok (.ireturn, 1) := by decide +kernel
theorem dX9_seen_0 : decode cX9_seen 0 = .ok (.iload_n 1, 1) := by decide +kernel
theorem dX9_seen_1 : decode cX9_seen 1 = .ok (.invokestatic 242, 3) := by decide +kernel
theorem dX9_seen_4 : decode cX9_seen 4 = .ok (.ifCond .eq 28, 3) := by decide +kernel
theorem dX9_seen_7 : decode cX9_seen 7 = .ok (.iload_n 2, 1) := by decide +kernel
theorem dX9_seen_8 : decode cX9_seen 8 = .ok (.i2l, 1) := by decide +kernel
theorem dX9_seen_9 : decode cX9_seen 9 = .ok (.lconst 0, 1) := by decide +kernel
theorem dX9_seen_10 : decode cX9_seen 10 = .ok (.ldc2_w 158, 3) := by decide +kernel
theorem dX9_seen_13 : decode cX9_seen 13 = .ok (.invokestatic 76, 3) := by decide +kernel
theorem dX9_seen_16 : decode cX9_seen 16 = .ok (.ifCond .eq 16, 3) := by decide +kernel
theorem dX9_seen_19 : decode cX9_seen 19 = .ok (.iload 4, 2) := by decide +kernel
theorem dX9_seen_21 : decode cX9_seen 21 = .ok (.i2l, 1) := by decide +kernel
theorem dX9_seen_22 : decode cX9_seen 22 = .ok (.lconst 1, 1) := by decide +kernel
theorem dX9_seen_23 : decode cX9_seen 23 = .ok (.ldc2_w 94, 3) := by decide +kernel
theorem dX9_seen_26 : decode cX9_seen 26 = .ok (.invokestatic 76, 3) := by decide +kernel
theorem dX9_seen_29 : decode cX9_seen 29 = .ok (.ifCond .ne 5, 3) := by decide +kernel
theorem dX9_seen_32 : decode cX9_seen 32 = .ok (.iconst (-1), 1) := by decide +kernel
theorem dX9_seen_33 : decode cX9_seen 33 = .ok (.ireturn, 1) := by decide +kernel
theorem dX9_seen_34 : decode cX9_seen 34 = .ok (.aload_n 0, 1) := by decide +kernel
theorem dX9_seen_35 : decode cX9_seen 35 = .ok (.iload_n 1, 1) := by decide +kernel
theorem dX9_seen_36 : decode cX9_seen 36 = .ok (.iload_n 2, 1) := by decide +kernel
theorem dX9_seen_37 : decode cX9_seen 37 = .ok (.iload_n 3, 1) := by decide +kernel
theorem dX9_seen_38 : decode cX9_seen 38 = .ok (.iconst 2, 1) := by decide +kernel
theorem dX9_seen_39 : decode cX9_seen 39 = .ok (.iload 4, 2) := by decide +kernel
theorem dX9_seen_41 : decode cX9_seen 41 = .ok (.imul, 1) := by decide +kernel
theorem dX9_seen_42 : decode cX9_seen 42 = .ok (.invokevirtual 245, 3) := by decide +kernel
theorem dX9_seen_45 : decode cX9_seen 45 = .ok (.istore 5, 2) := by decide +kernel
theorem dX9_seen_47 : decode cX9_seen 47 = .ok (.iload 5, 2) := by decide +kernel
theorem dX9_seen_49 : decode cX9_seen 49 = .ok (.ifCond .ge 6, 3) := by decide +kernel
theorem dX9_seen_52 : decode cX9_seen 52 = .ok (.iload 5, 2) := by decide +kernel
theorem dX9_seen_54 : decode cX9_seen 54 = .ok (.ireturn, 1) := by decide +kernel
theorem dX9_seen_55 : decode cX9_seen 55 = .ok (.bipush 24, 2) := by decide +kernel
theorem dX9_seen_57 : decode cX9_seen 57 = .ok (.iload_n 1, 1) := by decide +kernel
theorem dX9_seen_58 : decode cX9_seen 58 = .ok (.imul, 1) := by decide +kernel
theorem dX9_seen_59 : decode cX9_seen 59 = .ok (.iload_n 3, 1) := by decide +kernel
theorem dX9_seen_60 : decode cX9_seen 60 = .ok (.iadd, 1) := by decide +kernel
theorem dX9_seen_61 : decode cX9_seen 61 = .ok (.istore 6, 2) := by decide +kernel
theorem dX9_seen_63 : decode cX9_seen 63 = .ok (.iconst 0, 1) := by decide +kernel
theorem dX9_seen_64 : decode cX9_seen 64 = .ok (.istore 7, 2) := by decide +kernel
theorem dX9_seen_66 : decode cX9_seen 66 = .ok (.iload 7, 2) := by decide +kernel
theorem dX9_seen_68 : decode cX9_seen 68 = .ok (.iconst 2, 1) := by decide +kernel
theorem dX9_seen_69 : decode cX9_seen 69 = .ok (.iload 4, 2) := by decide +kernel
theorem dX9_seen_71 : decode cX9_seen 71 = .ok (.imul, 1) := by decide +kernel
theorem dX9_seen_72 : decode cX9_seen 72 = .ok (.if_icmp .ge 32, 3) := by decide +kernel
theorem dX9_seen_75 : decode cX9_seen 75 = .ok (.aload_n 0, 1) := by decide +kernel
theorem dX9_seen_76 : decode cX9_seen 76 = .ok (.getfield 50, 3) := by decide +kernel
theorem dX9_seen_79 : decode cX9_seen 79 = .ok (.iload 6, 2) := by decide +kernel
theorem dX9_seen_81 : decode cX9_seen 81 = .ok (.iload 7, 2) := by decide +kernel
theorem dX9_seen_83 : decode cX9_seen 83 = .ok (.iadd, 1) := by decide +kernel
theorem dX9_seen_84 : decode cX9_seen 84 = .ok (.laload, 1) := by decide +kernel
theorem dX9_seen_85 : decode cX9_seen 85 = .ok (.lconst 0, 1) := by decide +kernel
theorem dX9_seen_86 : decode cX9_seen 86 = .ok (.ldc2_w 83, 3) := by decide +kernel
theorem dX9_seen_89 : decode cX9_seen 89 = .ok (.invokestatic 76, 3) := by decide +kernel
theorem dX9_seen_92 : decode cX9_seen 92 = .ok (.ifCond .ne 6, 3) := by decide +kernel
theorem dX9_seen_95 : decode cX9_seen 95 = .ok (.bipush (-2), 2) := by decide +kernel
theorem dX9_seen_97 : decode cX9_seen 97 = .ok (.ireturn, 1) := by decide +kernel
theorem dX9_seen_98 : decode cX9_seen 98 = .ok (.iinc 7 1, 3) := by decide +kernel
theorem dX9_seen_101 : decode cX9_seen 101 = .ok (.goto (-35), 3) := by decide +kernel
theorem dX9_seen_104 : decode cX9_seen 104 = .ok (.aload_n 0, 1) := by decide +kernel
theorem dX9_seen_105 : decode cX9_seen 105 = .ok (.iload 4, 2) := by decide +kernel
theorem dX9_seen_107 : decode cX9_seen 107 = .ok (.putfield 182, 3) := by decide +kernel
theorem dX9_seen_110 : decode cX9_seen 110 = .ok (.iconst 0, 1) := by decide +kernel
theorem dX9_seen_111 : decode cX9_seen 111 = .ok (.istore 7, 2) := by decide +kernel
theorem dX9_seen_113 : decode cX9_seen 113 = .ok (.iload 7, 2) := by decide +kernel
theorem dX9_seen_115 : decode cX9_seen 115 = .ok (.iload 4, 2) := by decide +kernel
theorem dX9_seen_117 : decode cX9_seen 117 = .ok (.if_icmp .ge 51, 3) := by decide +kernel
theorem dX9_seen_120 : decode cX9_seen 120 = .ok (.aload_n 0, 1) := by decide +kernel
theorem dX9_seen_121 : decode cX9_seen 121 = .ok (.getfield 22, 3) := by decide +kernel
theorem dX9_seen_124 : decode cX9_seen 124 = .ok (.iload 7, 2) := by decide +kernel
theorem dX9_seen_126 : decode cX9_seen 126 = .ok (.aload_n 0, 1) := by decide +kernel
theorem dX9_seen_127 : decode cX9_seen 127 = .ok (.getfield 50, 3) := by decide +kernel
theorem dX9_seen_130 : decode cX9_seen 130 = .ok (.iload 6, 2) := by decide +kernel
theorem dX9_seen_132 : decode cX9_seen 132 = .ok (.iconst 2, 1) := by decide +kernel
theorem dX9_seen_133 : decode cX9_seen 133 = .ok (.iload 7, 2) := by decide +kernel
theorem dX9_seen_135 : decode cX9_seen 135 = .ok (.imul, 1) := by decide +kernel
theorem dX9_seen_136 : decode cX9_seen 136 = .ok (.iadd, 1) := by decide +kernel
theorem dX9_seen_137 : decode cX9_seen 137 = .ok (.laload, 1) := by decide +kernel
theorem dX9_seen_138 : decode cX9_seen 138 = .ok (.l2i, 1) := by decide +kernel
theorem dX9_seen_139 : decode cX9_seen 139 = .ok (.iastore, 1) := by decide +kernel
theorem dX9_seen_140 : decode cX9_seen 140 = .ok (.aload_n 0, 1) := by decide +kernel
theorem dX9_seen_141 : decode cX9_seen 141 = .ok (.getfield 25, 3) := by decide +kernel
theorem dX9_seen_144 : decode cX9_seen 144 = .ok (.iload 7, 2) := by decide +kernel
theorem dX9_seen_146 : decode cX9_seen 146 = .ok (.aload_n 0, 1) := by decide +kernel
theorem dX9_seen_147 : decode cX9_seen 147 = .ok (.getfield 50, 3) := by decide +kernel
theorem dX9_seen_150 : decode cX9_seen 150 = .ok (.iload 6, 2) := by decide +kernel
theorem dX9_seen_152 : decode cX9_seen 152 = .ok (.iconst 2, 1) := by decide +kernel
theorem dX9_seen_153 : decode cX9_seen 153 = .ok (.iload 7, 2) := by decide +kernel
theorem dX9_seen_155 : decode cX9_seen 155 = .ok (.imul, 1) := by decide +kernel
theorem dX9_seen_156 : decode cX9_seen 156 = .ok (.iadd, 1) := by decide +kernel
theorem dX9_seen_157 : decode cX9_seen 157 = .ok (.iconst 1, 1) := by decide +kernel
theorem dX9_seen_158 : decode cX9_seen 158 = .ok (.iadd, 1) := by decide +kernel
theorem dX9_seen_159 : decode cX9_seen 159 = .ok (.laload, 1) := by decide +kernel
theorem dX9_seen_160 : decode cX9_seen 160 = .ok (.l2i, 1) := by decide +kernel
theorem dX9_seen_161 : decode cX9_seen 161 = .ok (.iastore, 1) := by decide +kernel
theorem dX9_seen_162 : decode cX9_seen 162 = .ok (.iinc 7 1, 3) := by decide +kernel
theorem dX9_seen_165 : decode cX9_seen 165 = .ok (.goto (-52), 3) := by decide +kernel
theorem dX9_seen_168 : decode cX9_seen 168 = .ok (.aload_n 0, 1) := by decide +kernel
theorem dX9_seen_169 : decode cX9_seen 169 = .ok (.invokevirtual 200, 3) := by decide +kernel
theorem dX9_seen_172 : decode cX9_seen 172 = .ok (.aload_n 0, 1) := by decide +kernel
theorem dX9_seen_173 : decode cX9_seen 173 = .ok (.getfield 185, 3) := by decide +kernel
theorem dX9_seen_176 : decode cX9_seen 176 = .ok (.ireturn, 1) := by decide +kernel
theorem dX9_film_0 : decode cX9_film 0 = .ok (.iload_n 1, 1) := by decide +kernel
theorem dX9_film_1 : decode cX9_film 1 = .ok (.invokestatic 242, 3) := by decide +kernel
theorem dX9_film_4 : decode cX9_film 4 = .ok (.ifCond .eq 15, 3) := by decide +kernel
theorem dX9_film_7 : decode cX9_film 7 = .ok (.iload_n 2, 1) := by decide +kernel
theorem dX9_film_8 : decode cX9_film 8 = .ok (.i2l, 1) := by decide +kernel
theorem dX9_film_9 : decode cX9_film 9 = .ok (.lconst 0, 1) := by decide +kernel
theorem dX9_film_10 : decode cX9_film 10 = .ok (.ldc2_w 158, 3) := by decide +kernel
theorem dX9_film_13 : decode cX9_film 13 = .ok (.invokestatic 76, 3) := by decide +kernel
theorem dX9_film_16 : decode cX9_film 16 = .ok (.ifCond .ne 5, 3) := by decide +kernel
theorem dX9_film_19 : decode cX9_film 19 = .ok (.iconst (-1), 1) := by decide +kernel
theorem dX9_film_20 : decode cX9_film 20 = .ok (.ireturn, 1) := by decide +kernel
theorem dX9_film_21 : decode cX9_film 21 = .ok (.aload_n 0, 1) := by decide +kernel
theorem dX9_film_22 : decode cX9_film 22 = .ok (.iload_n 1, 1) := by decide +kernel
theorem dX9_film_23 : decode cX9_film 23 = .ok (.iload_n 2, 1) := by decide +kernel
theorem dX9_film_24 : decode cX9_film 24 = .ok (.iload_n 3, 1) := by decide +kernel
theorem dX9_film_25 : decode cX9_film 25 = .ok (.iconst 2, 1) := by decide +kernel
theorem dX9_film_26 : decode cX9_film 26 = .ok (.aload_n 0, 1) := by decide +kernel
theorem dX9_film_27 : decode cX9_film 27 = .ok (.getfield 13, 3) := by decide +kernel
theorem dX9_film_30 : decode cX9_film 30 = .ok (.iconst 0, 1) := by decide +kernel
theorem dX9_film_31 : decode cX9_film 31 = .ok (.iaload, 1) := by decide +kernel
theorem dX9_film_32 : decode cX9_film 32 = .ok (.imul, 1) := by decide +kernel
theorem dX9_film_33 : decode cX9_film 33 = .ok (.invokevirtual 245, 3) := by decide +kernel
theorem dX9_film_36 : decode cX9_film 36 = .ok (.istore 4, 2) := by decide +kernel
theorem dX9_film_38 : decode cX9_film 38 = .ok (.iload 4, 2) := by decide +kernel
theorem dX9_film_40 : decode cX9_film 40 = .ok (.ifCond .ge 6, 3) := by decide +kernel
theorem dX9_film_43 : decode cX9_film 43 = .ok (.iload 4, 2) := by decide +kernel
theorem dX9_film_45 : decode cX9_film 45 = .ok (.ireturn, 1) := by decide +kernel
theorem dX9_film_46 : decode cX9_film 46 = .ok (.aload_n 0, 1) := by decide +kernel
theorem dX9_film_47 : decode cX9_film 47 = .ok (.invokevirtual 160, 3) := by decide +kernel
theorem dX9_film_50 : decode cX9_film 50 = .ok (.iconst 0, 1) := by decide +kernel
theorem dX9_film_51 : decode cX9_film 51 = .ok (.istore 5, 2) := by decide +kernel
theorem dX9_film_53 : decode cX9_film 53 = .ok (.iload 5, 2) := by decide +kernel
theorem dX9_film_55 : decode cX9_film 55 = .ok (.aload_n 0, 1) := by decide +kernel
theorem dX9_film_56 : decode cX9_film 56 = .ok (.getfield 13, 3) := by decide +kernel
theorem dX9_film_59 : decode cX9_film 59 = .ok (.iconst 0, 1) := by decide +kernel
theorem dX9_film_60 : decode cX9_film 60 = .ok (.iaload, 1) := by decide +kernel
theorem dX9_film_61 : decode cX9_film 61 = .ok (.if_icmp .ge 65, 3) := by decide +kernel
theorem dX9_film_64 : decode cX9_film 64 = .ok (.aload_n 0, 1) := by decide +kernel
theorem dX9_film_65 : decode cX9_film 65 = .ok (.getfield 50, 3) := by decide +kernel
theorem dX9_film_68 : decode cX9_film 68 = .ok (.bipush 24, 2) := by decide +kernel
theorem dX9_film_70 : decode cX9_film 70 = .ok (.iload_n 1, 1) := by decide +kernel
theorem dX9_film_71 : decode cX9_film 71 = .ok (.imul, 1) := by decide +kernel
theorem dX9_film_72 : decode cX9_film 72 = .ok (.iload_n 3, 1) := by decide +kernel
theorem dX9_film_73 : decode cX9_film 73 = .ok (.iadd, 1) := by decide +kernel
theorem dX9_film_74 : decode cX9_film 74 = .ok (.iconst 2, 1) := by decide +kernel
theorem dX9_film_75 : decode cX9_film 75 = .ok (.iload 5, 2) := by decide +kernel
theorem dX9_film_77 : decode cX9_film 77 = .ok (.imul, 1) := by decide +kernel
theorem dX9_film_78 : decode cX9_film 78 = .ok (.iadd, 1) := by decide +kernel
theorem dX9_film_79 : decode cX9_film 79 = .ok (.aload_n 0, 1) := by decide +kernel
theorem dX9_film_80 : decode cX9_film 80 = .ok (.aload_n 0, 1) := by decide +kernel
theorem dX9_film_81 : decode cX9_film 81 = .ok (.getfield 151, 3) := by decide +kernel
theorem dX9_film_84 : decode cX9_film 84 = .ok (.iload 5, 2) := by decide +kernel
theorem dX9_film_86 : decode cX9_film 86 = .ok (.invokevirtual 139, 3) := by decide +kernel
theorem dX9_film_89 : decode cX9_film 89 = .ok (.i2l, 1) := by decide +kernel
theorem dX9_film_90 : decode cX9_film 90 = .ok (.lastore, 1) := by decide +kernel
theorem dX9_film_91 : decode cX9_film 91 = .ok (.aload_n 0, 1) := by decide +kernel
theorem dX9_film_92 : decode cX9_film 92 = .ok (.getfield 50, 3) := by decide +kernel
theorem dX9_film_95 : decode cX9_film 95 = .ok (.bipush 24, 2) := by decide +kernel
theorem dX9_film_97 : decode cX9_film 97 = .ok (.iload_n 1, 1) := by decide +kernel
theorem dX9_film_98 : decode cX9_film 98 = .ok (.imul, 1) := by decide +kernel
theorem dX9_film_99 : decode cX9_film 99 = .ok (.iload_n 3, 1) := by decide +kernel
theorem dX9_film_100 : decode cX9_film 100 = .ok (.iadd, 1) := by decide +kernel
theorem dX9_film_101 : decode cX9_film 101 = .ok (.iconst 2, 1) := by decide +kernel
theorem dX9_film_102 : decode cX9_film 102 = .ok (.iload 5, 2) := by decide +kernel
theorem dX9_film_104 : decode cX9_film 104 = .ok (.imul, 1) := by decide +kernel
theorem dX9_film_105 : decode cX9_film 105 = .ok (.iadd, 1) := by decide +kernel
theorem dX9_film_106 : decode cX9_film 106 = .ok (.iconst 1, 1) := by decide +kernel
theorem dX9_film_107 : decode cX9_film 107 = .ok (.iadd, 1) := by decide +kernel
theorem dX9_film_108 : decode cX9_film 108 = .ok (.aload_n 0, 1) := by decide +kernel
theorem dX9_film_109 : decode cX9_film 109 = .ok (.aload_n 0, 1) := by decide +kernel
theorem dX9_film_110 : decode cX9_film 110 = .ok (.getfield 151, 3) := by decide +kernel
theorem dX9_film_113 : decode cX9_film 113 = .ok (.iload 5, 2) := by decide +kernel
theorem dX9_film_115 : decode cX9_film 115 = .ok (.invokevirtual 142, 3) := by decide +kernel
theorem dX9_film_118 : decode cX9_film 118 = .ok (.i2l, 1) := by decide +kernel
theorem dX9_film_119 : decode cX9_film 119 = .ok (.lastore, 1) := by decide +kernel
theorem dX9_film_120 : decode cX9_film 120 = .ok (.iinc 5 1, 3) := by decide +kernel
theorem dX9_film_123 : decode cX9_film 123 = .ok (.goto (-70), 3) := by decide +kernel
theorem dX9_film_126 : decode cX9_film 126 = .ok (.iconst 2, 1) := by decide +kernel
theorem dX9_film_127 : decode cX9_film 127 = .ok (.aload_n 0, 1) := by decide +kernel
theorem dX9_film_128 : decode cX9_film 128 = .ok (.getfield 13, 3) := by decide +kernel
theorem dX9_film_131 : decode cX9_film 131 = .ok (.iconst 0, 1) := by decide +kernel
theorem dX9_film_132 : decode cX9_film 132 = .ok (.iaload, 1) := by decide +kernel
theorem dX9_film_133 : decode cX9_film 133 = .ok (.imul, 1) := by decide +kernel
theorem dX9_film_134 : decode cX9_film 134 = .ok (.ireturn, 1) := by decide +kernel
