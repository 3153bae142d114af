theorem dX1_init_0 : decode cX1_init 0 = .ok (.aload_n 0, 1) := by decide +kernel
theorem dX1_init_1 : decode cX1_init 1 = .ok (.invokespecial 3, 3) := by decide +kernel
theorem dX1_init_4 : decode cX1_init 4 = .ok (.aload_n 0, 1) := by decide +kernel
theorem dX1_init_5 : decode cX1_init 5 = .ok (.new 9, 3) := by decide +kernel
theorem dX1_init_8 : decode cX1_init 8 = .ok (.dup, 1) := by decide +kernel
theorem dX1_init_9 : decode cX1_init 9 = .ok (.iconst 2, 1) := by decide +kernel
theorem dX1_init_10 : decode cX1_init 10 = .ok (.invokespecial 11, 3) := by decide +kernel
theorem dX1_init_13 : decode cX1_init 13 = .ok (.putfield 14, 3) := by decide +kernel
theorem dX1_init_16 : decode cX1_init 16 = .ok (.aload_n 0, 1) := by decide +kernel
theorem dX1_init_17 : decode cX1_init 17 = .ok (.new 9, 3) := by decide +kernel
theorem dX1_init_20 : decode cX1_init 20 = .ok (.dup, 1) := by decide +kernel
theorem dX1_init_21 : decode cX1_init 21 = .ok (.iconst 3, 1) := by decide +kernel
theorem dX1_init_22 : decode cX1_init 22 = .ok (.invokespecial 11, 3) := by decide +kernel
theorem dX1_init_25 : decode cX1_init 25 = .ok (.putfield 18, 3) := by decide +kernel
theorem dX1_init_28 : decode cX1_init 28 = .ok (.aload_n 0, 1) := by decide +kernel
theorem dX1_init_29 : decode cX1_init 29 = .ok (.aload_n 0, 1) := by decide +kernel
theorem dX1_init_30 : decode cX1_init 30 = .ok (.getfield 18, 3) := by decide +kernel
theorem dX1_init_33 : decode cX1_init 33 = .ok (.putfield 21, 3) := by decide +kernel
theorem dX1_init_36 : decode cX1_init 36 = .ok (.aload_n 0, 1) := by decide +kernel
theorem dX1_init_37 : decode cX1_init 37 = .ok (.iconst (-1), 1) := by decide +kernel
theorem dX1_init_38 : decode cX1_init 38 = .ok (.putfield 24, 3) := by decide +kernel
theorem dX1_init_41 : decode cX1_init 41 = .ok (.aload_n 0, 1) := by decide +kernel
theorem dX1_init_42 : decode cX1_init 42 = .ok (.iconst 0, 1) := by decide +kernel
theorem dX1_init_43 : decode cX1_init 43 = .ok (.putfield 28, 3) := by decide +kernel
theorem dX1_init_46 : decode cX1_init 46 = .ok (.aload_n 0, 1) := by decide +kernel
theorem dX1_init_47 : decode cX1_init 47 = .ok (.bipush 12, 2) := by decide +kernel
theorem dX1_init_49 : decode cX1_init 49 = .ok (.newarray .int, 2) := by decide +kernel
theorem dX1_init_51 : decode cX1_init 51 = .ok (.putfield 31, 3) := by decide +kernel
theorem dX1_init_54 : decode cX1_init 54 = .ok (.aload_n 0, 1) := by decide +kernel
theorem dX1_init_55 : decode cX1_init 55 = .ok (.bipush 12, 2) := by decide +kernel
theorem dX1_init_57 : decode cX1_init 57 = .ok (.newarray .int, 2) := by decide +kernel
theorem dX1_init_59 : decode cX1_init 59 = .ok (.putfield 35, 3) := by decide +kernel
theorem dX1_init_62 : decode cX1_init 62 = .ok (.aload_n 0, 1) := by decide +kernel
theorem dX1_init_63 : decode cX1_init 63 = .ok (.bipush 12, 2) := by decide +kernel
theorem dX1_init_65 : decode cX1_init 65 = .ok (.newarray .boolean, 2) := by decide +kernel
theorem dX1_init_67 : decode cX1_init 67 = .ok (.putfield 38, 3) := by decide +kernel
theorem dX1_init_70 : decode cX1_init 70 = .ok (.aload_n 0, 1) := by decide +kernel
theorem dX1_init_71 : decode cX1_init 71 = .ok (.bipush 81, 2) := by decide +kernel
theorem dX1_init_73 : decode cX1_init 73 = .ok (.newarray .boolean, 2) := by decide +kernel
theorem dX1_init_75 : decode cX1_init 75 = .ok (.putfield 42, 3) := by decide +kernel
theorem dX1_init_78 : decode cX1_init 78 = .ok (.aload_n 0, 1) := by decide +kernel
theorem dX1_init_79 : decode cX1_init 79 = .ok (.bipush 81, 2) := by decide +kernel
theorem dX1_init_81 : decode cX1_init 81 = .ok (.newarray .boolean, 2) := by decide +kernel
theorem dX1_init_83 : decode cX1_init 83 = .ok (.putfield 45, 3) := by decide +kernel
theorem dX1_init_86 : decode cX1_init 86 = .ok (.aload_n 0, 1) := by decide +kernel
theorem dX1_init_87 : decode cX1_init 87 = .ok (.bipush 21, 2) := by decide +kernel
theorem dX1_init_89 : decode cX1_init 89 = .ok (.newarray .int, 2) := by decide +kernel
theorem dX1_init_91 : decode cX1_init 91 = .ok (.putfield 48, 3) := by decide +kernel
theorem dX1_init_94 : decode cX1_init 94 = .ok (.aload_n 0, 1) := by decide +kernel
theorem dX1_init_95 : decode cX1_init 95 = .ok (.invokevirtual 51, 3) := by decide +kernel
theorem dX1_init_98 : decode cX1_init 98 = .ok (.return_, 1) := by decide +kernel
theorem dX1_setColours_0 : decode cX1_setColours 0 = .ok (.iload_n 1, 1) := by decide +kernel
theorem dX1_setColours_1 : decode cX1_setColours 1 = .ok (.iconst 2, 1) := by decide +kernel
theorem dX1_setColours_2 : decode cX1_setColours 2 = .ok (.if_icmp .eq 18, 3) := by decide +kernel
theorem dX1_setColours_5 : decode cX1_setColours 5 = .ok (.iload_n 1, 1) := by decide +kernel
theorem dX1_setColours_6 : decode cX1_setColours 6 = .ok (.iconst 3, 1) := by decide +kernel
theorem dX1_setColours_7 : decode cX1_setColours 7 = .ok (.if_icmp .eq 13, 3) := by decide +kernel
theorem dX1_setColours_10 : decode cX1_setColours 10 = .ok (.new 54, 3) := by decide +kernel
theorem dX1_setColours_13 : decode cX1_setColours 13 = .ok (.dup, 1) := by decide +kernel
theorem dX1_setColours_14 : decode cX1_setColours 14 = .ok (.ldc 56, 2) := by decide +kernel
theorem dX1_setColours_16 : decode cX1_setColours 16 = .ok (.invokespecial 58, 3) := by decide +kernel
theorem dX1_setColours_19 : decode cX1_setColours 19 = .ok (.athrow, 1) := by decide +kernel
theorem dX1_setColours_20 : decode cX1_setColours 20 = .ok (.aload_n 0, 1) := by decide +kernel
theorem dX1_setColours_21 : decode cX1_setColours 21 = .ok (.getfield 21, 3) := by decide +kernel
theorem dX1_setColours_24 : decode cX1_setColours 24 = .ok (.getfield 61, 3) := by decide +kernel
theorem dX1_setColours_27 : decode cX1_setColours 27 = .ok (.istore_n 2, 1) := by decide +kernel
theorem dX1_setColours_28 : decode cX1_setColours 28 = .ok (.aload_n 0, 1) := by decide +kernel
theorem dX1_setColours_29 : decode cX1_setColours 29 = .ok (.iload_n 1, 1) := by decide +kernel
theorem dX1_setColours_30 : decode cX1_setColours 30 = .ok (.iconst 2, 1) := by decide +kernel
theorem dX1_setColours_31 : decode cX1_setColours 31 = .ok (.if_icmp .ne 10, 3) := by decide +kernel
theorem dX1_setColours_34 : decode cX1_setColours 34 = .ok (.aload_n 0, 1) := by decide +kernel
theorem dX1_setColours_35 : decode cX1_setColours 35 = .ok (.getfield 14, 3) := by decide +kernel
theorem dX1_setColours_38 : decode cX1_setColours 38 = .ok (.goto 7, 3) := by decide +kernel
theorem dX1_setColours_41 : decode cX1_setColours 41 = .ok (.aload_n 0, 1) := by decide +kernel
theorem dX1_setColours_42 : decode cX1_setColours 42 = .ok (.getfield 18, 3) := by decide +kernel
theorem dX1_setColours_45 : decode cX1_setColours 45 = .ok (.putfield 21, 3) := by decide +kernel
theorem dX1_setColours_48 : decode cX1_setColours 48 = .ok (.aload_n 0, 1) := by decide +kernel
theorem dX1_setColours_49 : decode cX1_setColours 49 = .ok (.iconst (-1), 1) := by decide +kernel
theorem dX1_setColours_50 : decode cX1_setColours 50 = .ok (.putfield 24, 3) := by decide +kernel
theorem dX1_setColours_53 : decode cX1_setColours 53 = .ok (.aload_n 0, 1) := by decide +kernel
theorem dX1_setColours_54 : decode cX1_setColours 54 = .ok (.iconst 0, 1) := by decide +kernel
theorem dX1_setColours_55 : decode cX1_setColours 55 = .ok (.putfield 28, 3) := by decide +kernel
theorem dX1_setColours_58 : decode cX1_setColours 58 = .ok (.aload_n 0, 1) := by decide +kernel
theorem dX1_setColours_59 : decode cX1_setColours 59 = .ok (.invokevirtual 51, 3) := by decide +kernel
theorem dX1_setColours_62 : decode cX1_setColours 62 = .ok (.iload_n 2, 1) := by decide +kernel
theorem dX1_setColours_63 : decode cX1_setColours 63 = .ok (.ireturn, 1) := by decide +kernel
theorem dX1_hide_0 : decode cX1_hide 0 = .ok (.aload_n 0, 1) := by decide +kernel
theorem dX1_hide_1 : decode cX1_hide 1 = .ok (.iload_n 1, 1) := by decide +kernel
theorem dX1_hide_2 : decode cX1_hide 2 = .ok (.invokevirtual 64, 3) := by decide +kernel
theorem dX1_hide_5 : decode cX1_hide 5 = .ok (.aload_n 0, 1) := by decide +kernel
theorem dX1_hide_6 : decode cX1_hide 6 = .ok (.getfield 24, 3) := by decide +kernel
theorem dX1_hide_9 : decode cX1_hide 9 = .ok (.istore_n 2, 1) := by decide +kernel
theorem dX1_hide_10 : decode cX1_hide 10 = .ok (.aload_n 0, 1) := by decide +kernel
theorem dX1_hide_11 : decode cX1_hide 11 = .ok (.iload_n 1, 1) := by decide +kernel
theorem dX1_hide_12 : decode cX1_hide 12 = .ok (.putfield 24, 3) := by decide +kernel
theorem dX1_hide_15 : decode cX1_hide 15 = .ok (.iload_n 2, 1) := by decide +kernel
theorem dX1_hide_16 : decode cX1_hide 16 = .ok (.ireturn, 1) := by decide +kernel
theorem dX1_swap_0 : decode cX1_swap 0 = .ok (.iload_n 1, 1) := by decide +kernel
theorem dX1_swap_1 : decode cX1_swap 1 = .ok (.invokestatic 67, 3) := by decide +kernel
theorem dX1_swap_4 : decode cX1_swap 4 = .ok (.iload_n 2, 1) := by decide +kernel
theorem dX1_swap_5 : decode cX1_swap 5 = .ok (.invokestatic 67, 3) := by decide +kernel
theorem dX1_swap_8 : decode cX1_swap 8 = .ok (.aload_n 0, 1) := by decide +kernel
theorem dX1_swap_9 : decode cX1_swap 9 = .ok (.invokevirtual 70, 3) := by decide +kernel
theorem dX1_swap_12 : decode cX1_swap 12 = .ok (.iconst 0, 1) := by decide +kernel
theorem dX1_swap_13 : decode cX1_swap 13 = .ok (.istore_n 3, 1) := by decide +kernel
theorem dX1_swap_14 : decode cX1_swap 14 = .ok (.iconst 0, 1) := by decide +kernel
theorem dX1_swap_15 : decode cX1_swap 15 = .ok (.istore 4, 2) := by decide +kernel
theorem dX1_swap_17 : decode cX1_swap 17 = .ok (.iload 4, 2) := by decide +kernel
theorem dX1_swap_19 : decode cX1_swap 19 = .ok (.iconst 4, 1) := by decide +kernel
theorem dX1_swap_20 : decode cX1_swap 20 = .ok (.if_icmp .ge 57, 3) := by decide +kernel
theorem dX1_swap_23 : decode cX1_swap 23 = .ok (.iload 4, 2) := by decide +kernel
theorem dX1_swap_25 : decode cX1_swap 25 = .ok (.iload_n 1, 1) := by decide +kernel
theorem dX1_swap_26 : decode cX1_swap 26 = .ok (.if_icmp .ne 7, 3) := by decide +kernel
theorem dX1_swap_29 : decode cX1_swap 29 = .ok (.iload_n 2, 1) := by decide +kernel
theorem dX1_swap_30 : decode cX1_swap 30 = .ok (.goto 15, 3) := by decide +kernel
theorem dX1_swap_33 : decode cX1_swap 33 = .ok (.iload 4, 2) := by decide +kernel
theorem dX1_swap_35 : decode cX1_swap 35 = .ok (.iload_n 2, 1) := by decide +kernel
theorem dX1_swap_36 : decode cX1_swap 36 = .ok (.if_icmp .ne 7, 3) := by decide +kernel
theorem dX1_swap_39 : decode cX1_swap 39 = .ok (.iload_n 1, 1) := by decide +kernel
theorem dX1_swap_40 : decode cX1_swap 40 = .ok (.goto 5, 3) := by decide +kernel
theorem dX1_swap_43 : decode cX1_swap 43 = .ok (.iload 4, 2) := by decide +kernel
theorem dX1_swap_45 : decode cX1_swap 45 = .ok (.istore 5, 2) := by decide +kernel
theorem dX1_swap_47 : decode cX1_swap 47 = .ok (.iload_n 3, 1) := by decide +kernel
theorem dX1_swap_48 : decode cX1_swap 48 = .ok (.aload_n 0, 1) := by decide +kernel
theorem dX1_swap_49 : decode cX1_swap 49 = .ok (.getfield 21, 3) := by decide +kernel
theorem dX1_swap_52 : decode cX1_swap 52 = .ok (.getfield 61, 3) := by decide +kernel
theorem dX1_swap_55 : decode cX1_swap 55 = .ok (.imul, 1) := by decide +kernel
theorem dX1_swap_56 : decode cX1_swap 56 = .ok (.aload_n 0, 1) := by decide +kernel
theorem dX1_swap_57 : decode cX1_swap 57 = .ok (.getfield 21, 3) := by decide +kernel
theorem dX1_swap_60 : decode cX1_swap 60 = .ok (.aload_n 0, 1) := by decide +kernel
theorem dX1_swap_61 : decode cX1_swap 61 = .ok (.getfield 24, 3) := by decide +kernel
theorem dX1_swap_64 : decode cX1_swap 64 = .ok (.iload 5, 2) := by decide +kernel
theorem dX1_swap_66 : decode cX1_swap 66 = .ok (.invokevirtual 73, 3) := by decide +kernel
theorem dX1_swap_69 : decode cX1_swap 69 = .ok (.iadd, 1) := by decide +kernel
theorem dX1_swap_70 : decode cX1_swap 70 = .ok (.istore_n 3, 1) := by decide +kernel
theorem dX1_swap_71 : decode cX1_swap 71 = .ok (.iinc 4 1, 3) := by decide +kernel
theorem dX1_swap_74 : decode cX1_swap 74 = .ok (.goto (-57), 3) := by decide +kernel
theorem dX1_swap_77 : decode cX1_swap 77 = .ok (.aload_n 0, 1) := by decide +kernel
theorem dX1_swap_78 : decode cX1_swap 78 = .ok (.iload_n 3, 1) := by decide +kernel
theorem dX1_swap_79 : decode cX1_swap 79 = .ok (.putfield 24, 3) := by decide +kernel
theorem dX1_swap_82 : decode cX1_swap 82 = .ok (.aload_n 0, 1) := by decide +kernel
theorem dX1_swap_83 : decode cX1_swap 83 = .ok (.getfield 24, 3) := by decide +kernel
theorem dX1_swap_86 : decode cX1_swap 86 = .ok (.ireturn, 1) := by decide +kernel
theorem dX1_guess_0 : decode cX1_guess 0 = .ok (.aload_n 0, 1) := by decide +kernel
theorem dX1_guess_1 : decode cX1_guess 1 = .ok (.iload_n 1, 1) := by decide +kernel
theorem dX1_guess_2 : decode cX1_guess 2 = .ok (.invokevirtual 64, 3) := by decide +kernel
theorem dX1_guess_5 : decode cX1_guess 5 = .ok (.aload_n 0, 1) := by decide +kernel
theorem dX1_guess_6 : decode cX1_guess 6 = .ok (.invokevirtual 70, 3) := by decide +kernel
theorem dX1_guess_9 : decode cX1_guess 9 = .ok (.aload_n 0, 1) := by decide +kernel
theorem dX1_guess_10 : decode cX1_guess 10 = .ok (.getfield 21, 3) := by decide +kernel
theorem dX1_guess_13 : decode cX1_guess 13 = .ok (.iload_n 1, 1) := by decide +kernel
theorem dX1_guess_14 : decode cX1_guess 14 = .ok (.aload_n 0, 1) := by decide +kernel
theorem dX1_guess_15 : decode cX1_guess 15 = .ok (.getfield 24, 3) := by decide +kernel
theorem dX1_guess_18 : decode cX1_guess 18 = .ok (.invokevirtual 77, 3) := by decide +kernel
theorem dX1_guess_21 : decode cX1_guess 21 = .ok (.istore_n 2, 1) := by decide +kernel
theorem dX1_guess_22 : decode cX1_guess 22 = .ok (.aload_n 0, 1) := by decide +kernel
theorem dX1_guess_23 : decode cX1_guess 23 = .ok (.iload_n 1, 1) := by decide +kernel
theorem dX1_guess_24 : decode cX1_guess 24 = .ok (.iload_n 2, 1) := by decide +kernel
theorem dX1_guess_25 : decode cX1_guess 25 = .ok (.invokevirtual 80, 3) := by decide +kernel
theorem dX1_guess_28 : decode cX1_guess 28 = .ok (.iload_n 2, 1) := by decide +kernel
theorem dX1_guess_29 : decode cX1_guess 29 = .ok (.ireturn, 1) := by decide +kernel
theorem dX1_tell_0 : decode cX1_tell 0 = .ok (.aload_n 0, 1) := by decide +kernel
theorem dX1_tell_1 : decode cX1_tell 1 = .ok (.iload_n 1, 1) := by decide +kernel
theorem dX1_tell_2 : decode cX1_tell 2 = .ok (.invokevirtual 64, 3) := by decide +kernel
theorem dX1_tell_5 : decode cX1_tell 5 = .ok (.iload_n 2, 1) := by decide +kernel
theorem dX1_tell_6 : decode cX1_tell 6 = .ok (.iload_n 3, 1) := by decide +kernel
theorem dX1_tell_7 : decode cX1_tell 7 = .ok (.invokestatic 84, 3) := by decide +kernel
theorem dX1_tell_10 : decode cX1_tell 10 = .ok (.aload_n 0, 1) := by decide +kernel
theorem dX1_tell_11 : decode cX1_tell 11 = .ok (.iload_n 1, 1) := by decide +kernel
theorem dX1_tell_12 : decode cX1_tell 12 = .ok (.iconst 5, 1) := by decide +kernel
theorem dX1_tell_13 : decode cX1_tell 13 = .ok (.iload_n 2, 1) := by decide +kernel
theorem dX1_tell_14 : decode cX1_tell 14 = .ok (.imul, 1) := by decide +kernel
theorem dX1_tell_15 : decode cX1_tell 15 = .ok (.iload_n 3, 1) := by decide +kernel
theorem dX1_tell_16 : decode cX1_tell 16 = .ok (.iadd, 1) := by decide +kernel
theorem dX1_tell_17 : decode cX1_tell 17 = .ok (.invokevirtual 80, 3) := by decide +kernel
theorem dX1_tell_20 : decode cX1_tell 20 = .ok (.aload_n 0, 1) := by decide +kernel
theorem dX1_tell_21 : decode cX1_tell 21 = .ok (.getfield 42, 3) := by decide +kernel
theorem dX1_tell_24 : decode cX1_tell 24 = .ok (.invokestatic 87, 3) := by decide +kernel
theorem dX1_tell_27 : decode cX1_tell 27 = .ok (.ireturn, 1) := by decide +kernel
theorem dX1_doubt_0 : decode cX1_doubt 0 = .ok (.aload_n 0, 1) := by decide +kernel
theorem dX1_doubt_1 : decode cX1_doubt 1 = .ok (.iload_n 1, 1) := by decide +kernel
theorem dX1_doubt_2 : decode cX1_doubt 2 = .ok (.invokevirtual 91, 3) := by decide +kernel
theorem dX1_doubt_5 : decode cX1_doubt 5 = .ok (.ifCond .ne 13, 3) := by decide +kernel
theorem dX1_doubt_8 : decode cX1_doubt 8 = .ok (.new 95, 3) := by decide +kernel
theorem dX1_doubt_11 : decode cX1_doubt 11 = .ok (.dup, 1) := by decide +kernel
theorem dX1_doubt_12 : decode cX1_doubt 12 = .ok (.ldc 97, 2) := by decide +kernel
theorem dX1_doubt_14 : decode cX1_doubt 14 = .ok (.invokespecial 99, 3) := by decide +kernel
theorem dX1_doubt_17 : decode cX1_doubt 17 = .ok (.athrow, 1) := by decide +kernel
theorem dX1_doubt_18 : decode cX1_doubt 18 = .ok (.aload_n 0, 1) := by decide +kernel
theorem dX1_doubt_19 : decode cX1_doubt 19 = .ok (.getfield 38, 3) := by decide +kernel
theorem dX1_doubt_22 : decode cX1_doubt 22 = .ok (.iload_n 1, 1) := by decide +kernel
theorem dX1_doubt_23 : decode cX1_doubt 23 = .ok (.baload, 1) := by decide +kernel
theorem dX1_doubt_24 : decode cX1_doubt 24 = .ok (.istore_n 3, 1) := by decide +kernel
theorem dX1_doubt_25 : decode cX1_doubt 25 = .ok (.aload_n 0, 1) := by decide +kernel
theorem dX1_doubt_26 : decode cX1_doubt 26 = .ok (.getfield 38, 3) := by decide +kernel
theorem dX1_doubt_29 : decode cX1_doubt 29 = .ok (.iload_n 1, 1) := by decide +kernel
theorem dX1_doubt_30 : decode cX1_doubt 30 = .ok (.iload_n 2, 1) := by decide +kernel
theorem dX1_doubt_31 : decode cX1_doubt 31 = .ok (.bastore, 1) := by decide +kernel
theorem dX1_doubt_32 : decode cX1_doubt 32 = .ok (.aload_n 0, 1) := by decide +kernel
theorem dX1_doubt_33 : decode cX1_doubt 33 = .ok (.invokevirtual 51, 3) := by decide +kernel
theorem dX1_doubt_36 : decode cX1_doubt 36 = .ok (.iload_n 3, 1) := by decide +kernel
theorem dX1_doubt_37 : decode cX1_doubt 37 = .ok (.ireturn, 1) := by decide +kernel
theorem dX1_forget_0 : decode cX1_forget 0 = .ok (.aload_n 0, 1) := by decide +kernel
theorem dX1_forget_1 : decode cX1_forget 1 = .ok (.getfield 28, 3) := by decide +kernel
theorem dX1_forget_4 : decode cX1_forget 4 = .ok (.iconst 1, 1) := by decide +kernel
theorem dX1_forget_5 : decode cX1_forget 5 = .ok (.isub, 1) := by decide +kernel
theorem dX1_forget_6 : decode cX1_forget 6 = .ok (.istore_n 1, 1) := by decide +kernel
theorem dX1_forget_7 : decode cX1_forget 7 = .ok (.aload_n 0, 1) := by decide +kernel
theorem dX1_forget_8 : decode cX1_forget 8 = .ok (.iload_n 1, 1) := by decide +kernel
theorem dX1_forget_9 : decode cX1_forget 9 = .ok (.invokevirtual 91, 3) := by decide +kernel
theorem dX1_forget_12 : decode cX1_forget 12 = .ok (.ifCond .ne 13, 3) := by decide +kernel
theorem dX1_forget_15 : decode cX1_forget 15 = .ok (.new 100, 3) := by decide +kernel
theorem dX1_forget_18 : decode cX1_forget 18 = .ok (.dup, 1) := by decide +kernel
theorem dX1_forget_19 : decode cX1_forget 19 = .ok (.ldc 102, 2) := by decide +kernel
theorem dX1_forget_21 : decode cX1_forget 21 = .ok (.invokespecial 104, 3) := by decide +kernel
theorem dX1_forget_24 : decode cX1_forget 24 = .ok (.athrow, 1) := by decide +kernel
theorem dX1_forget_25 : decode cX1_forget 25 = .ok (.aload_n 0, 1) := by decide +kernel
theorem dX1_forget_26 : decode cX1_forget 26 = .ok (.iload_n 1, 1) := by decide +kernel
theorem dX1_forget_27 : decode cX1_forget 27 = .ok (.putfield 28, 3) := by decide +kernel
theorem dX1_forget_30 : decode cX1_forget 30 = .ok (.aload_n 0, 1) := by decide +kernel
theorem dX1_forget_31 : decode cX1_forget 31 = .ok (.invokevirtual 51, 3) := by decide +kernel
theorem dX1_forget_34 : decode cX1_forget 34 = .ok (.aload_n 0, 1) := by decide +kernel
theorem dX1_forget_35 : decode cX1_forget 35 = .ok (.getfield 31, 3) := by decide +kernel
theorem dX1_forget_38 : decode cX1_forget 38 = .ok (.iload_n 1, 1) := by decide +kernel
theorem dX1_forget_39 : decode cX1_forget 39 = .ok (.iaload, 1) := by decide +kernel
theorem dX1_forget_40 : decode cX1_forget 40 = .ok (.ireturn, 1) := by decide +kernel
theorem dX1_colour_0 : decode cX1_colour 0 = .ok (.aload_n 0, 1) := by decide +kernel
theorem dX1_colour_1 : decode cX1_colour 1 = .ok (.iload_n 1, 1) := by decide +kernel
theorem dX1_colour_2 : decode cX1_colour 2 = .ok (.invokevirtual 64, 3) := by decide +kernel
theorem dX1_colour_5 : decode cX1_colour 5 = .ok (.iload_n 2, 1) := by decide +kernel
theorem dX1_colour_6 : decode cX1_colour 6 = .ok (.invokestatic 67, 3) := by decide +kernel
theorem dX1_colour_9 : decode cX1_colour 9 = .ok (.aload_n 0, 1) := by decide +kernel
theorem dX1_colour_10 : decode cX1_colour 10 = .ok (.getfield 21, 3) := by decide +kernel
theorem dX1_colour_13 : decode cX1_colour 13 = .ok (.iload_n 1, 1) := by decide +kernel
theorem dX1_colour_14 : decode cX1_colour 14 = .ok (.iload_n 2, 1) := by decide +kernel
theorem dX1_colour_15 : decode cX1_colour 15 = .ok (.invokevirtual 73, 3) := by decide +kernel
theorem dX1_colour_18 : decode cX1_colour 18 = .ok (.ireturn, 1) := by decide +kernel
theorem dX1_pins_0 : decode cX1_pins 0 = .ok (.aload_n 0, 1) := by decide +kernel
theorem dX1_pins_1 : decode cX1_pins 1 = .ok (.iload_n 1, 1) := by decide +kernel
theorem dX1_pins_2 : decode cX1_pins 2 = .ok (.invokevirtual 64, 3) := by decide +kernel
theorem dX1_pins_5 : decode cX1_pins 5 = .ok (.aload_n 0, 1) := by decide +kernel
theorem dX1_pins_6 : decode cX1_pins 6 = .ok (.iload_n 2, 1) := by decide +kernel
theorem dX1_pins_7 : decode cX1_pins 7 = .ok (.invokevirtual 64, 3) := by decide +kernel
theorem dX1_pins_10 : decode cX1_pins 10 = .ok (.aload_n 0, 1) := by decide +kernel
theorem dX1_pins_11 : decode cX1_pins 11 = .ok (.getfield 21, 3) := by decide +kernel
theorem dX1_pins_14 : decode cX1_pins 14 = .ok (.iload_n 1, 1) := by decide +kernel
theorem dX1_pins_15 : decode cX1_pins 15 = .ok (.iload_n 2, 1) := by decide +kernel
theorem dX1_pins_16 : decode cX1_pins 16 = .ok (.invokevirtual 77, 3) := by decide +kernel
theorem dX1_pins_19 : decode cX1_pins 19 = .ok (.ireturn, 1) := by decide +kernel
theorem dX1_told_0 : decode cX1_told 0 = .ok (.aload_n 0, 1) := by decide +kernel
theorem dX1_told_1 : decode cX1_told 1 = .ok (.iload_n 1, 1) := by decide +kernel
theorem dX1_told_2 : decode cX1_told 2 = .ok (.invokevirtual 91, 3) := by decide +kernel
theorem dX1_told_5 : decode cX1_told 5 = .ok (.ifCond .ne 13, 3) := by decide +kernel
theorem dX1_told_8 : decode cX1_told 8 = .ok (.new 95, 3) := by decide +kernel
theorem dX1_told_11 : decode cX1_told 11 = .ok (.dup, 1) := by decide +kernel
theorem dX1_told_12 : decode cX1_told 12 = .ok (.ldc 97, 2) := by decide +kernel
theorem dX1_told_14 : decode cX1_told 14 = .ok (.invokespecial 99, 3) := by decide +kernel
theorem dX1_told_17 : decode cX1_told 17 = .ok (.athrow, 1) := by decide +kernel
theorem dX1_told_18 : decode cX1_told 18 = .ok (.iload_n 2, 1) := by decide +kernel
theorem dX1_told_19 : decode cX1_told 19 = .ok (.tableswitch 102 0 5 #[37, 44, 53, 62, 77, 85], 37) := by decide +kernel
theorem dX1_told_56 : decode cX1_told 56 = .ok (.aload_n 0, 1) := by decide +kernel
theorem dX1_told_57 : decode cX1_told 57 = .ok (.getfield 31, 3) := by decide +kernel
theorem dX1_told_60 : decode cX1_told 60 = .ok (.iload_n 1, 1) := by decide +kernel
theorem dX1_told_61 : decode cX1_told 61 = .ok (.iaload, 1) := by decide +kernel
theorem dX1_told_62 : decode cX1_told 62 = .ok (.ireturn, 1) := by decide +kernel
theorem dX1_told_63 : decode cX1_told 63 = .ok (.aload_n 0, 1) := by decide +kernel
theorem dX1_told_64 : decode cX1_told 64 = .ok (.getfield 35, 3) := by decide +kernel
theorem dX1_told_67 : decode cX1_told 67 = .ok (.iload_n 1, 1) := by decide +kernel
theorem dX1_told_68 : decode cX1_told 68 = .ok (.iaload, 1) := by decide +kernel
theorem dX1_told_69 : decode cX1_told 69 = .ok (.iconst 5, 1) := by decide +kernel
theorem dX1_told_70 : decode cX1_told 70 = .ok (.idiv, 1) := by decide +kernel
theorem dX1_told_71 : decode cX1_told 71 = .ok (.ireturn, 1) := by decide +kernel
theorem dX1_told_72 : decode cX1_told 72 = .ok (.aload_n 0, 1) := by decide +kernel
theorem dX1_told_73 : decode cX1_told 73 = .ok (.getfield 35, 3) := by decide +kernel
theorem dX1_told_76 : decode cX1_told 76 = .ok (.iload_n 1, 1) := by decide +kernel
theorem dX1_told_77 : decode cX1_told 77 = .ok (.iaload, 1) := by decide +kernel
theorem dX1_told_78 : decode cX1_told 78 = .ok (.iconst 5, 1) := by decide +kernel
theorem dX1_told_79 : decode cX1_told 79 = .ok (.irem, 1) := by decide +kernel
theorem dX1_told_80 : decode cX1_told 80 = .ok (.ireturn, 1) := by decide +kernel
theorem dX1_told_81 : decode cX1_told 81 = .ok (.aload_n 0, 1) := by decide +kernel
theorem dX1_told_82 : decode cX1_told 82 = .ok (.getfield 38, 3) := by decide +kernel
theorem dX1_told_85 : decode cX1_told 85 = .ok (.iload_n 1, 1) := by decide +kernel
theorem dX1_told_86 : decode cX1_told 86 = .ok (.baload, 1) := by decide +kernel
theorem dX1_told_87 : decode cX1_told 87 = .ok (.ifCond .eq 7, 3) := by decide +kernel
theorem dX1_told_90 : decode cX1_told 90 = .ok (.iconst 1, 1) := by decide +kernel
theorem dX1_told_91 : decode cX1_told 91 = .ok (.goto 4, 3) := by decide +kernel
theorem dX1_told_94 : decode cX1_told 94 = .ok (.iconst 0, 1) := by decide +kernel
theorem dX1_told_95 : decode cX1_told 95 = .ok (.ireturn, 1) := by decide +kernel
theorem dX1_told_96 : decode cX1_told 96 = .ok (.aload_n 0, 1) := by decide +kernel
theorem dX1_told_97 : decode cX1_told 97 = .ok (.iload_n 1, 1) := by decide +kernel
theorem dX1_told_98 : decode cX1_told 98 = .ok (.iconst 1, 1) := by decide +kernel
theorem dX1_told_99 : decode cX1_told 99 = .ok (.iadd, 1) := by decide +kernel
theorem dX1_told_100 : decode cX1_told 100 = .ok (.invokevirtual 105, 3) := by decide +kernel
theorem dX1_told_103 : decode cX1_told 103 = .ok (.ireturn, 1) := by decide +kernel
theorem dX1_told_104 : decode cX1_told 104 = .ok (.aload_n 0, 1) := by decide +kernel
theorem dX1_told_105 : decode cX1_told 105 = .ok (.aload_n 0, 1) := by decide +kernel
theorem dX1_told_106 : decode cX1_told 106 = .ok (.getfield 31, 3) := by decide +kernel
theorem dX1_told_109 : decode cX1_told 109 = .ok (.iload_n 1, 1) := by decide +kernel
theorem dX1_told_110 : decode cX1_told 110 = .ok (.iaload, 1) := by decide +kernel
theorem dX1_told_111 : decode cX1_told 111 = .ok (.aload_n 0, 1) := by decide +kernel
theorem dX1_told_112 : decode cX1_told 112 = .ok (.getfield 35, 3) := by decide +kernel
theorem dX1_told_115 : decode cX1_told 115 = .ok (.iload_n 1, 1) := by decide +kernel
theorem dX1_told_116 : decode cX1_told 116 = .ok (.iaload, 1) := by decide +kernel
theorem dX1_told_117 : decode cX1_told 117 = .ok (.invokevirtual 109, 3) := by decide +kernel
theorem dX1_told_120 : decode cX1_told 120 = .ok (.ireturn, 1) := by decide +kernel
theorem dX1_told_121 : decode cX1_told 121 = .ok (.new 95, 3) := by decide +kernel
theorem dX1_told_124 : decode cX1_told 124 = .ok (.dup, 1) := by decide +kernel
theorem dX1_told_125 : decode cX1_told 125 = .ok (.ldc 112, 2) := by decide +kernel
theorem dX1_told_127 : decode cX1_told 127 = .ok (.invokespecial 99, 3) := by decide +kernel
theorem dX1_told_130 : decode cX1_told 130 = .ok (.athrow, 1) := by decide +kernel
theorem dX1_count_0 : decode cX1_count 0 = .ok (.iload_n 1, 1) := by decide +kernel
theorem dX1_count_1 : decode cX1_count 1 = .ok (.tableswitch 96 0 6 #[43, 51, 59, 64, 72, 86, 91], 43) := by decide +kernel
theorem dX1_count_44 : decode cX1_count 44 = .ok (.aload_n 0, 1) := by decide +kernel
theorem dX1_count_45 : decode cX1_count 45 = .ok (.getfield 21, 3) := by decide +kernel
theorem dX1_count_48 : decode cX1_count 48 = .ok (.getfield 61, 3) := by decide +kernel
theorem dX1_count_51 : decode cX1_count 51 = .ok (.ireturn, 1) := by decide +kernel
theorem dX1_count_52 : decode cX1_count 52 = .ok (.aload_n 0, 1) := by decide +kernel
theorem dX1_count_53 : decode cX1_count 53 = .ok (.getfield 21, 3) := by decide +kernel
theorem dX1_count_56 : decode cX1_count 56 = .ok (.getfield 114, 3) := by decide +kernel
theorem dX1_count_59 : decode cX1_count 59 = .ok (.ireturn, 1) := by decide +kernel
theorem dX1_count_60 : decode cX1_count 60 = .ok (.aload_n 0, 1) := by decide +kernel
theorem dX1_count_61 : decode cX1_count 61 = .ok (.getfield 28, 3) := by decide +kernel
theorem dX1_count_64 : decode cX1_count 64 = .ok (.ireturn, 1) := by decide +kernel
theorem dX1_count_65 : decode cX1_count 65 = .ok (.aload_n 0, 1) := by decide +kernel
theorem dX1_count_66 : decode cX1_count 66 = .ok (.getfield 42, 3) := by decide +kernel
theorem dX1_count_69 : decode cX1_count 69 = .ok (.invokestatic 87, 3) := by decide +kernel
theorem dX1_count_72 : decode cX1_count 72 = .ok (.ireturn, 1) := by decide +kernel
theorem dX1_count_73 : decode cX1_count 73 = .ok (.aload_n 0, 1) := by decide +kernel
theorem dX1_count_74 : decode cX1_count 74 = .ok (.getfield 24, 3) := by decide +kernel
theorem dX1_count_77 : decode cX1_count 77 = .ok (.iconst (-1), 1) := by decide +kernel
theorem dX1_count_78 : decode cX1_count 78 = .ok (.if_icmp .ne 7, 3) := by decide +kernel
theorem dX1_count_81 : decode cX1_count 81 = .ok (.iconst 0, 1) := by decide +kernel
theorem dX1_count_82 : decode cX1_count 82 = .ok (.goto 4, 3) := by decide +kernel
theorem dX1_count_85 : decode cX1_count 85 = .ok (.iconst 1, 1) := by decide +kernel
theorem dX1_count_86 : decode cX1_count 86 = .ok (.ireturn, 1) := by decide +kernel
theorem dX1_count_87 : decode cX1_count 87 = .ok (.aload_n 0, 1) := by decide +kernel
theorem dX1_count_88 : decode cX1_count 88 = .ok (.invokevirtual 117, 3) := by decide +kernel
theorem dX1_count_91 : decode cX1_count 91 = .ok (.ireturn, 1) := by decide +kernel
theorem dX1_count_92 : decode cX1_count 92 = .ok (.aload_n 0, 1) := by decide +kernel
theorem dX1_count_93 : decode cX1_count 93 = .ok (.invokevirtual 121, 3) := by decide +kernel
theorem dX1_count_96 : decode cX1_count 96 = .ok (.ireturn, 1) := by decide +kernel
theorem dX1_count_97 : decode cX1_count 97 = .ok (.new 95, 3) := by decide +kernel
theorem dX1_count_100 : decode cX1_count 100 = .ok (.dup, 1) := by decide +kernel
theorem dX1_count_101 : decode cX1_count 101 = .ok (.ldc 124, 2) := by decide +kernel
theorem dX1_count_103 : decode cX1_count 103 = .ok (.invokespecial 99, 3) := by decide +kernel
theorem dX1_count_106 : decode cX1_count 106 = .ok (.athrow, 1) := by decide +kernel
theorem dX1_isPossible_0 : decode cX1_isPossible 0 = .ok (.aload_n 0, 1) := by decide +kernel
theorem dX1_isPossible_1 : decode cX1_isPossible 1 = .ok (.iload_n 1, 1) := by decide +kernel
theorem dX1_isPossible_2 : decode cX1_isPossible 2 = .ok (.invokevirtual 64, 3) := by decide +kernel
theorem dX1_isPossible_5 : decode cX1_isPossible 5 = .ok (.aload_n 0, 1) := by decide +kernel
theorem dX1_isPossible_6 : decode cX1_isPossible 6 = .ok (.getfield 42, 3) := by decide +kernel
theorem dX1_isPossible_9 : decode cX1_isPossible 9 = .ok (.iload_n 1, 1) := by decide +kernel
theorem dX1_isPossible_10 : decode cX1_isPossible 10 = .ok (.invokestatic 126, 3) := by decide +kernel
theorem dX1_isPossible_13 : decode cX1_isPossible 13 = .ok (.ireturn, 1) := by decide +kernel
theorem dX1_possible_0 : decode cX1_possible 0 = .ok (.aload_n 0, 1) := by decide +kernel
theorem dX1_possible_1 : decode cX1_possible 1 = .ok (.getfield 42, 3) := by decide +kernel
theorem dX1_possible_4 : decode cX1_possible 4 = .ok (.iload_n 1, 1) := by decide +kernel
theorem dX1_possible_5 : decode cX1_possible 5 = .ok (.invokestatic 130, 3) := by decide +kernel
theorem dX1_possible_8 : decode cX1_possible 8 = .ok (.istore_n 2, 1) := by decide +kernel
theorem dX1_possible_9 : decode cX1_possible 9 = .ok (.iload_n 2, 1) := by decide +kernel
theorem dX1_possible_10 : decode cX1_possible 10 = .ok (.iconst (-1), 1) := by decide +kernel
theorem dX1_possible_11 : decode cX1_possible 11 = .ok (.if_icmp .ne 13, 3) := by decide +kernel
theorem dX1_possible_14 : decode cX1_possible 14 = .ok (.new 95, 3) := by decide +kernel
theorem dX1_possible_17 : decode cX1_possible 17 = .ok (.dup, 1) := by decide +kernel
theorem dX1_possible_18 : decode cX1_possible 18 = .ok (.ldc 134, 2) := by decide +kernel
theorem dX1_possible_20 : decode cX1_possible 20 = .ok (.invokespecial 99, 3) := by decide +kernel
theorem dX1_possible_23 : decode cX1_possible 23 = .ok (.athrow, 1) := by decide +kernel
theorem dX1_possible_24 : decode cX1_possible 24 = .ok (.iload_n 2, 1) := by decide +kernel
theorem dX1_possible_25 : decode cX1_possible 25 = .ok (.ireturn, 1) := by decide +kernel
theorem dX1_have_0 : decode cX1_have 0 = .ok (.iload_n 1, 1) := by decide +kernel
theorem dX1_have_1 : decode cX1_have 1 = .ok (.invokestatic 67, 3) := by decide +kernel
theorem dX1_have_4 : decode cX1_have 4 = .ok (.iload_n 2, 1) := by decide +kernel
theorem dX1_have_5 : decode cX1_have 5 = .ok (.ifCond .lt 14, 3) := by decide +kernel
theorem dX1_have_8 : decode cX1_have 8 = .ok (.iload_n 2, 1) := by decide +kernel
theorem dX1_have_9 : decode cX1_have 9 = .ok (.aload_n 0, 1) := by decide +kernel
theorem dX1_have_10 : decode cX1_have 10 = .ok (.getfield 21, 3) := by decide +kernel
theorem dX1_have_13 : decode cX1_have 13 = .ok (.getfield 61, 3) := by decide +kernel
theorem dX1_have_16 : decode cX1_have 16 = .ok (.if_icmp .lt 13, 3) := by decide +kernel
theorem dX1_have_19 : decode cX1_have 19 = .ok (.new 95, 3) := by decide +kernel
theorem dX1_have_22 : decode cX1_have 22 = .ok (.dup, 1) := by decide +kernel
theorem dX1_have_23 : decode cX1_have 23 = .ok (.ldc 136, 2) := by decide +kernel
theorem dX1_have_25 : decode cX1_have 25 = .ok (.invokespecial 99, 3) := by decide +kernel
theorem dX1_have_28 : decode cX1_have 28 = .ok (.athrow, 1) := by decide +kernel
theorem dX1_have_29 : decode cX1_have 29 = .ok (.aload_n 0, 1) := by decide +kernel
theorem dX1_have_30 : decode cX1_have 30 = .ok (.iload_n 1, 1) := by decide +kernel
theorem dX1_have_31 : decode cX1_have 31 = .ok (.iload_n 2, 1) := by decide +kernel
theorem dX1_have_32 : decode cX1_have 32 = .ok (.invokevirtual 138, 3) := by decide +kernel
theorem dX1_have_35 : decode cX1_have 35 = .ok (.ireturn, 1) := by decide +kernel
theorem dX1_sure_0 : decode cX1_sure 0 = .ok (.iload_n 1, 1) := by decide +kernel
theorem dX1_sure_1 : decode cX1_sure 1 = .ok (.invokestatic 67, 3) := by decide +kernel
theorem dX1_sure_4 : decode cX1_sure 4 = .ok (.aload_n 0, 1) := by decide +kernel
theorem dX1_sure_5 : decode cX1_sure 5 = .ok (.getfield 42, 3) := by decide +kernel
theorem dX1_sure_8 : decode cX1_sure 8 = .ok (.iconst 0, 1) := by decide +kernel
theorem dX1_sure_9 : decode cX1_sure 9 = .ok (.invokestatic 130, 3) := by decide +kernel
theorem dX1_sure_12 : decode cX1_sure 12 = .ok (.istore_n 2, 1) := by decide +kernel
theorem dX1_sure_13 : decode cX1_sure 13 = .ok (.iload_n 2, 1) := by decide +kernel
theorem dX1_sure_14 : decode cX1_sure 14 = .ok (.iconst (-1), 1) := by decide +kernel
theorem dX1_sure_15 : decode cX1_sure 15 = .ok (.if_icmp .ne 5, 3) := by decide +kernel
theorem dX1_sure_18 : decode cX1_sure 18 = .ok (.iconst (-1), 1) := by decide +kernel
theorem dX1_sure_19 : decode cX1_sure 19 = .ok (.ireturn, 1) := by decide +kernel
theorem dX1_sure_20 : decode cX1_sure 20 = .ok (.aload_n 0, 1) := by decide +kernel
theorem dX1_sure_21 : decode cX1_sure 21 = .ok (.getfield 21, 3) := by decide +kernel
theorem dX1_sure_24 : decode cX1_sure 24 = .ok (.iload_n 2, 1) := by decide +kernel
theorem dX1_sure_25 : decode cX1_sure 25 = .ok (.iload_n 1, 1) := by decide +kernel
theorem dX1_sure_26 : decode cX1_sure 26 = .ok (.invokevirtual 73, 3) := by decide +kernel
theorem dX1_sure_29 : decode cX1_sure 29 = .ok (.istore_n 3, 1) := by decide +kernel
theorem dX1_sure_30 : decode cX1_sure 30 = .ok (.aload_n 0, 1) := by decide +kernel
theorem dX1_sure_31 : decode cX1_sure 31 = .ok (.iload_n 1, 1) := by decide +kernel
theorem dX1_sure_32 : decode cX1_sure 32 = .ok (.iload_n 3, 1) := by decide +kernel
theorem dX1_sure_33 : decode cX1_sure 33 = .ok (.invokevirtual 138, 3) := by decide +kernel
theorem dX1_sure_36 : decode cX1_sure 36 = .ok (.aload_n 0, 1) := by decide +kernel
theorem dX1_sure_37 : decode cX1_sure 37 = .ok (.getfield 42, 3) := by decide +kernel
theorem dX1_sure_40 : decode cX1_sure 40 = .ok (.invokestatic 87, 3) := by decide +kernel
theorem dX1_sure_43 : decode cX1_sure 43 = .ok (.if_icmp .ne 7, 3) := by decide +kernel
theorem dX1_sure_46 : decode cX1_sure 46 = .ok (.iload_n 3, 1) := by decide +kernel
theorem dX1_sure_47 : decode cX1_sure 47 = .ok (.goto 4, 3) := by decide +kernel
theorem dX1_sure_50 : decode cX1_sure 50 = .ok (.iconst (-1), 1) := by decide +kernel
theorem dX1_sure_51 : decode cX1_sure 51 = .ok (.ireturn, 1) := by decide +kernel
theorem dX1_worst_0 : decode cX1_worst 0 = .ok (.aload_n 0, 1) := by decide +kernel
theorem dX1_worst_1 : decode cX1_worst 1 = .ok (.iload_n 1, 1) := by decide +kernel
theorem dX1_worst_2 : decode cX1_worst 2 = .ok (.invokevirtual 64, 3) := by decide +kernel
theorem dX1_worst_5 : decode cX1_worst 5 = .ok (.aload_n 0, 1) := by decide +kernel
theorem dX1_worst_6 : decode cX1_worst 6 = .ok (.iload_n 1, 1) := by decide +kernel
theorem dX1_worst_7 : decode cX1_worst 7 = .ok (.aload_n 0, 1) := by decide +kernel
theorem dX1_worst_8 : decode cX1_worst 8 = .ok (.getfield 42, 3) := by decide +kernel
theorem dX1_worst_11 : decode cX1_worst 11 = .ok (.invokevirtual 141, 3) := by decide +kernel
theorem dX1_worst_14 : decode cX1_worst 14 = .ok (.ireturn, 1) := by decide +kernel
theorem dX1_parts_0 : decode cX1_parts 0 = .ok (.aload_n 0, 1) := by decide +kernel
theorem dX1_parts_1 : decode cX1_parts 1 = .ok (.iload_n 1, 1) := by decide +kernel
theorem dX1_parts_2 : decode cX1_parts 2 = .ok (.invokevirtual 64, 3) := by decide +kernel
theorem dX1_parts_5 : decode cX1_parts 5 = .ok (.aload_n 0, 1) := by decide +kernel
theorem dX1_parts_6 : decode cX1_parts 6 = .ok (.iload_n 1, 1) := by decide +kernel
theorem dX1_parts_7 : decode cX1_parts 7 = .ok (.aload_n 0, 1) := by decide +kernel
theorem dX1_parts_8 : decode cX1_parts 8 = .ok (.getfield 42, 3) := by decide +kernel
theorem dX1_parts_11 : decode cX1_parts 11 = .ok (.invokevirtual 145, 3) := by decide +kernel
theorem dX1_parts_14 : decode cX1_parts 14 = .ok (.iconst 0, 1) := by decide +kernel
theorem dX1_parts_15 : decode cX1_parts 15 = .ok (.istore_n 2, 1) := by decide +kernel
theorem dX1_parts_16 : decode cX1_parts 16 = .ok (.iconst 0, 1) := by decide +kernel
theorem dX1_parts_17 : decode cX1_parts 17 = .ok (.istore_n 3, 1) := by decide +kernel
theorem dX1_parts_18 : decode cX1_parts 18 = .ok (.iload_n 3, 1) := by decide +kernel
theorem dX1_parts_19 : decode cX1_parts 19 = .ok (.aload_n 0, 1) := by decide +kernel
theorem dX1_parts_20 : decode cX1_parts 20 = .ok (.getfield 48, 3) := by decide +kernel
theorem dX1_parts_23 : decode cX1_parts 23 = .ok (.arraylength, 1) := by decide +kernel
theorem dX1_parts_24 : decode cX1_parts 24 = .ok (.if_icmp .ge 21, 3) := by decide +kernel
theorem dX1_parts_27 : decode cX1_parts 27 = .ok (.aload_n 0, 1) := by decide +kernel
theorem dX1_parts_28 : decode cX1_parts 28 = .ok (.getfield 48, 3) := by decide +kernel
theorem dX1_parts_31 : decode cX1_parts 31 = .ok (.iload_n 3, 1) := by decide +kernel
theorem dX1_parts_32 : decode cX1_parts 32 = .ok (.iaload, 1) := by decide +kernel
theorem dX1_parts_33 : decode cX1_parts 33 = .ok (.ifCond .le 6, 3) := by decide +kernel
theorem dX1_parts_36 : decode cX1_parts 36 = .ok (.iinc 2 1, 3) := by decide +kernel
theorem dX1_parts_39 : decode cX1_parts 39 = .ok (.iinc 3 1, 3) := by decide +kernel
theorem dX1_parts_42 : decode cX1_parts 42 = .ok (.goto (-24), 3) := by decide +kernel
theorem dX1_parts_45 : decode cX1_parts 45 = .ok (.iload_n 2, 1) := by decide +kernel
theorem dX1_parts_46 : decode cX1_parts 46 = .ok (.ireturn, 1) := by decide +kernel
theorem dX1_best_0 : decode cX1_best 0 = .ok (.aload_n 0, 1) := by decide +kernel
theorem dX1_best_1 : decode cX1_best 1 = .ok (.aload_n 0, 1) := by decide +kernel
theorem dX1_best_2 : decode cX1_best 2 = .ok (.getfield 42, 3) := by decide +kernel
theorem dX1_best_5 : decode cX1_best 5 = .ok (.iconst 0, 1) := by decide +kernel
theorem dX1_best_6 : decode cX1_best 6 = .ok (.invokevirtual 149, 3) := by decide +kernel
theorem dX1_best_9 : decode cX1_best 9 = .ok (.ireturn, 1) := by decide +kernel
theorem dX1_takes_0 : decode cX1_takes 0 = .ok (.aload_n 0, 1) := by decide +kernel
theorem dX1_takes_1 : decode cX1_takes 1 = .ok (.iload_n 1, 1) := by decide +kernel
theorem dX1_takes_2 : decode cX1_takes 2 = .ok (.invokevirtual 64, 3) := by decide +kernel
theorem dX1_takes_5 : decode cX1_takes 5 = .ok (.aload_n 0, 1) := by decide +kernel
theorem dX1_takes_6 : decode cX1_takes 6 = .ok (.iload_n 2, 1) := by decide +kernel
theorem dX1_takes_7 : decode cX1_takes 7 = .ok (.invokevirtual 64, 3) := by decide +kernel
theorem dX1_takes_10 : decode cX1_takes 10 = .ok (.iconst 0, 1) := by decide +kernel
theorem dX1_takes_11 : decode cX1_takes 11 = .ok (.istore_n 3, 1) := by decide +kernel
theorem dX1_takes_12 : decode cX1_takes 12 = .ok (.iload_n 3, 1) := by decide +kernel
theorem dX1_takes_13 : decode cX1_takes 13 = .ok (.aload_n 0, 1) := by decide +kernel
theorem dX1_takes_14 : decode cX1_takes 14 = .ok (.getfield 45, 3) := by decide +kernel
theorem dX1_takes_17 : decode cX1_takes 17 = .ok (.arraylength, 1) := by decide +kernel
theorem dX1_takes_18 : decode cX1_takes 18 = .ok (.if_icmp .ge 23, 3) := by decide +kernel
theorem dX1_takes_21 : decode cX1_takes 21 = .ok (.aload_n 0, 1) := by decide +kernel
theorem dX1_takes_22 : decode cX1_takes 22 = .ok (.getfield 45, 3) := by decide +kernel
theorem dX1_takes_25 : decode cX1_takes 25 = .ok (.iload_n 3, 1) := by decide +kernel
theorem dX1_takes_26 : decode cX1_takes 26 = .ok (.aload_n 0, 1) := by decide +kernel
theorem dX1_takes_27 : decode cX1_takes 27 = .ok (.getfield 21, 3) := by decide +kernel
theorem dX1_takes_30 : decode cX1_takes 30 = .ok (.iload_n 3, 1) := by decide +kernel
theorem dX1_takes_31 : decode cX1_takes 31 = .ok (.invokevirtual 153, 3) := by decide +kernel
theorem dX1_takes_34 : decode cX1_takes 34 = .ok (.bastore, 1) := by decide +kernel
theorem dX1_takes_35 : decode cX1_takes 35 = .ok (.iinc 3 1, 3) := by decide +kernel
theorem dX1_takes_38 : decode cX1_takes 38 = .ok (.goto (-26), 3) := by decide +kernel
theorem dX1_takes_41 : decode cX1_takes 41 = .ok (.iconst 1, 1) := by decide +kernel
theorem dX1_takes_42 : decode cX1_takes 42 = .ok (.istore_n 3, 1) := by decide +kernel
theorem dX1_takes_43 : decode cX1_takes 43 = .ok (.iload_n 2, 1) := by decide +kernel
theorem dX1_takes_44 : decode cX1_takes 44 = .ok (.istore 4, 2) := by decide +kernel
theorem dX1_takes_46 : decode cX1_takes 46 = .ok (.iload 4, 2) := by decide +kernel
theorem dX1_takes_48 : decode cX1_takes 48 = .ok (.iload_n 1, 1) := by decide +kernel
theorem dX1_takes_49 : decode cX1_takes 49 = .ok (.if_icmp .eq 46, 3) := by decide +kernel
theorem dX1_takes_52 : decode cX1_takes 52 = .ok (.iload_n 3, 1) := by decide +kernel
theorem dX1_takes_53 : decode cX1_takes 53 = .ok (.bipush 81, 2) := by decide +kernel
theorem dX1_takes_55 : decode cX1_takes 55 = .ok (.if_icmp .gt 40, 3) := by decide +kernel
theorem dX1_takes_58 : decode cX1_takes 58 = .ok (.aload_n 0, 1) := by decide +kernel
theorem dX1_takes_59 : decode cX1_takes 59 = .ok (.aload_n 0, 1) := by decide +kernel
theorem dX1_takes_60 : decode cX1_takes 60 = .ok (.getfield 45, 3) := by decide +kernel
theorem dX1_takes_63 : decode cX1_takes 63 = .ok (.iload 4, 2) := by decide +kernel
theorem dX1_takes_65 : decode cX1_takes 65 = .ok (.aload_n 0, 1) := by decide +kernel
theorem dX1_takes_66 : decode cX1_takes 66 = .ok (.getfield 21, 3) := by decide +kernel
theorem dX1_takes_69 : decode cX1_takes 69 = .ok (.iload 4, 2) := by decide +kernel
theorem dX1_takes_71 : decode cX1_takes 71 = .ok (.iload_n 1, 1) := by decide +kernel
theorem dX1_takes_72 : decode cX1_takes 72 = .ok (.invokevirtual 77, 3) := by decide +kernel
theorem dX1_takes_75 : decode cX1_takes 75 = .ok (.invokevirtual 156, 3) := by decide +kernel
theorem dX1_takes_78 : decode cX1_takes 78 = .ok (.aload_n 0, 1) := by decide +kernel
theorem dX1_takes_79 : decode cX1_takes 79 = .ok (.aload_n 0, 1) := by decide +kernel
theorem dX1_takes_80 : decode cX1_takes 80 = .ok (.getfield 45, 3) := by decide +kernel
theorem dX1_takes_83 : decode cX1_takes 83 = .ok (.iconst 1, 1) := by decide +kernel
theorem dX1_takes_84 : decode cX1_takes 84 = .ok (.invokevirtual 149, 3) := by decide +kernel
theorem dX1_takes_87 : decode cX1_takes 87 = .ok (.istore 4, 2) := by decide +kernel
theorem dX1_takes_89 : decode cX1_takes 89 = .ok (.iinc 3 1, 3) := by decide +kernel
theorem dX1_takes_92 : decode cX1_takes 92 = .ok (.goto (-46), 3) := by decide +kernel
theorem dX1_takes_95 : decode cX1_takes 95 = .ok (.iload_n 3, 1) := by decide +kernel
theorem dX1_takes_96 : decode cX1_takes 96 = .ok (.ireturn, 1) := by decide +kernel
theorem dX1_mean_0 : decode cX1_mean 0 = .ok (.aload_n 0, 1) := by decide +kernel
theorem dX1_mean_1 : decode cX1_mean 1 = .ok (.getfield 28, 3) := by decide +kernel
theorem dX1_mean_4 : decode cX1_mean 4 = .ok (.ifCond .ne 5, 3) := by decide +kernel
theorem dX1_mean_7 : decode cX1_mean 7 = .ok (.dconst 0, 1) := by decide +kernel
theorem dX1_mean_8 : decode cX1_mean 8 = .ok (.dreturn, 1) := by decide +kernel
theorem dX1_mean_9 : decode cX1_mean 9 = .ok (.iconst 0, 1) := by decide +kernel
theorem dX1_mean_10 : decode cX1_mean 10 = .ok (.istore_n 1, 1) := by decide +kernel
theorem dX1_mean_11 : decode cX1_mean 11 = .ok (.iconst 0, 1) := by decide +kernel
theorem dX1_mean_12 : decode cX1_mean 12 = .ok (.istore_n 2, 1) := by decide +kernel
theorem dX1_mean_13 : decode cX1_mean 13 = .ok (.iload_n 2, 1) := by decide +kernel
theorem dX1_mean_14 : decode cX1_mean 14 = .ok (.aload_n 0, 1) := by decide +kernel
theorem dX1_mean_15 : decode cX1_mean 15 = .ok (.getfield 28, 3) := by decide +kernel
theorem dX1_mean_18 : decode cX1_mean 18 = .ok (.if_icmp .ge 29, 3) := by decide +kernel
theorem dX1_mean_21 : decode cX1_mean 21 = .ok (.iload_n 2, 1) := by decide +kernel
theorem dX1_mean_22 : decode cX1_mean 22 = .ok (.aload_n 0, 1) := by decide +kernel
theorem dX1_mean_23 : decode cX1_mean 23 = .ok (.getfield 35, 3) := by decide +kernel
theorem dX1_mean_26 : decode cX1_mean 26 = .ok (.arraylength, 1) := by decide +kernel
theorem dX1_mean_27 : decode cX1_mean 27 = .ok (.if_icmp .ge 20, 3) := by decide +kernel
theorem dX1_mean_30 : decode cX1_mean 30 = .ok (.iload_n 1, 1) := by decide +kernel
theorem dX1_mean_31 : decode cX1_mean 31 = .ok (.aload_n 0, 1) := by decide +kernel
theorem dX1_mean_32 : decode cX1_mean 32 = .ok (.getfield 35, 3) := by decide +kernel
theorem dX1_mean_35 : decode cX1_mean 35 = .ok (.iload_n 2, 1) := by decide +kernel
theorem dX1_mean_36 : decode cX1_mean 36 = .ok (.iaload, 1) := by decide +kernel
theorem dX1_mean_37 : decode cX1_mean 37 = .ok (.iconst 5, 1) := by decide +kernel
theorem dX1_mean_38 : decode cX1_mean 38 = .ok (.idiv, 1) := by decide +kernel
theorem dX1_mean_39 : decode cX1_mean 39 = .ok (.iadd, 1) := by decide +kernel
theorem dX1_mean_40 : decode cX1_mean 40 = .ok (.istore_n 1, 1) := by decide +kernel
theorem dX1_mean_41 : decode cX1_mean 41 = .ok (.iinc 2 1, 3) := by decide +kernel
theorem dX1_mean_44 : decode cX1_mean 44 = .ok (.goto (-31), 3) := by decide +kernel
theorem dX1_mean_47 : decode cX1_mean 47 = .ok (.iload_n 1, 1) := by decide +kernel
theorem dX1_mean_48 : decode cX1_mean 48 = .ok (.i2d, 1) := by decide +kernel
theorem dX1_mean_49 : decode cX1_mean 49 = .ok (.aload_n 0, 1) := by decide +kernel
theorem dX1_mean_50 : decode cX1_mean 50 = .ok (.getfield 28, 3) := by decide +kernel
theorem dX1_mean_53 : decode cX1_mean 53 = .ok (.i2d, 1) := by decide +kernel
theorem dX1_mean_54 : decode cX1_mean 54 = .ok (.ddiv, 1) := by decide +kernel
theorem dX1_mean_55 : decode cX1_mean 55 = .ok (.dreturn, 1) := by decide +kernel
theorem dX1_digest_0 : decode cX1_digest 0 = .ok (.ldc2_w 160, 3) := by decide +kernel
theorem dX1_digest_3 : decode cX1_digest 3 = .ok (.lstore_n 1, 1) := by decide +kernel
theorem dX1_digest_4 : decode cX1_digest 4 = .ok (.iconst 0, 1) := by decide +kernel
theorem dX1_digest_5 : decode cX1_digest 5 = .ok (.istore_n 3, 1) := by decide +kernel
theorem dX1_digest_6 : decode cX1_digest 6 = .ok (.iload_n 3, 1) := by decide +kernel
theorem dX1_digest_7 : decode cX1_digest 7 = .ok (.bipush 7, 2) := by decide +kernel
theorem dX1_digest_9 : decode cX1_digest 9 = .ok (.if_icmp .ge 19, 3) := by decide +kernel
theorem dX1_digest_12 : decode cX1_digest 12 = .ok (.lload_n 1, 1) := by decide +kernel
theorem dX1_digest_13 : decode cX1_digest 13 = .ok (.aload_n 0, 1) := by decide +kernel
theorem dX1_digest_14 : decode cX1_digest 14 = .ok (.iload_n 3, 1) := by decide +kernel
theorem dX1_digest_15 : decode cX1_digest 15 = .ok (.invokevirtual 162, 3) := by decide +kernel
theorem dX1_digest_18 : decode cX1_digest 18 = .ok (.invokestatic 165, 3) := by decide +kernel
theorem dX1_digest_21 : decode cX1_digest 21 = .ok (.lstore_n 1, 1) := by decide +kernel
theorem dX1_digest_22 : decode cX1_digest 22 = .ok (.iinc 3 1, 3) := by decide +kernel
theorem dX1_digest_25 : decode cX1_digest 25 = .ok (.goto (-19), 3) := by decide +kernel
theorem dX1_digest_28 : decode cX1_digest 28 = .ok (.lload_n 1, 1) := by decide +kernel
theorem dX1_digest_29 : decode cX1_digest 29 = .ok (.aload_n 0, 1) := by decide +kernel
theorem dX1_digest_30 : decode cX1_digest 30 = .ok (.getfield 24, 3) := by decide +kernel
theorem dX1_digest_33 : decode cX1_digest 33 = .ok (.invokestatic 165, 3) := by decide +kernel
theorem dX1_digest_36 : decode cX1_digest 36 = .ok (.lstore_n 1, 1) := by decide +kernel
theorem dX1_digest_37 : decode cX1_digest 37 = .ok (.iconst 0, 1) := by decide +kernel
theorem dX1_digest_38 : decode cX1_digest 38 = .ok (.istore_n 3, 1) := by decide +kernel
theorem dX1_digest_39 : decode cX1_digest 39 = .ok (.iload_n 3, 1) := by decide +kernel
theorem dX1_digest_40 : decode cX1_digest 40 = .ok (.aload_n 0, 1) := by decide +kernel
theorem dX1_digest_41 : decode cX1_digest 41 = .ok (.getfield 28, 3) := by decide +kernel
theorem dX1_digest_44 : decode cX1_digest 44 = .ok (.if_icmp .ge 37, 3) := by decide +kernel
theorem dX1_digest_47 : decode cX1_digest 47 = .ok (.iconst 0, 1) := by decide +kernel
theorem dX1_digest_48 : decode cX1_digest 48 = .ok (.istore 4, 2) := by decide +kernel
theorem dX1_digest_50 : decode cX1_digest 50 = .ok (.iload 4, 2) := by decide +kernel
theorem dX1_digest_52 : decode cX1_digest 52 = .ok (.bipush 6, 2) := by decide +kernel
theorem dX1_digest_54 : decode cX1_digest 54 = .ok (.if_icmp .ge 21, 3) := by decide +kernel
theorem dX1_digest_57 : decode cX1_digest 57 = .ok (.lload_n 1, 1) := by decide +kernel
theorem dX1_digest_58 : decode cX1_digest 58 = .ok (.aload_n 0, 1) := by decide +kernel
theorem dX1_digest_59 : decode cX1_digest 59 = .ok (.iload_n 3, 1) := by decide +kernel
theorem dX1_digest_60 : decode cX1_digest 60 = .ok (.iload 4, 2) := by decide +kernel
theorem dX1_digest_62 : decode cX1_digest 62 = .ok (.invokevirtual 169, 3) := by decide +kernel
theorem dX1_digest_65 : decode cX1_digest 65 = .ok (.invokestatic 165, 3) := by decide +kernel
theorem dX1_digest_68 : decode cX1_digest 68 = .ok (.lstore_n 1, 1) := by decide +kernel
theorem dX1_digest_69 : decode cX1_digest 69 = .ok (.iinc 4 1, 3) := by decide +kernel
theorem dX1_digest_72 : decode cX1_digest 72 = .ok (.goto (-22), 3) := by decide +kernel
theorem dX1_digest_75 : decode cX1_digest 75 = .ok (.iinc 3 1, 3) := by decide +kernel
theorem dX1_digest_78 : decode cX1_digest 78 = .ok (.goto (-39), 3) := by decide +kernel
theorem dX1_digest_81 : decode cX1_digest 81 = .ok (.iconst 0, 1) := by decide +kernel
theorem dX1_digest_82 : decode cX1_digest 82 = .ok (.istore_n 3, 1) := by decide +kernel
theorem dX1_digest_83 : decode cX1_digest 83 = .ok (.iload_n 3, 1) := by decide +kernel
theorem dX1_digest_84 : decode cX1_digest 84 = .ok (.iconst 4, 1) := by decide +kernel
theorem dX1_digest_85 : decode cX1_digest 85 = .ok (.if_icmp .ge 52, 3) := by decide +kernel
theorem dX1_digest_88 : decode cX1_digest 88 = .ok (.lload_n 1, 1) := by decide +kernel
theorem dX1_digest_89 : decode cX1_digest 89 = .ok (.aload_n 0, 1) := by decide +kernel
theorem dX1_digest_90 : decode cX1_digest 90 = .ok (.iload_n 3, 1) := by decide +kernel
theorem dX1_digest_91 : decode cX1_digest 91 = .ok (.invokevirtual 172, 3) := by decide +kernel
theorem dX1_digest_94 : decode cX1_digest 94 = .ok (.invokestatic 165, 3) := by decide +kernel
theorem dX1_digest_97 : decode cX1_digest 97 = .ok (.lstore_n 1, 1) := by decide +kernel
theorem dX1_digest_98 : decode cX1_digest 98 = .ok (.iconst 0, 1) := by decide +kernel
theorem dX1_digest_99 : decode cX1_digest 99 = .ok (.istore 4, 2) := by decide +kernel
theorem dX1_digest_101 : decode cX1_digest 101 = .ok (.iload 4, 2) := by decide +kernel
theorem dX1_digest_103 : decode cX1_digest 103 = .ok (.aload_n 0, 1) := by decide +kernel
theorem dX1_digest_104 : decode cX1_digest 104 = .ok (.getfield 21, 3) := by decide +kernel
theorem dX1_digest_107 : decode cX1_digest 107 = .ok (.getfield 61, 3) := by decide +kernel
theorem dX1_digest_110 : decode cX1_digest 110 = .ok (.if_icmp .ge 21, 3) := by decide +kernel
theorem dX1_digest_113 : decode cX1_digest 113 = .ok (.lload_n 1, 1) := by decide +kernel
theorem dX1_digest_114 : decode cX1_digest 114 = .ok (.aload_n 0, 1) := by decide +kernel
theorem dX1_digest_115 : decode cX1_digest 115 = .ok (.iload_n 3, 1) := by decide +kernel
theorem dX1_digest_116 : decode cX1_digest 116 = .ok (.iload 4, 2) := by decide +kernel
theorem dX1_digest_118 : decode cX1_digest 118 = .ok (.invokevirtual 175, 3) := by decide +kernel
theorem dX1_digest_121 : decode cX1_digest 121 = .ok (.invokestatic 165, 3) := by decide +kernel
theorem dX1_digest_124 : decode cX1_digest 124 = .ok (.lstore_n 1, 1) := by decide +kernel
theorem dX1_digest_125 : decode cX1_digest 125 = .ok (.iinc 4 1, 3) := by decide +kernel
theorem dX1_digest_128 : decode cX1_digest 128 = .ok (.goto (-27), 3) := by decide +kernel
theorem dX1_digest_131 : decode cX1_digest 131 = .ok (.iinc 3 1, 3) := by decide +kernel
theorem dX1_digest_134 : decode cX1_digest 134 = .ok (.goto (-51), 3) := by decide +kernel
theorem dX1_digest_137 : decode cX1_digest 137 = .ok (.iconst 0, 1) := by decide +kernel
theorem dX1_digest_138 : decode cX1_digest 138 = .ok (.istore_n 3, 1) := by decide +kernel
theorem dX1_digest_139 : decode cX1_digest 139 = .ok (.iload_n 3, 1) := by decide +kernel
theorem dX1_digest_140 : decode cX1_digest 140 = .ok (.aload_n 0, 1) := by decide +kernel
theorem dX1_digest_141 : decode cX1_digest 141 = .ok (.getfield 42, 3) := by decide +kernel
theorem dX1_digest_144 : decode cX1_digest 144 = .ok (.arraylength, 1) := by decide +kernel
theorem dX1_digest_145 : decode cX1_digest 145 = .ok (.if_icmp .ge 24, 3) := by decide +kernel
theorem dX1_digest_148 : decode cX1_digest 148 = .ok (.aload_n 0, 1) := by decide +kernel
theorem dX1_digest_149 : decode cX1_digest 149 = .ok (.getfield 42, 3) := by decide +kernel
theorem dX1_digest_152 : decode cX1_digest 152 = .ok (.iload_n 3, 1) := by decide +kernel
theorem dX1_digest_153 : decode cX1_digest 153 = .ok (.baload, 1) := by decide +kernel
theorem dX1_digest_154 : decode cX1_digest 154 = .ok (.ifCond .eq 9, 3) := by decide +kernel
theorem dX1_digest_157 : decode cX1_digest 157 = .ok (.lload_n 1, 1) := by decide +kernel
theorem dX1_digest_158 : decode cX1_digest 158 = .ok (.iload_n 3, 1) := by decide +kernel
theorem dX1_digest_159 : decode cX1_digest 159 = .ok (.invokestatic 165, 3) := by decide +kernel
theorem dX1_digest_162 : decode cX1_digest 162 = .ok (.lstore_n 1, 1) := by decide +kernel
theorem dX1_digest_163 : decode cX1_digest 163 = .ok (.iinc 3 1, 3) := by decide +kernel
theorem dX1_digest_166 : decode cX1_digest 166 = .ok (.goto (-27), 3) := by decide +kernel
theorem dX1_digest_169 : decode cX1_digest 169 = .ok (.lload_n 1, 1) := by decide +kernel
theorem dX1_digest_170 : decode cX1_digest 170 = .ok (.lreturn, 1) := by decide +kernel
theorem dX1_mix_0 : decode cX1_mix 0 = .ok (.lload_n 0, 1) := by decide +kernel
theorem dX1_mix_1 : decode cX1_mix 1 = .ok (.ldc2_w 178, 3) := by decide +kernel
theorem dX1_mix_4 : decode cX1_mix 4 = .ok (.lmul, 1) := by decide +kernel
theorem dX1_mix_5 : decode cX1_mix 5 = .ok (.iload_n 2, 1) := by decide +kernel
theorem dX1_mix_6 : decode cX1_mix 6 = .ok (.i2l, 1) := by decide +kernel
theorem dX1_mix_7 : decode cX1_mix 7 = .ok (.ladd, 1) := by decide +kernel
theorem dX1_mix_8 : decode cX1_mix 8 = .ok (.lreturn, 1) := by decide +kernel
theorem dX1_needCode_0 : decode cX1_needCode 0 = .ok (.aload_n 0, 1) := by decide +kernel
theorem dX1_needCode_1 : decode cX1_needCode 1 = .ok (.getfield 21, 3) := by decide +kernel
theorem dX1_needCode_4 : decode cX1_needCode 4 = .ok (.iload_n 1, 1) := by decide +kernel
theorem dX1_needCode_5 : decode cX1_needCode 5 = .ok (.invokevirtual 153, 3) := by decide +kernel
theorem dX1_needCode_8 : decode cX1_needCode 8 = .ok (.ifCond .ne 13, 3) := by decide +kernel
theorem dX1_needCode_11 : decode cX1_needCode 11 = .ok (.new 95, 3) := by decide +kernel
theorem dX1_needCode_14 : decode cX1_needCode 14 = .ok (.dup, 1) := by decide +kernel
theorem dX1_needCode_15 : decode cX1_needCode 15 = .ok (.ldc 180, 2) := by decide +kernel
theorem dX1_needCode_17 : decode cX1_needCode 17 = .ok (.invokespecial 99, 3) := by decide +kernel
theorem dX1_needCode_20 : decode cX1_needCode 20 = .ok (.athrow, 1) := by decide +kernel
theorem dX1_needCode_21 : decode cX1_needCode 21 = .ok (.return_, 1) := by decide +kernel
theorem dX1_needPlace_0 : decode cX1_needPlace 0 = .ok (.iload_n 0, 1) := by decide +kernel
theorem dX1_needPlace_1 : decode cX1_needPlace 1 = .ok (.ifCond .lt 8, 3) := by decide +kernel
theorem dX1_needPlace_4 : decode cX1_needPlace 4 = .ok (.iload_n 0, 1) := by decide +kernel
theorem dX1_needPlace_5 : decode cX1_needPlace 5 = .ok (.iconst 4, 1) := by decide +kernel
theorem dX1_needPlace_6 : decode cX1_needPlace 6 = .ok (.if_icmp .lt 13, 3) := by decide +kernel
theorem dX1_needPlace_9 : decode cX1_needPlace 9 = .ok (.new 95, 3) := by decide +kernel
theorem dX1_needPlace_12 : decode cX1_needPlace 12 = .ok (.dup, 1) := by decide +kernel
theorem dX1_needPlace_13 : decode cX1_needPlace 13 = .ok (.ldc 182, 2) := by decide +kernel
theorem dX1_needPlace_15 : decode cX1_needPlace 15 = .ok (.invokespecial 99, 3) := by decide +kernel
theorem dX1_needPlace_18 : decode cX1_needPlace 18 = .ok (.athrow, 1) := by decide +kernel
theorem dX1_needPlace_19 : decode cX1_needPlace 19 = .ok (.return_, 1) := by decide +kernel
theorem dX1_needHidden_0 : decode cX1_needHidden 0 = .ok (.aload_n 0, 1) := by decide +kernel
theorem dX1_needHidden_1 : decode cX1_needHidden 1 = .ok (.getfield 24, 3) := by decide +kernel
theorem dX1_needHidden_4 : decode cX1_needHidden 4 = .ok (.iconst (-1), 1) := by decide +kernel
theorem dX1_needHidden_5 : decode cX1_needHidden 5 = .ok (.if_icmp .ne 13, 3) := by decide +kernel
theorem dX1_needHidden_8 : decode cX1_needHidden 8 = .ok (.new 100, 3) := by decide +kernel
theorem dX1_needHidden_11 : decode cX1_needHidden 11 = .ok (.dup, 1) := by decide +kernel
theorem dX1_needHidden_12 : decode cX1_needHidden 12 = .ok (.ldc 184, 2) := by decide +kernel
theorem dX1_needHidden_14 : decode cX1_needHidden 14 = .ok (.invokespecial 104, 3) := by decide +kernel
theorem dX1_needHidden_17 : decode cX1_needHidden 17 = .ok (.athrow, 1) := by decide +kernel
theorem dX1_needHidden_18 : decode cX1_needHidden 18 = .ok (.return_, 1) := by decide +kernel
theorem dX1_needPins_0 : decode cX1_needPins 0 = .ok (.iload_n 0, 1) := by decide +kernel
theorem dX1_needPins_1 : decode cX1_needPins 1 = .ok (.ifCond .lt 14, 3) := by decide +kernel
theorem dX1_needPins_4 : decode cX1_needPins 4 = .ok (.iload_n 1, 1) := by decide +kernel
theorem dX1_needPins_5 : decode cX1_needPins 5 = .ok (.ifCond .lt 10, 3) := by decide +kernel
theorem dX1_needPins_8 : decode cX1_needPins 8 = .ok (.iload_n 1, 1) := by decide +kernel
theorem dX1_needPins_9 : decode cX1_needPins 9 = .ok (.iconst 4, 1) := by decide +kernel
theorem dX1_needPins_10 : decode cX1_needPins 10 = .ok (.iload_n 0, 1) := by decide +kernel
theorem dX1_needPins_11 : decode cX1_needPins 11 = .ok (.isub, 1) := by decide +kernel
theorem dX1_needPins_12 : decode cX1_needPins 12 = .ok (.if_icmp .le 13, 3) := by decide +kernel
theorem dX1_needPins_15 : decode cX1_needPins 15 = .ok (.new 54, 3) := by decide +kernel
theorem dX1_needPins_18 : decode cX1_needPins 18 = .ok (.dup, 1) := by decide +kernel
theorem dX1_needPins_19 : decode cX1_needPins 19 = .ok (.ldc 186, 2) := by decide +kernel
theorem dX1_needPins_21 : decode cX1_needPins 21 = .ok (.invokespecial 58, 3) := by decide +kernel
theorem dX1_needPins_24 : decode cX1_needPins 24 = .ok (.athrow, 1) := by decide +kernel
theorem dX1_needPins_25 : decode cX1_needPins 25 = .ok (.iload_n 0, 1) := by decide +kernel
theorem dX1_needPins_26 : decode cX1_needPins 26 = .ok (.iconst 3, 1) := by decide +kernel
theorem dX1_needPins_27 : decode cX1_needPins 27 = .ok (.if_icmp .ne 18, 3) := by decide +kernel
theorem dX1_needPins_30 : decode cX1_needPins 30 = .ok (.iload_n 1, 1) := by decide +kernel
theorem dX1_needPins_31 : decode cX1_needPins 31 = .ok (.iconst 1, 1) := by decide +kernel
theorem dX1_needPins_32 : decode cX1_needPins 32 = .ok (.if_icmp .ne 13, 3) := by decide +kernel
theorem dX1_needPins_35 : decode cX1_needPins 35 = .ok (.new 54, 3) := by decide +kernel
theorem dX1_needPins_38 : decode cX1_needPins 38 = .ok (.dup, 1) := by decide +kernel
theorem dX1_needPins_39 : decode cX1_needPins 39 = .ok (.ldc 188, 2) := by decide +kernel
theorem dX1_needPins_41 : decode cX1_needPins 41 = .ok (.invokespecial 58, 3) := by decide +kernel
theorem dX1_needPins_44 : decode cX1_needPins 44 = .ok (.athrow, 1) := by decide +kernel
theorem dX1_needPins_45 : decode cX1_needPins 45 = .ok (.return_, 1) := by decide +kernel
theorem dX1_hasGuess_0 : decode cX1_hasGuess 0 = .ok (.iload_n 1, 1) := by decide +kernel
theorem dX1_hasGuess_1 : decode cX1_hasGuess 1 = .ok (.ifCond .lt 21, 3) := by decide +kernel
theorem dX1_hasGuess_4 : decode cX1_hasGuess 4 = .ok (.iload_n 1, 1) := by decide +kernel
theorem dX1_hasGuess_5 : decode cX1_hasGuess 5 = .ok (.aload_n 0, 1) := by decide +kernel
theorem dX1_hasGuess_6 : decode cX1_hasGuess 6 = .ok (.getfield 28, 3) := by decide +kernel
theorem dX1_hasGuess_9 : decode cX1_hasGuess 9 = .ok (.if_icmp .ge 13, 3) := by decide +kernel
theorem dX1_hasGuess_12 : decode cX1_hasGuess 12 = .ok (.iload_n 1, 1) := by decide +kernel
theorem dX1_hasGuess_13 : decode cX1_hasGuess 13 = .ok (.bipush 12, 2) := by decide +kernel
theorem dX1_hasGuess_15 : decode cX1_hasGuess 15 = .ok (.if_icmp .ge 7, 3) := by decide +kernel
theorem dX1_hasGuess_18 : decode cX1_hasGuess 18 = .ok (.iconst 1, 1) := by decide +kernel
theorem dX1_hasGuess_19 : decode cX1_hasGuess 19 = .ok (.goto 4, 3) := by decide +kernel
theorem dX1_hasGuess_22 : decode cX1_hasGuess 22 = .ok (.iconst 0, 1) := by decide +kernel
theorem dX1_hasGuess_23 : decode cX1_hasGuess 23 = .ok (.ireturn, 1) := by decide +kernel
theorem dX1_append_0 : decode cX1_append 0 = .ok (.aload_n 0, 1) := by decide +kernel
theorem dX1_append_1 : decode cX1_append 1 = .ok (.getfield 28, 3) := by decide +kernel
theorem dX1_append_4 : decode cX1_append 4 = .ok (.istore_n 3, 1) := by decide +kernel
theorem dX1_append_5 : decode cX1_append 5 = .ok (.iload_n 3, 1) := by decide +kernel
theorem dX1_append_6 : decode cX1_append 6 = .ok (.ifCond .lt 9, 3) := by decide +kernel
theorem dX1_append_9 : decode cX1_append 9 = .ok (.iload_n 3, 1) := by decide +kernel
theorem dX1_append_10 : decode cX1_append 10 = .ok (.bipush 12, 2) := by decide +kernel
theorem dX1_append_12 : decode cX1_append 12 = .ok (.if_icmp .lt 13, 3) := by decide +kernel
theorem dX1_append_15 : decode cX1_append 15 = .ok (.new 100, 3) := by decide +kernel
theorem dX1_append_18 : decode cX1_append 18 = .ok (.dup, 1) := by decide +kernel
theorem dX1_append_19 : decode cX1_append 19 = .ok (.ldc 190, 2) := by decide +kernel
theorem dX1_append_21 : decode cX1_append 21 = .ok (.invokespecial 104, 3) := by decide +kernel
theorem dX1_append_24 : decode cX1_append 24 = .ok (.athrow, 1) := by decide +kernel
theorem dX1_append_25 : decode cX1_append 25 = .ok (.aload_n 0, 1) := by decide +kernel
theorem dX1_append_26 : decode cX1_append 26 = .ok (.getfield 31, 3) := by decide +kernel
theorem dX1_append_29 : decode cX1_append 29 = .ok (.iload_n 3, 1) := by decide +kernel
theorem dX1_append_30 : decode cX1_append 30 = .ok (.iload_n 1, 1) := by decide +kernel
theorem dX1_append_31 : decode cX1_append 31 = .ok (.iastore, 1) := by decide +kernel
theorem dX1_append_32 : decode cX1_append 32 = .ok (.aload_n 0, 1) := by decide +kernel
theorem dX1_append_33 : decode cX1_append 33 = .ok (.getfield 35, 3) := by decide +kernel
theorem dX1_append_36 : decode cX1_append 36 = .ok (.iload_n 3, 1) := by decide +kernel
theorem dX1_append_37 : decode cX1_append 37 = .ok (.iload_n 2, 1) := by decide +kernel
theorem dX1_append_38 : decode cX1_append 38 = .ok (.iastore, 1) := by decide +kernel
theorem dX1_append_39 : decode cX1_append 39 = .ok (.aload_n 0, 1) := by decide +kernel
theorem dX1_append_40 : decode cX1_append 40 = .ok (.getfield 38, 3) := by decide +kernel
theorem dX1_append_43 : decode cX1_append 43 = .ok (.iload_n 3, 1) := by decide +kernel
theorem dX1_append_44 : decode cX1_append 44 = .ok (.iconst 0, 1) := by decide +kernel
theorem dX1_append_45 : decode cX1_append 45 = .ok (.bastore, 1) := by decide +kernel
theorem dX1_append_46 : decode cX1_append 46 = .ok (.aload_n 0, 1) := by decide +kernel
theorem dX1_append_47 : decode cX1_append 47 = .ok (.iload_n 3, 1) := by decide +kernel
theorem dX1_append_48 : decode cX1_append 48 = .ok (.iconst 1, 1) := by decide +kernel
theorem dX1_append_49 : decode cX1_append 49 = .ok (.iadd, 1) := by decide +kernel
theorem dX1_append_50 : decode cX1_append 50 = .ok (.putfield 28, 3) := by decide +kernel
theorem dX1_append_53 : decode cX1_append 53 = .ok (.aload_n 0, 1) := by decide +kernel
theorem dX1_append_54 : decode cX1_append 54 = .ok (.invokevirtual 51, 3) := by decide +kernel
theorem dX1_append_57 : decode cX1_append 57 = .ok (.return_, 1) := by decide +kernel
theorem dX1_sieve_0 : decode cX1_sieve 0 = .ok (.iconst 0, 1) := by decide +kernel
theorem dX1_sieve_1 : decode cX1_sieve 1 = .ok (.istore_n 1, 1) := by decide +kernel
theorem dX1_sieve_2 : decode cX1_sieve 2 = .ok (.iload_n 1, 1) := by decide +kernel
theorem dX1_sieve_3 : decode cX1_sieve 3 = .ok (.aload_n 0, 1) := by decide +kernel
theorem dX1_sieve_4 : decode cX1_sieve 4 = .ok (.getfield 42, 3) := by decide +kernel
theorem dX1_sieve_7 : decode cX1_sieve 7 = .ok (.arraylength, 1) := by decide +kernel
theorem dX1_sieve_8 : decode cX1_sieve 8 = .ok (.if_icmp .ge 43, 3) := by decide +kernel
theorem dX1_sieve_11 : decode cX1_sieve 11 = .ok (.aload_n 0, 1) := by decide +kernel
theorem dX1_sieve_12 : decode cX1_sieve 12 = .ok (.getfield 42, 3) := by decide +kernel
theorem dX1_sieve_15 : decode cX1_sieve 15 = .ok (.iload_n 1, 1) := by decide +kernel
theorem dX1_sieve_16 : decode cX1_sieve 16 = .ok (.aload_n 0, 1) := by decide +kernel
theorem dX1_sieve_17 : decode cX1_sieve 17 = .ok (.getfield 21, 3) := by decide +kernel
theorem dX1_sieve_20 : decode cX1_sieve 20 = .ok (.iload_n 1, 1) := by decide +kernel
theorem dX1_sieve_21 : decode cX1_sieve 21 = .ok (.invokevirtual 153, 3) := by decide +kernel
theorem dX1_sieve_24 : decode cX1_sieve 24 = .ok (.ifCond .eq 19, 3) := by decide +kernel
theorem dX1_sieve_27 : decode cX1_sieve 27 = .ok (.aload_n 0, 1) := by decide +kernel
theorem dX1_sieve_28 : decode cX1_sieve 28 = .ok (.iload_n 1, 1) := by decide +kernel
theorem dX1_sieve_29 : decode cX1_sieve 29 = .ok (.aload_n 0, 1) := by decide +kernel
theorem dX1_sieve_30 : decode cX1_sieve 30 = .ok (.getfield 28, 3) := by decide +kernel
theorem dX1_sieve_33 : decode cX1_sieve 33 = .ok (.invokevirtual 192, 3) := by decide +kernel
theorem dX1_sieve_36 : decode cX1_sieve 36 = .ok (.ifCond .eq 7, 3) := by decide +kernel
theorem dX1_sieve_39 : decode cX1_sieve 39 = .ok (.iconst 1, 1) := by decide +kernel
theorem dX1_sieve_40 : decode cX1_sieve 40 = .ok (.goto 4, 3) := by decide +kernel
theorem dX1_sieve_43 : decode cX1_sieve 43 = .ok (.iconst 0, 1) := by decide +kernel
theorem dX1_sieve_44 : decode cX1_sieve 44 = .ok (.bastore, 1) := by decide +kernel
theorem dX1_sieve_45 : decode cX1_sieve 45 = .ok (.iinc 1 1, 3) := by decide +kernel
theorem dX1_sieve_48 : decode cX1_sieve 48 = .ok (.goto (-46), 3) := by decide +kernel
theorem dX1_sieve_51 : decode cX1_sieve 51 = .ok (.return_, 1) := by decide +kernel
theorem dX1_fits_0 : decode cX1_fits 0 = .ok (.iconst 0, 1) := by decide +kernel
theorem dX1_fits_1 : decode cX1_fits 1 = .ok (.istore_n 3, 1) := by decide +kernel
theorem dX1_fits_2 : decode cX1_fits 2 = .ok (.iload_n 3, 1) := by decide +kernel
theorem dX1_fits_3 : decode cX1_fits 3 = .ok (.iload_n 2, 1) := by decide +kernel
theorem dX1_fits_4 : decode cX1_fits 4 = .ok (.if_icmp .ge 49, 3) := by decide +kernel
theorem dX1_fits_7 : decode cX1_fits 7 = .ok (.iload_n 3, 1) := by decide +kernel
theorem dX1_fits_8 : decode cX1_fits 8 = .ok (.bipush 12, 2) := by decide +kernel
theorem dX1_fits_10 : decode cX1_fits 10 = .ok (.if_icmp .ge 43, 3) := by decide +kernel
theorem dX1_fits_13 : decode cX1_fits 13 = .ok (.aload_n 0, 1) := by decide +kernel
theorem dX1_fits_14 : decode cX1_fits 14 = .ok (.getfield 38, 3) := by decide +kernel
theorem dX1_fits_17 : decode cX1_fits 17 = .ok (.iload_n 3, 1) := by decide +kernel
theorem dX1_fits_18 : decode cX1_fits 18 = .ok (.baload, 1) := by decide +kernel
theorem dX1_fits_19 : decode cX1_fits 19 = .ok (.ifCond .ne 28, 3) := by decide +kernel
theorem dX1_fits_22 : decode cX1_fits 22 = .ok (.aload_n 0, 1) := by decide +kernel
theorem dX1_fits_23 : decode cX1_fits 23 = .ok (.getfield 21, 3) := by decide +kernel
theorem dX1_fits_26 : decode cX1_fits 26 = .ok (.aload_n 0, 1) := by decide +kernel
theorem dX1_fits_27 : decode cX1_fits 27 = .ok (.getfield 31, 3) := by decide +kernel
theorem dX1_fits_30 : decode cX1_fits 30 = .ok (.iload_n 3, 1) := by decide +kernel
theorem dX1_fits_31 : decode cX1_fits 31 = .ok (.iaload, 1) := by decide +kernel
theorem dX1_fits_32 : decode cX1_fits 32 = .ok (.iload_n 1, 1) := by decide +kernel
theorem dX1_fits_33 : decode cX1_fits 33 = .ok (.invokevirtual 77, 3) := by decide +kernel
theorem dX1_fits_36 : decode cX1_fits 36 = .ok (.aload_n 0, 1) := by decide +kernel
theorem dX1_fits_37 : decode cX1_fits 37 = .ok (.getfield 35, 3) := by decide +kernel
theorem dX1_fits_40 : decode cX1_fits 40 = .ok (.iload_n 3, 1) := by decide +kernel
theorem dX1_fits_41 : decode cX1_fits 41 = .ok (.iaload, 1) := by decide +kernel
theorem dX1_fits_42 : decode cX1_fits 42 = .ok (.if_icmp .eq 5, 3) := by decide +kernel
theorem dX1_fits_45 : decode cX1_fits 45 = .ok (.iconst 0, 1) := by decide +kernel
theorem dX1_fits_46 : decode cX1_fits 46 = .ok (.ireturn, 1) := by decide +kernel
theorem dX1_fits_47 : decode cX1_fits 47 = .ok (.iinc 3 1, 3) := by decide +kernel
theorem dX1_fits_50 : decode cX1_fits 50 = .ok (.goto (-48), 3) := by decide +kernel
theorem dX1_fits_53 : decode cX1_fits 53 = .ok (.iconst 1, 1) := by decide +kernel
theorem dX1_fits_54 : decode cX1_fits 54 = .ok (.ireturn, 1) := by decide +kernel
theorem dX1_countFitting_0 : decode cX1_countFitting 0 = .ok (.iconst 0, 1) := by decide +kernel
theorem dX1_countFitting_1 : decode cX1_countFitting 1 = .ok (.istore_n 2, 1) := by decide +kernel
theorem dX1_countFitting_2 : decode cX1_countFitting 2 = .ok (.iconst 0, 1) := by decide +kernel
theorem dX1_countFitting_3 : decode cX1_countFitting 3 = .ok (.istore_n 3, 1) := by decide +kernel
theorem dX1_countFitting_4 : decode cX1_countFitting 4 = .ok (.iload_n 3, 1) := by decide +kernel
theorem dX1_countFitting_5 : decode cX1_countFitting 5 = .ok (.aload_n 0, 1) := by decide +kernel
theorem dX1_countFitting_6 : decode cX1_countFitting 6 = .ok (.getfield 21, 3) := by decide +kernel
theorem dX1_countFitting_9 : decode cX1_countFitting 9 = .ok (.getfield 114, 3) := by decide +kernel
theorem dX1_countFitting_12 : decode cX1_countFitting 12 = .ok (.if_icmp .ge 21, 3) := by decide +kernel
theorem dX1_countFitting_15 : decode cX1_countFitting 15 = .ok (.aload_n 0, 1) := by decide +kernel
theorem dX1_countFitting_16 : decode cX1_countFitting 16 = .ok (.iload_n 3, 1) := by decide +kernel
theorem dX1_countFitting_17 : decode cX1_countFitting 17 = .ok (.iload_n 1, 1) := by decide +kernel
theorem dX1_countFitting_18 : decode cX1_countFitting 18 = .ok (.invokevirtual 192, 3) := by decide +kernel
theorem dX1_countFitting_21 : decode cX1_countFitting 21 = .ok (.ifCond .eq 6, 3) := by decide +kernel
theorem dX1_countFitting_24 : decode cX1_countFitting 24 = .ok (.iinc 2 1, 3) := by decide +kernel
theorem dX1_countFitting_27 : decode cX1_countFitting 27 = .ok (.iinc 3 1, 3) := by decide +kernel
theorem dX1_countFitting_30 : decode cX1_countFitting 30 = .ok (.goto (-26), 3) := by decide +kernel
theorem dX1_countFitting_33 : decode cX1_countFitting 33 = .ok (.iload_n 2, 1) := by decide +kernel
theorem dX1_countFitting_34 : decode cX1_countFitting 34 = .ok (.ireturn, 1) := by decide +kernel
theorem dX1_countAnswering_0 : decode cX1_countAnswering 0 = .ok (.iconst 0, 1) := by decide +kernel
theorem dX1_countAnswering_1 : decode cX1_countAnswering 1 = .ok (.istore_n 3, 1) := by decide +kernel
theorem dX1_countAnswering_2 : decode cX1_countAnswering 2 = .ok (.iconst 0, 1) := by decide +kernel
theorem dX1_countAnswering_3 : decode cX1_countAnswering 3 = .ok (.istore 4, 2) := by decide +kernel
theorem dX1_countAnswering_5 : decode cX1_countAnswering 5 = .ok (.iload 4, 2) := by decide +kernel
theorem dX1_countAnswering_7 : decode cX1_countAnswering 7 = .ok (.aload_n 0, 1) := by decide +kernel
theorem dX1_countAnswering_8 : decode cX1_countAnswering 8 = .ok (.getfield 21, 3) := by decide +kernel
theorem dX1_countAnswering_11 : decode cX1_countAnswering 11 = .ok (.getfield 114, 3) := by decide +kernel
theorem dX1_countAnswering_14 : decode cX1_countAnswering 14 = .ok (.if_icmp .ge 26, 3) := by decide +kernel
theorem dX1_countAnswering_17 : decode cX1_countAnswering 17 = .ok (.aload_n 0, 1) := by decide +kernel
theorem dX1_countAnswering_18 : decode cX1_countAnswering 18 = .ok (.getfield 21, 3) := by decide +kernel
theorem dX1_countAnswering_21 : decode cX1_countAnswering 21 = .ok (.iload_n 1, 1) := by decide +kernel
theorem dX1_countAnswering_22 : decode cX1_countAnswering 22 = .ok (.iload 4, 2) := by decide +kernel
theorem dX1_countAnswering_24 : decode cX1_countAnswering 24 = .ok (.invokevirtual 77, 3) := by decide +kernel
theorem dX1_countAnswering_27 : decode cX1_countAnswering 27 = .ok (.iload_n 2, 1) := by decide +kernel
theorem dX1_countAnswering_28 : decode cX1_countAnswering 28 = .ok (.if_icmp .ne 6, 3) := by decide +kernel
theorem dX1_countAnswering_31 : decode cX1_countAnswering 31 = .ok (.iinc 3 1, 3) := by decide +kernel
theorem dX1_countAnswering_34 : decode cX1_countAnswering 34 = .ok (.iinc 4 1, 3) := by decide +kernel
theorem dX1_countAnswering_37 : decode cX1_countAnswering 37 = .ok (.goto (-32), 3) := by decide +kernel
theorem dX1_countAnswering_40 : decode cX1_countAnswering 40 = .ok (.iload_n 3, 1) := by decide +kernel
theorem dX1_countAnswering_41 : decode cX1_countAnswering 41 = .ok (.ireturn, 1) := by decide +kernel
theorem dX1_countAllBlack_0 : decode cX1_countAllBlack 0 = .ok (.iconst 0, 1) := by decide +kernel
theorem dX1_countAllBlack_1 : decode cX1_countAllBlack 1 = .ok (.istore_n 1, 1) := by decide +kernel
theorem dX1_countAllBlack_2 : decode cX1_countAllBlack 2 = .ok (.iconst 0, 1) := by decide +kernel
theorem dX1_countAllBlack_3 : decode cX1_countAllBlack 3 = .ok (.istore_n 2, 1) := by decide +kernel
theorem dX1_countAllBlack_4 : decode cX1_countAllBlack 4 = .ok (.iload_n 2, 1) := by decide +kernel
theorem dX1_countAllBlack_5 : decode cX1_countAllBlack 5 = .ok (.aload_n 0, 1) := by decide +kernel
theorem dX1_countAllBlack_6 : decode cX1_countAllBlack 6 = .ok (.getfield 28, 3) := by decide +kernel
theorem dX1_countAllBlack_9 : decode cX1_countAllBlack 9 = .ok (.if_icmp .ge 32, 3) := by decide +kernel
theorem dX1_countAllBlack_12 : decode cX1_countAllBlack 12 = .ok (.iload_n 2, 1) := by decide +kernel
theorem dX1_countAllBlack_13 : decode cX1_countAllBlack 13 = .ok (.aload_n 0, 1) := by decide +kernel
theorem dX1_countAllBlack_14 : decode cX1_countAllBlack 14 = .ok (.getfield 35, 3) := by decide +kernel
theorem dX1_countAllBlack_17 : decode cX1_countAllBlack 17 = .ok (.arraylength, 1) := by decide +kernel
theorem dX1_countAllBlack_18 : decode cX1_countAllBlack 18 = .ok (.if_icmp .ge 23, 3) := by decide +kernel
theorem dX1_countAllBlack_21 : decode cX1_countAllBlack 21 = .ok (.aload_n 0, 1) := by decide +kernel
theorem dX1_countAllBlack_22 : decode cX1_countAllBlack 22 = .ok (.getfield 35, 3) := by decide +kernel
theorem dX1_countAllBlack_25 : decode cX1_countAllBlack 25 = .ok (.iload_n 2, 1) := by decide +kernel
theorem dX1_countAllBlack_26 : decode cX1_countAllBlack 26 = .ok (.iaload, 1) := by decide +kernel
theorem dX1_countAllBlack_27 : decode cX1_countAllBlack 27 = .ok (.bipush 20, 2) := by decide +kernel
theorem dX1_countAllBlack_29 : decode cX1_countAllBlack 29 = .ok (.if_icmp .ne 6, 3) := by decide +kernel
theorem dX1_countAllBlack_32 : decode cX1_countAllBlack 32 = .ok (.iinc 1 1, 3) := by decide +kernel
theorem dX1_countAllBlack_35 : decode cX1_countAllBlack 35 = .ok (.iinc 2 1, 3) := by decide +kernel
theorem dX1_countAllBlack_38 : decode cX1_countAllBlack 38 = .ok (.goto (-34), 3) := by decide +kernel
theorem dX1_countAllBlack_41 : decode cX1_countAllBlack 41 = .ok (.iload_n 1, 1) := by decide +kernel
theorem dX1_countAllBlack_42 : decode cX1_countAllBlack 42 = .ok (.ireturn, 1) := by decide +kernel
theorem dX1_countDoubted_0 : decode cX1_countDoubted 0 = .ok (.iconst 0, 1) := by decide +kernel
theorem dX1_countDoubted_1 : decode cX1_countDoubted 1 = .ok (.istore_n 1, 1) := by decide +kernel
theorem dX1_countDoubted_2 : decode cX1_countDoubted 2 = .ok (.iconst 0, 1) := by decide +kernel
theorem dX1_countDoubted_3 : decode cX1_countDoubted 3 = .ok (.istore_n 2, 1) := by decide +kernel
theorem dX1_countDoubted_4 : decode cX1_countDoubted 4 = .ok (.iload_n 2, 1) := by decide +kernel
theorem dX1_countDoubted_5 : decode cX1_countDoubted 5 = .ok (.aload_n 0, 1) := by decide +kernel
theorem dX1_countDoubted_6 : decode cX1_countDoubted 6 = .ok (.getfield 28, 3) := by decide +kernel
theorem dX1_countDoubted_9 : decode cX1_countDoubted 9 = .ok (.if_icmp .ge 30, 3) := by decide +kernel
theorem dX1_countDoubted_12 : decode cX1_countDoubted 12 = .ok (.iload_n 2, 1) := by decide +kernel
theorem dX1_countDoubted_13 : decode cX1_countDoubted 13 = .ok (.aload_n 0, 1) := by decide +kernel
theorem dX1_countDoubted_14 : decode cX1_countDoubted 14 = .ok (.getfield 38, 3) := by decide +kernel
theorem dX1_countDoubted_17 : decode cX1_countDoubted 17 = .ok (.arraylength, 1) := by decide +kernel
theorem dX1_countDoubted_18 : decode cX1_countDoubted 18 = .ok (.if_icmp .ge 21, 3) := by decide +kernel
theorem dX1_countDoubted_21 : decode cX1_countDoubted 21 = .ok (.aload_n 0, 1) := by decide +kernel
theorem dX1_countDoubted_22 : decode cX1_countDoubted 22 = .ok (.getfield 38, 3) := by decide +kernel
theorem dX1_countDoubted_25 : decode cX1_countDoubted 25 = .ok (.iload_n 2, 1) := by decide +kernel
theorem dX1_countDoubted_26 : decode cX1_countDoubted 26 = .ok (.baload, 1) := by decide +kernel
theorem dX1_countDoubted_27 : decode cX1_countDoubted 27 = .ok (.ifCond .eq 6, 3) := by decide +kernel
theorem dX1_countDoubted_30 : decode cX1_countDoubted 30 = .ok (.iinc 1 1, 3) := by decide +kernel
theorem dX1_countDoubted_33 : decode cX1_countDoubted 33 = .ok (.iinc 2 1, 3) := by decide +kernel
theorem dX1_countDoubted_36 : decode cX1_countDoubted 36 = .ok (.goto (-32), 3) := by decide +kernel
theorem dX1_countDoubted_39 : decode cX1_countDoubted 39 = .ok (.iload_n 1, 1) := by decide +kernel
theorem dX1_countDoubted_40 : decode cX1_countDoubted 40 = .ok (.ireturn, 1) := by decide +kernel
theorem dX1_isIn_0 : decode cX1_isIn 0 = .ok (.iload_n 1, 1) := by decide +kernel
theorem dX1_isIn_1 : decode cX1_isIn 1 = .ok (.ifCond .lt 19, 3) := by decide +kernel
theorem dX1_isIn_4 : decode cX1_isIn 4 = .ok (.iload_n 1, 1) := by decide +kernel
theorem dX1_isIn_5 : decode cX1_isIn 5 = .ok (.aload_n 0, 1) := by decide +kernel
theorem dX1_isIn_6 : decode cX1_isIn 6 = .ok (.arraylength, 1) := by decide +kernel
theorem dX1_isIn_7 : decode cX1_isIn 7 = .ok (.if_icmp .ge 13, 3) := by decide +kernel
theorem dX1_isIn_10 : decode cX1_isIn 10 = .ok (.aload_n 0, 1) := by decide +kernel
theorem dX1_isIn_11 : decode cX1_isIn 11 = .ok (.iload_n 1, 1) := by decide +kernel
theorem dX1_isIn_12 : decode cX1_isIn 12 = .ok (.baload, 1) := by decide +kernel
theorem dX1_isIn_13 : decode cX1_isIn 13 = .ok (.ifCond .eq 7, 3) := by decide +kernel
theorem dX1_isIn_16 : decode cX1_isIn 16 = .ok (.iconst 1, 1) := by decide +kernel
theorem dX1_isIn_17 : decode cX1_isIn 17 = .ok (.goto 4, 3) := by decide +kernel
theorem dX1_isIn_20 : decode cX1_isIn 20 = .ok (.iconst 0, 1) := by decide +kernel
theorem dX1_isIn_21 : decode cX1_isIn 21 = .ok (.ireturn, 1) := by decide +kernel
theorem dX1_size_0 : decode cX1_size 0 = .ok (.iconst 0, 1) := by decide +kernel
theorem dX1_size_1 : decode cX1_size 1 = .ok (.istore_n 1, 1) := by decide +kernel
theorem dX1_size_2 : decode cX1_size 2 = .ok (.iconst 0, 1) := by decide +kernel
theorem dX1_size_3 : decode cX1_size 3 = .ok (.istore_n 2, 1) := by decide +kernel
theorem dX1_size_4 : decode cX1_size 4 = .ok (.iload_n 2, 1) := by decide +kernel
theorem dX1_size_5 : decode cX1_size 5 = .ok (.aload_n 0, 1) := by decide +kernel
theorem dX1_size_6 : decode cX1_size 6 = .ok (.arraylength, 1) := by decide +kernel
theorem dX1_size_7 : decode cX1_size 7 = .ok (.if_icmp .ge 18, 3) := by decide +kernel
theorem dX1_size_10 : decode cX1_size 10 = .ok (.aload_n 0, 1) := by decide +kernel
theorem dX1_size_11 : decode cX1_size 11 = .ok (.iload_n 2, 1) := by decide +kernel
theorem dX1_size_12 : decode cX1_size 12 = .ok (.baload, 1) := by decide +kernel
theorem dX1_size_13 : decode cX1_size 13 = .ok (.ifCond .eq 6, 3) := by decide +kernel
theorem dX1_size_16 : decode cX1_size 16 = .ok (.iinc 1 1, 3) := by decide +kernel
theorem dX1_size_19 : decode cX1_size 19 = .ok (.iinc 2 1, 3) := by decide +kernel
theorem dX1_size_22 : decode cX1_size 22 = .ok (.goto (-18), 3) := by decide +kernel
theorem dX1_size_25 : decode cX1_size 25 = .ok (.iload_n 1, 1) := by decide +kernel
theorem dX1_size_26 : decode cX1_size 26 = .ok (.ireturn, 1) := by decide +kernel
theorem dX1_memberAt_0 : decode cX1_memberAt 0 = .ok (.iconst 0, 1) := by decide +kernel
theorem dX1_memberAt_1 : decode cX1_memberAt 1 = .ok (.istore_n 2, 1) := by decide +kernel
theorem dX1_memberAt_2 : decode cX1_memberAt 2 = .ok (.iconst 0, 1) := by decide +kernel
theorem dX1_memberAt_3 : decode cX1_memberAt 3 = .ok (.istore_n 3, 1) := by decide +kernel
theorem dX1_memberAt_4 : decode cX1_memberAt 4 = .ok (.iload_n 3, 1) := by decide +kernel
theorem dX1_memberAt_5 : decode cX1_memberAt 5 = .ok (.aload_n 0, 1) := by decide +kernel
theorem dX1_memberAt_6 : decode cX1_memberAt 6 = .ok (.arraylength, 1) := by decide +kernel
theorem dX1_memberAt_7 : decode cX1_memberAt 7 = .ok (.if_icmp .ge 25, 3) := by decide +kernel
theorem dX1_memberAt_10 : decode cX1_memberAt 10 = .ok (.aload_n 0, 1) := by decide +kernel
theorem dX1_memberAt_11 : decode cX1_memberAt 11 = .ok (.iload_n 3, 1) := by decide +kernel
theorem dX1_memberAt_12 : decode cX1_memberAt 12 = .ok (.baload, 1) := by decide +kernel
theorem dX1_memberAt_13 : decode cX1_memberAt 13 = .ok (.ifCond .eq 13, 3) := by decide +kernel
theorem dX1_memberAt_16 : decode cX1_memberAt 16 = .ok (.iload_n 2, 1) := by decide +kernel
theorem dX1_memberAt_17 : decode cX1_memberAt 17 = .ok (.iload_n 1, 1) := by decide +kernel
theorem dX1_memberAt_18 : decode cX1_memberAt 18 = .ok (.if_icmp .ne 5, 3) := by decide +kernel
theorem dX1_memberAt_21 : decode cX1_memberAt 21 = .ok (.iload_n 3, 1) := by decide +kernel
theorem dX1_memberAt_22 : decode cX1_memberAt 22 = .ok (.ireturn, 1) := by decide +kernel
theorem dX1_memberAt_23 : decode cX1_memberAt 23 = .ok (.iinc 2 1, 3) := by decide +kernel
theorem dX1_memberAt_26 : decode cX1_memberAt 26 = .ok (.iinc 3 1, 3) := by decide +kernel
theorem dX1_memberAt_29 : decode cX1_memberAt 29 = .ok (.goto (-25), 3) := by decide +kernel
theorem dX1_memberAt_32 : decode cX1_memberAt 32 = .ok (.iconst (-1), 1) := by decide +kernel
theorem dX1_memberAt_33 : decode cX1_memberAt 33 = .ok (.ireturn, 1) := by decide +kernel
theorem dX1_countHaving_0 : decode cX1_countHaving 0 = .ok (.iconst 0, 1) := by decide +kernel
theorem dX1_countHaving_1 : decode cX1_countHaving 1 = .ok (.istore_n 3, 1) := by decide +kernel
theorem dX1_countHaving_2 : decode cX1_countHaving 2 = .ok (.iconst 0, 1) := by decide +kernel
theorem dX1_countHaving_3 : decode cX1_countHaving 3 = .ok (.istore 4, 2) := by decide +kernel
theorem dX1_countHaving_5 : decode cX1_countHaving 5 = .ok (.iload 4, 2) := by decide +kernel
theorem dX1_countHaving_7 : decode cX1_countHaving 7 = .ok (.aload_n 0, 1) := by decide +kernel
theorem dX1_countHaving_8 : decode cX1_countHaving 8 = .ok (.getfield 42, 3) := by decide +kernel
theorem dX1_countHaving_11 : decode cX1_countHaving 11 = .ok (.arraylength, 1) := by decide +kernel
theorem dX1_countHaving_12 : decode cX1_countHaving 12 = .ok (.if_icmp .ge 36, 3) := by decide +kernel
theorem dX1_countHaving_15 : decode cX1_countHaving 15 = .ok (.aload_n 0, 1) := by decide +kernel
theorem dX1_countHaving_16 : decode cX1_countHaving 16 = .ok (.getfield 42, 3) := by decide +kernel
theorem dX1_countHaving_19 : decode cX1_countHaving 19 = .ok (.iload 4, 2) := by decide +kernel
theorem dX1_countHaving_21 : decode cX1_countHaving 21 = .ok (.baload, 1) := by decide +kernel
theorem dX1_countHaving_22 : decode cX1_countHaving 22 = .ok (.ifCond .eq 20, 3) := by decide +kernel
theorem dX1_countHaving_25 : decode cX1_countHaving 25 = .ok (.aload_n 0, 1) := by decide +kernel
theorem dX1_countHaving_26 : decode cX1_countHaving 26 = .ok (.getfield 21, 3) := by decide +kernel
theorem dX1_countHaving_29 : decode cX1_countHaving 29 = .ok (.iload 4, 2) := by decide +kernel
theorem dX1_countHaving_31 : decode cX1_countHaving 31 = .ok (.iload_n 1, 1) := by decide +kernel
theorem dX1_countHaving_32 : decode cX1_countHaving 32 = .ok (.invokevirtual 73, 3) := by decide +kernel
theorem dX1_countHaving_35 : decode cX1_countHaving 35 = .ok (.iload_n 2, 1) := by decide +kernel
theorem dX1_countHaving_36 : decode cX1_countHaving 36 = .ok (.if_icmp .ne 6, 3) := by decide +kernel
theorem dX1_countHaving_39 : decode cX1_countHaving 39 = .ok (.iinc 3 1, 3) := by decide +kernel
theorem dX1_countHaving_42 : decode cX1_countHaving 42 = .ok (.iinc 4 1, 3) := by decide +kernel
theorem dX1_countHaving_45 : decode cX1_countHaving 45 = .ok (.goto (-40), 3) := by decide +kernel
theorem dX1_countHaving_48 : decode cX1_countHaving 48 = .ok (.iload_n 3, 1) := by decide +kernel
theorem dX1_countHaving_49 : decode cX1_countHaving 49 = .ok (.ireturn, 1) := by decide +kernel
theorem dX1_keepAnswering_0 : decode cX1_keepAnswering 0 = .ok (.iconst 0, 1) := by decide +kernel
theorem dX1_keepAnswering_1 : decode cX1_keepAnswering 1 = .ok (.istore 4, 2) := by decide +kernel
theorem dX1_keepAnswering_3 : decode cX1_keepAnswering 3 = .ok (.iload 4, 2) := by decide +kernel
theorem dX1_keepAnswering_5 : decode cX1_keepAnswering 5 = .ok (.aload_n 1, 1) := by decide +kernel
theorem dX1_keepAnswering_6 : decode cX1_keepAnswering 6 = .ok (.arraylength, 1) := by decide +kernel
theorem dX1_keepAnswering_7 : decode cX1_keepAnswering 7 = .ok (.if_icmp .ge 39, 3) := by decide +kernel
theorem dX1_keepAnswering_10 : decode cX1_keepAnswering 10 = .ok (.aload_n 1, 1) := by decide +kernel
theorem dX1_keepAnswering_11 : decode cX1_keepAnswering 11 = .ok (.iload 4, 2) := by decide +kernel
theorem dX1_keepAnswering_13 : decode cX1_keepAnswering 13 = .ok (.aload_n 1, 1) := by decide +kernel
theorem dX1_keepAnswering_14 : decode cX1_keepAnswering 14 = .ok (.iload 4, 2) := by decide +kernel
theorem dX1_keepAnswering_16 : decode cX1_keepAnswering 16 = .ok (.baload, 1) := by decide +kernel
theorem dX1_keepAnswering_17 : decode cX1_keepAnswering 17 = .ok (.ifCond .eq 21, 3) := by decide +kernel
theorem dX1_keepAnswering_20 : decode cX1_keepAnswering 20 = .ok (.aload_n 0, 1) := by decide +kernel
theorem dX1_keepAnswering_21 : decode cX1_keepAnswering 21 = .ok (.getfield 21, 3) := by decide +kernel
theorem dX1_keepAnswering_24 : decode cX1_keepAnswering 24 = .ok (.iload_n 2, 1) := by decide +kernel
theorem dX1_keepAnswering_25 : decode cX1_keepAnswering 25 = .ok (.iload 4, 2) := by decide +kernel
theorem dX1_keepAnswering_27 : decode cX1_keepAnswering 27 = .ok (.invokevirtual 77, 3) := by decide +kernel
theorem dX1_keepAnswering_30 : decode cX1_keepAnswering 30 = .ok (.iload_n 3, 1) := by decide +kernel
theorem dX1_keepAnswering_31 : decode cX1_keepAnswering 31 = .ok (.if_icmp .ne 7, 3) := by decide +kernel
theorem dX1_keepAnswering_34 : decode cX1_keepAnswering 34 = .ok (.iconst 1, 1) := by decide +kernel
theorem dX1_keepAnswering_35 : decode cX1_keepAnswering 35 = .ok (.goto 4, 3) := by decide +kernel
theorem dX1_keepAnswering_38 : decode cX1_keepAnswering 38 = .ok (.iconst 0, 1) := by decide +kernel
theorem dX1_keepAnswering_39 : decode cX1_keepAnswering 39 = .ok (.bastore, 1) := by decide +kernel
theorem dX1_keepAnswering_40 : decode cX1_keepAnswering 40 = .ok (.iinc 4 1, 3) := by decide +kernel
theorem dX1_keepAnswering_43 : decode cX1_keepAnswering 43 = .ok (.goto (-40), 3) := by decide +kernel
theorem dX1_keepAnswering_46 : decode cX1_keepAnswering 46 = .ok (.return_, 1) := by decide +kernel
theorem dX1_heapUp_0 : decode cX1_heapUp 0 = .ok (.aload_n 0, 1) := by decide +kernel
theorem dX1_heapUp_1 : decode cX1_heapUp 1 = .ok (.getfield 48, 3) := by decide +kernel
theorem dX1_heapUp_4 : decode cX1_heapUp 4 = .ok (.iconst 0, 1) := by decide +kernel
theorem dX1_heapUp_5 : decode cX1_heapUp 5 = .ok (.invokestatic 196, 3) := by decide +kernel
theorem dX1_heapUp_8 : decode cX1_heapUp 8 = .ok (.iconst 0, 1) := by decide +kernel
theorem dX1_heapUp_9 : decode cX1_heapUp 9 = .ok (.istore_n 3, 1) := by decide +kernel
theorem dX1_heapUp_10 : decode cX1_heapUp 10 = .ok (.iload_n 3, 1) := by decide +kernel
theorem dX1_heapUp_11 : decode cX1_heapUp 11 = .ok (.aload_n 2, 1) := by decide +kernel
theorem dX1_heapUp_12 : decode cX1_heapUp 12 = .ok (.arraylength, 1) := by decide +kernel
theorem dX1_heapUp_13 : decode cX1_heapUp 13 = .ok (.if_icmp .ge 52, 3) := by decide +kernel
theorem dX1_heapUp_16 : decode cX1_heapUp 16 = .ok (.aload_n 2, 1) := by decide +kernel
theorem dX1_heapUp_17 : decode cX1_heapUp 17 = .ok (.iload_n 3, 1) := by decide +kernel
theorem dX1_heapUp_18 : decode cX1_heapUp 18 = .ok (.baload, 1) := by decide +kernel
theorem dX1_heapUp_19 : decode cX1_heapUp 19 = .ok (.ifCond .eq 40, 3) := by decide +kernel
theorem dX1_heapUp_22 : decode cX1_heapUp 22 = .ok (.aload_n 0, 1) := by decide +kernel
theorem dX1_heapUp_23 : decode cX1_heapUp 23 = .ok (.getfield 21, 3) := by decide +kernel
theorem dX1_heapUp_26 : decode cX1_heapUp 26 = .ok (.iload_n 1, 1) := by decide +kernel
theorem dX1_heapUp_27 : decode cX1_heapUp 27 = .ok (.iload_n 3, 1) := by decide +kernel
theorem dX1_heapUp_28 : decode cX1_heapUp 28 = .ok (.invokevirtual 77, 3) := by decide +kernel
theorem dX1_heapUp_31 : decode cX1_heapUp 31 = .ok (.istore 4, 2) := by decide +kernel
theorem dX1_heapUp_33 : decode cX1_heapUp 33 = .ok (.iload 4, 2) := by decide +kernel
theorem dX1_heapUp_35 : decode cX1_heapUp 35 = .ok (.ifCond .lt 24, 3) := by decide +kernel
theorem dX1_heapUp_38 : decode cX1_heapUp 38 = .ok (.iload 4, 2) := by decide +kernel
theorem dX1_heapUp_40 : decode cX1_heapUp 40 = .ok (.aload_n 0, 1) := by decide +kernel
theorem dX1_heapUp_41 : decode cX1_heapUp 41 = .ok (.getfield 48, 3) := by decide +kernel
theorem dX1_heapUp_44 : decode cX1_heapUp 44 = .ok (.arraylength, 1) := by decide +kernel
theorem dX1_heapUp_45 : decode cX1_heapUp 45 = .ok (.if_icmp .ge 14, 3) := by decide +kernel
theorem dX1_heapUp_48 : decode cX1_heapUp 48 = .ok (.aload_n 0, 1) := by decide +kernel
theorem dX1_heapUp_49 : decode cX1_heapUp 49 = .ok (.getfield 48, 3) := by decide +kernel
theorem dX1_heapUp_52 : decode cX1_heapUp 52 = .ok (.iload 4, 2) := by decide +kernel
theorem dX1_heapUp_54 : decode cX1_heapUp 54 = .ok (.dup2, 1) := by decide +kernel
theorem dX1_heapUp_55 : decode cX1_heapUp 55 = .ok (.iaload, 1) := by decide +kernel
theorem dX1_heapUp_56 : decode cX1_heapUp 56 = .ok (.iconst 1, 1) := by decide +kernel
theorem dX1_heapUp_57 : decode cX1_heapUp 57 = .ok (.iadd, 1) := by decide +kernel
theorem dX1_heapUp_58 : decode cX1_heapUp 58 = .ok (.iastore, 1) := by decide +kernel
theorem dX1_heapUp_59 : decode cX1_heapUp 59 = .ok (.iinc 3 1, 3) := by decide +kernel
theorem dX1_heapUp_62 : decode cX1_heapUp 62 = .ok (.goto (-52), 3) := by decide +kernel
theorem dX1_heapUp_65 : decode cX1_heapUp 65 = .ok (.return_, 1) := by decide +kernel
theorem dX1_greatestHeap_0 : decode cX1_greatestHeap 0 = .ok (.aload_n 0, 1) := by decide +kernel
theorem dX1_greatestHeap_1 : decode cX1_greatestHeap 1 = .ok (.iload_n 1, 1) := by decide +kernel
theorem dX1_greatestHeap_2 : decode cX1_greatestHeap 2 = .ok (.aload_n 2, 1) := by decide +kernel
theorem dX1_greatestHeap_3 : decode cX1_greatestHeap 3 = .ok (.invokevirtual 145, 3) := by decide +kernel
theorem dX1_greatestHeap_6 : decode cX1_greatestHeap 6 = .ok (.iconst 0, 1) := by decide +kernel
theorem dX1_greatestHeap_7 : decode cX1_greatestHeap 7 = .ok (.istore_n 3, 1) := by decide +kernel
theorem dX1_greatestHeap_8 : decode cX1_greatestHeap 8 = .ok (.iconst 0, 1) := by decide +kernel
theorem dX1_greatestHeap_9 : decode cX1_greatestHeap 9 = .ok (.istore 4, 2) := by decide +kernel
theorem dX1_greatestHeap_11 : decode cX1_greatestHeap 11 = .ok (.iload 4, 2) := by decide +kernel
theorem dX1_greatestHeap_13 : decode cX1_greatestHeap 13 = .ok (.aload_n 0, 1) := by decide +kernel
theorem dX1_greatestHeap_14 : decode cX1_greatestHeap 14 = .ok (.getfield 48, 3) := by decide +kernel
theorem dX1_greatestHeap_17 : decode cX1_greatestHeap 17 = .ok (.arraylength, 1) := by decide +kernel
theorem dX1_greatestHeap_18 : decode cX1_greatestHeap 18 = .ok (.if_icmp .ge 21, 3) := by decide +kernel
theorem dX1_greatestHeap_21 : decode cX1_greatestHeap 21 = .ok (.iload_n 3, 1) := by decide +kernel
theorem dX1_greatestHeap_22 : decode cX1_greatestHeap 22 = .ok (.aload_n 0, 1) := by decide +kernel
theorem dX1_greatestHeap_23 : decode cX1_greatestHeap 23 = .ok (.getfield 48, 3) := by decide +kernel
theorem dX1_greatestHeap_26 : decode cX1_greatestHeap 26 = .ok (.iload 4, 2) := by decide +kernel
theorem dX1_greatestHeap_28 : decode cX1_greatestHeap 28 = .ok (.iaload, 1) := by decide +kernel
theorem dX1_greatestHeap_29 : decode cX1_greatestHeap 29 = .ok (.invokestatic 202, 3) := by decide +kernel
theorem dX1_greatestHeap_32 : decode cX1_greatestHeap 32 = .ok (.istore_n 3, 1) := by decide +kernel
theorem dX1_greatestHeap_33 : decode cX1_greatestHeap 33 = .ok (.iinc 4 1, 3) := by decide +kernel
theorem dX1_greatestHeap_36 : decode cX1_greatestHeap 36 = .ok (.goto (-25), 3) := by decide +kernel
theorem dX1_greatestHeap_39 : decode cX1_greatestHeap 39 = .ok (.iload_n 3, 1) := by decide +kernel
theorem dX1_greatestHeap_40 : decode cX1_greatestHeap 40 = .ok (.ireturn, 1) := by decide +kernel
theorem dX1_leastBad_0 : decode cX1_leastBad 0 = .ok (.aload_n 1, 1) := by decide +kernel
theorem dX1_leastBad_1 : decode cX1_leastBad 1 = .ok (.invokestatic 87, 3) := by decide +kernel
theorem dX1_leastBad_4 : decode cX1_leastBad 4 = .ok (.ifCond .ne 5, 3) := by decide +kernel
theorem dX1_leastBad_7 : decode cX1_leastBad 7 = .ok (.iconst (-1), 1) := by decide +kernel
theorem dX1_leastBad_8 : decode cX1_leastBad 8 = .ok (.ireturn, 1) := by decide +kernel
theorem dX1_leastBad_9 : decode cX1_leastBad 9 = .ok (.iconst (-1), 1) := by decide +kernel
theorem dX1_leastBad_10 : decode cX1_leastBad 10 = .ok (.istore_n 3, 1) := by decide +kernel
theorem dX1_leastBad_11 : decode cX1_leastBad 11 = .ok (.iconst 0, 1) := by decide +kernel
theorem dX1_leastBad_12 : decode cX1_leastBad 12 = .ok (.istore 4, 2) := by decide +kernel
theorem dX1_leastBad_14 : decode cX1_leastBad 14 = .ok (.bipush 82, 2) := by decide +kernel
theorem dX1_leastBad_16 : decode cX1_leastBad 16 = .ok (.istore 5, 2) := by decide +kernel
theorem dX1_leastBad_18 : decode cX1_leastBad 18 = .ok (.iconst 0, 1) := by decide +kernel
theorem dX1_leastBad_19 : decode cX1_leastBad 19 = .ok (.istore 6, 2) := by decide +kernel
theorem dX1_leastBad_21 : decode cX1_leastBad 21 = .ok (.iload 6, 2) := by decide +kernel
theorem dX1_leastBad_23 : decode cX1_leastBad 23 = .ok (.aload_n 0, 1) := by decide +kernel
theorem dX1_leastBad_24 : decode cX1_leastBad 24 = .ok (.getfield 21, 3) := by decide +kernel
theorem dX1_leastBad_27 : decode cX1_leastBad 27 = .ok (.getfield 114, 3) := by decide +kernel
theorem dX1_leastBad_30 : decode cX1_leastBad 30 = .ok (.if_icmp .ge 70, 3) := by decide +kernel
theorem dX1_leastBad_33 : decode cX1_leastBad 33 = .ok (.aload_n 1, 1) := by decide +kernel
theorem dX1_leastBad_34 : decode cX1_leastBad 34 = .ok (.iload 6, 2) := by decide +kernel
theorem dX1_leastBad_36 : decode cX1_leastBad 36 = .ok (.invokestatic 126, 3) := by decide +kernel
theorem dX1_leastBad_39 : decode cX1_leastBad 39 = .ok (.istore 7, 2) := by decide +kernel
theorem dX1_leastBad_41 : decode cX1_leastBad 41 = .ok (.iload 7, 2) := by decide +kernel
theorem dX1_leastBad_43 : decode cX1_leastBad 43 = .ok (.ifCond .ne 7, 3) := by decide +kernel
theorem dX1_leastBad_46 : decode cX1_leastBad 46 = .ok (.iload_n 2, 1) := by decide +kernel
theorem dX1_leastBad_47 : decode cX1_leastBad 47 = .ok (.ifCond .ne 47, 3) := by decide +kernel
theorem dX1_leastBad_50 : decode cX1_leastBad 50 = .ok (.aload_n 0, 1) := by decide +kernel
theorem dX1_leastBad_51 : decode cX1_leastBad 51 = .ok (.iload 6, 2) := by decide +kernel
theorem dX1_leastBad_53 : decode cX1_leastBad 53 = .ok (.aload_n 1, 1) := by decide +kernel
theorem dX1_leastBad_54 : decode cX1_leastBad 54 = .ok (.invokevirtual 141, 3) := by decide +kernel
theorem dX1_leastBad_57 : decode cX1_leastBad 57 = .ok (.istore 8, 2) := by decide +kernel
theorem dX1_leastBad_59 : decode cX1_leastBad 59 = .ok (.iload 8, 2) := by decide +kernel
theorem dX1_leastBad_61 : decode cX1_leastBad 61 = .ok (.iload 5, 2) := by decide +kernel
theorem dX1_leastBad_63 : decode cX1_leastBad 63 = .ok (.if_icmp .lt 20, 3) := by decide +kernel
theorem dX1_leastBad_66 : decode cX1_leastBad 66 = .ok (.iload 8, 2) := by decide +kernel
theorem dX1_leastBad_68 : decode cX1_leastBad 68 = .ok (.iload 5, 2) := by decide +kernel
theorem dX1_leastBad_70 : decode cX1_leastBad 70 = .ok (.if_icmp .ne 24, 3) := by decide +kernel
theorem dX1_leastBad_73 : decode cX1_leastBad 73 = .ok (.iload 7, 2) := by decide +kernel
theorem dX1_leastBad_75 : decode cX1_leastBad 75 = .ok (.ifCond .eq 19, 3) := by decide +kernel
theorem dX1_leastBad_78 : decode cX1_leastBad 78 = .ok (.iload 4, 2) := by decide +kernel
theorem dX1_leastBad_80 : decode cX1_leastBad 80 = .ok (.ifCond .ne 14, 3) := by decide +kernel
theorem dX1_leastBad_83 : decode cX1_leastBad 83 = .ok (.iload 6, 2) := by decide +kernel
theorem dX1_leastBad_85 : decode cX1_leastBad 85 = .ok (.istore_n 3, 1) := by decide +kernel
theorem dX1_leastBad_86 : decode cX1_leastBad 86 = .ok (.iload 7, 2) := by decide +kernel
theorem dX1_leastBad_88 : decode cX1_leastBad 88 = .ok (.istore 4, 2) := by decide +kernel
theorem dX1_leastBad_90 : decode cX1_leastBad 90 = .ok (.iload 8, 2) := by decide +kernel
theorem dX1_leastBad_92 : decode cX1_leastBad 92 = .ok (.istore 5, 2) := by decide +kernel
theorem dX1_leastBad_94 : decode cX1_leastBad 94 = .ok (.iinc 6 1, 3) := by decide +kernel
theorem dX1_leastBad_97 : decode cX1_leastBad 97 = .ok (.goto (-76), 3) := by decide +kernel
theorem dX1_leastBad_100 : decode cX1_leastBad 100 = .ok (.iload_n 3, 1) := by decide +kernel
theorem dX1_leastBad_101 : decode cX1_leastBad 101 = .ok (.ireturn, 1) := by decide +kernel
