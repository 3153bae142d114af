theorem dX2_init_0 : decode cX2_init 0 = .ok (.aload_n 0, 1) := by decide +kernel
theorem dX2_init_1 : decode cX2_init 1 = .ok (.invokespecial 1, 3) := by decide +kernel
theorem dX2_init_4 : decode cX2_init 4 = .ok (.aload_n 0, 1) := by decide +kernel
theorem dX2_init_5 : decode cX2_init 5 = .ok (.iconst 3, 1) := by decide +kernel
theorem dX2_init_6 : decode cX2_init 6 = .ok (.putfield 7, 3) := by decide +kernel
theorem dX2_init_9 : decode cX2_init 9 = .ok (.aload_n 0, 1) := by decide +kernel
theorem dX2_init_10 : decode cX2_init 10 = .ok (.iconst (-1), 1) := by decide +kernel
theorem dX2_init_11 : decode cX2_init 11 = .ok (.putfield 13, 3) := by decide +kernel
theorem dX2_init_14 : decode cX2_init 14 = .ok (.aload_n 0, 1) := by decide +kernel
theorem dX2_init_15 : decode cX2_init 15 = .ok (.iconst 0, 1) := by decide +kernel
theorem dX2_init_16 : decode cX2_init 16 = .ok (.anewarray 16, 3) := by decide +kernel
theorem dX2_init_19 : decode cX2_init 19 = .ok (.putfield 18, 3) := by decide +kernel
theorem dX2_init_22 : decode cX2_init 22 = .ok (.return_, 1) := by decide +kernel
theorem dX2_codes_0 : decode cX2_codes 0 = .ok (.aload_n 0, 1) := by decide +kernel
theorem dX2_codes_1 : decode cX2_codes 1 = .ok (.getfield 7, 3) := by decide +kernel
theorem dX2_codes_4 : decode cX2_codes 4 = .ok (.iconst 2, 1) := by decide +kernel
theorem dX2_codes_5 : decode cX2_codes 5 = .ok (.if_icmp .ne 8, 3) := by decide +kernel
theorem dX2_codes_8 : decode cX2_codes 8 = .ok (.bipush 16, 2) := by decide +kernel
theorem dX2_codes_10 : decode cX2_codes 10 = .ok (.goto 5, 3) := by decide +kernel
theorem dX2_codes_13 : decode cX2_codes 13 = .ok (.bipush 81, 2) := by decide +kernel
theorem dX2_codes_15 : decode cX2_codes 15 = .ok (.ireturn, 1) := by decide +kernel
theorem dX2_pins_0 : decode cX2_pins 0 = .ok (.aload_n 0, 1) := by decide +kernel
theorem dX2_pins_1 : decode cX2_pins 1 = .ok (.iload_n 1, 1) := by decide +kernel
theorem dX2_pins_2 : decode cX2_pins 2 = .ok (.invokevirtual 22, 3) := by decide +kernel
theorem dX2_pins_5 : decode cX2_pins 5 = .ok (.astore_n 3, 1) := by decide +kernel
theorem dX2_pins_6 : decode cX2_pins 6 = .ok (.aload_n 0, 1) := by decide +kernel
theorem dX2_pins_7 : decode cX2_pins 7 = .ok (.iload_n 2, 1) := by decide +kernel
theorem dX2_pins_8 : decode cX2_pins 8 = .ok (.invokevirtual 22, 3) := by decide +kernel
theorem dX2_pins_11 : decode cX2_pins 11 = .ok (.astore 4, 2) := by decide +kernel
theorem dX2_pins_13 : decode cX2_pins 13 = .ok (.iconst 0, 1) := by decide +kernel
theorem dX2_pins_14 : decode cX2_pins 14 = .ok (.istore 5, 2) := by decide +kernel
theorem dX2_pins_16 : decode cX2_pins 16 = .ok (.iconst 0, 1) := by decide +kernel
theorem dX2_pins_17 : decode cX2_pins 17 = .ok (.istore 6, 2) := by decide +kernel
theorem dX2_pins_19 : decode cX2_pins 19 = .ok (.iconst 0, 1) := by decide +kernel
theorem dX2_pins_20 : decode cX2_pins 20 = .ok (.istore 7, 2) := by decide +kernel
theorem dX2_pins_22 : decode cX2_pins 22 = .ok (.iload 7, 2) := by decide +kernel
theorem dX2_pins_24 : decode cX2_pins 24 = .ok (.iconst 4, 1) := by decide +kernel
theorem dX2_pins_25 : decode cX2_pins 25 = .ok (.if_icmp .ge 39, 3) := by decide +kernel
theorem dX2_pins_28 : decode cX2_pins 28 = .ok (.aload_n 3, 1) := by decide +kernel
theorem dX2_pins_29 : decode cX2_pins 29 = .ok (.iload 7, 2) := by decide +kernel
theorem dX2_pins_31 : decode cX2_pins 31 = .ok (.iaload, 1) := by decide +kernel
theorem dX2_pins_32 : decode cX2_pins 32 = .ok (.aload 4, 2) := by decide +kernel
theorem dX2_pins_34 : decode cX2_pins 34 = .ok (.iload 7, 2) := by decide +kernel
theorem dX2_pins_36 : decode cX2_pins 36 = .ok (.iaload, 1) := by decide +kernel
theorem dX2_pins_37 : decode cX2_pins 37 = .ok (.if_icmp .eq 6, 3) := by decide +kernel
theorem dX2_pins_40 : decode cX2_pins 40 = .ok (.goto 18, 3) := by decide +kernel
theorem dX2_pins_43 : decode cX2_pins 43 = .ok (.iinc 5 1, 3) := by decide +kernel
theorem dX2_pins_46 : decode cX2_pins 46 = .ok (.aload_n 3, 1) := by decide +kernel
theorem dX2_pins_47 : decode cX2_pins 47 = .ok (.iload 7, 2) := by decide +kernel
theorem dX2_pins_49 : decode cX2_pins 49 = .ok (.iconst (-1), 1) := by decide +kernel
theorem dX2_pins_50 : decode cX2_pins 50 = .ok (.iastore, 1) := by decide +kernel
theorem dX2_pins_51 : decode cX2_pins 51 = .ok (.aload 4, 2) := by decide +kernel
theorem dX2_pins_53 : decode cX2_pins 53 = .ok (.iload 7, 2) := by decide +kernel
theorem dX2_pins_55 : decode cX2_pins 55 = .ok (.bipush (-2), 2) := by decide +kernel
theorem dX2_pins_57 : decode cX2_pins 57 = .ok (.iastore, 1) := by decide +kernel
theorem dX2_pins_58 : decode cX2_pins 58 = .ok (.iinc 7 1, 3) := by decide +kernel
theorem dX2_pins_61 : decode cX2_pins 61 = .ok (.goto (-39), 3) := by decide +kernel
theorem dX2_pins_64 : decode cX2_pins 64 = .ok (.iconst 0, 1) := by decide +kernel
theorem dX2_pins_65 : decode cX2_pins 65 = .ok (.istore 7, 2) := by decide +kernel
theorem dX2_pins_67 : decode cX2_pins 67 = .ok (.iload 7, 2) := by decide +kernel
theorem dX2_pins_69 : decode cX2_pins 69 = .ok (.iconst 4, 1) := by decide +kernel
theorem dX2_pins_70 : decode cX2_pins 70 = .ok (.if_icmp .ge 54, 3) := by decide +kernel
theorem dX2_pins_73 : decode cX2_pins 73 = .ok (.iconst 0, 1) := by decide +kernel
theorem dX2_pins_74 : decode cX2_pins 74 = .ok (.istore 8, 2) := by decide +kernel
theorem dX2_pins_76 : decode cX2_pins 76 = .ok (.iload 8, 2) := by decide +kernel
theorem dX2_pins_78 : decode cX2_pins 78 = .ok (.iconst 4, 1) := by decide +kernel
theorem dX2_pins_79 : decode cX2_pins 79 = .ok (.if_icmp .ge 39, 3) := by decide +kernel
theorem dX2_pins_82 : decode cX2_pins 82 = .ok (.aload_n 3, 1) := by decide +kernel
theorem dX2_pins_83 : decode cX2_pins 83 = .ok (.iload 7, 2) := by decide +kernel
theorem dX2_pins_85 : decode cX2_pins 85 = .ok (.iaload, 1) := by decide +kernel
theorem dX2_pins_86 : decode cX2_pins 86 = .ok (.aload 4, 2) := by decide +kernel
theorem dX2_pins_88 : decode cX2_pins 88 = .ok (.iload 8, 2) := by decide +kernel
theorem dX2_pins_90 : decode cX2_pins 90 = .ok (.iaload, 1) := by decide +kernel
theorem dX2_pins_91 : decode cX2_pins 91 = .ok (.if_icmp .eq 6, 3) := by decide +kernel
theorem dX2_pins_94 : decode cX2_pins 94 = .ok (.goto 18, 3) := by decide +kernel
theorem dX2_pins_97 : decode cX2_pins 97 = .ok (.iinc 6 1, 3) := by decide +kernel
theorem dX2_pins_100 : decode cX2_pins 100 = .ok (.aload_n 3, 1) := by decide +kernel
theorem dX2_pins_101 : decode cX2_pins 101 = .ok (.iload 7, 2) := by decide +kernel
theorem dX2_pins_103 : decode cX2_pins 103 = .ok (.iconst (-1), 1) := by decide +kernel
theorem dX2_pins_104 : decode cX2_pins 104 = .ok (.iastore, 1) := by decide +kernel
theorem dX2_pins_105 : decode cX2_pins 105 = .ok (.aload 4, 2) := by decide +kernel
theorem dX2_pins_107 : decode cX2_pins 107 = .ok (.iload 8, 2) := by decide +kernel
theorem dX2_pins_109 : decode cX2_pins 109 = .ok (.bipush (-2), 2) := by decide +kernel
theorem dX2_pins_111 : decode cX2_pins 111 = .ok (.iastore, 1) := by decide +kernel
theorem dX2_pins_112 : decode cX2_pins 112 = .ok (.iinc 8 1, 3) := by decide +kernel
theorem dX2_pins_115 : decode cX2_pins 115 = .ok (.goto (-39), 3) := by decide +kernel
theorem dX2_pins_118 : decode cX2_pins 118 = .ok (.iinc 7 1, 3) := by decide +kernel
theorem dX2_pins_121 : decode cX2_pins 121 = .ok (.goto (-54), 3) := by decide +kernel
theorem dX2_pins_124 : decode cX2_pins 124 = .ok (.iconst 5, 1) := by decide +kernel
theorem dX2_pins_125 : decode cX2_pins 125 = .ok (.iload 5, 2) := by decide +kernel
theorem dX2_pins_127 : decode cX2_pins 127 = .ok (.imul, 1) := by decide +kernel
theorem dX2_pins_128 : decode cX2_pins 128 = .ok (.iload 6, 2) := by decide +kernel
theorem dX2_pins_130 : decode cX2_pins 130 = .ok (.iadd, 1) := by decide +kernel
theorem dX2_pins_131 : decode cX2_pins 131 = .ok (.ireturn, 1) := by decide +kernel
theorem dX2_candles_0 : decode cX2_candles 0 = .ok (.iconst 4, 1) := by decide +kernel
theorem dX2_candles_1 : decode cX2_candles 1 = .ok (.newarray .int, 2) := by decide +kernel
theorem dX2_candles_3 : decode cX2_candles 3 = .ok (.astore_n 2, 1) := by decide +kernel
theorem dX2_candles_4 : decode cX2_candles 4 = .ok (.iload_n 1, 1) := by decide +kernel
theorem dX2_candles_5 : decode cX2_candles 5 = .ok (.istore_n 3, 1) := by decide +kernel
theorem dX2_candles_6 : decode cX2_candles 6 = .ok (.iconst 3, 1) := by decide +kernel
theorem dX2_candles_7 : decode cX2_candles 7 = .ok (.istore 4, 2) := by decide +kernel
theorem dX2_candles_9 : decode cX2_candles 9 = .ok (.iload 4, 2) := by decide +kernel
theorem dX2_candles_11 : decode cX2_candles 11 = .ok (.ifCond .lt 26, 3) := by decide +kernel
theorem dX2_candles_14 : decode cX2_candles 14 = .ok (.aload_n 2, 1) := by decide +kernel
theorem dX2_candles_15 : decode cX2_candles 15 = .ok (.iload 4, 2) := by decide +kernel
theorem dX2_candles_17 : decode cX2_candles 17 = .ok (.iload_n 3, 1) := by decide +kernel
theorem dX2_candles_18 : decode cX2_candles 18 = .ok (.aload_n 0, 1) := by decide +kernel
theorem dX2_candles_19 : decode cX2_candles 19 = .ok (.getfield 7, 3) := by decide +kernel
theorem dX2_candles_22 : decode cX2_candles 22 = .ok (.irem, 1) := by decide +kernel
theorem dX2_candles_23 : decode cX2_candles 23 = .ok (.iastore, 1) := by decide +kernel
theorem dX2_candles_24 : decode cX2_candles 24 = .ok (.iload_n 3, 1) := by decide +kernel
theorem dX2_candles_25 : decode cX2_candles 25 = .ok (.aload_n 0, 1) := by decide +kernel
theorem dX2_candles_26 : decode cX2_candles 26 = .ok (.getfield 7, 3) := by decide +kernel
theorem dX2_candles_29 : decode cX2_candles 29 = .ok (.idiv, 1) := by decide +kernel
theorem dX2_candles_30 : decode cX2_candles 30 = .ok (.istore_n 3, 1) := by decide +kernel
theorem dX2_candles_31 : decode cX2_candles 31 = .ok (.iinc 4 (-1), 3) := by decide +kernel
theorem dX2_candles_34 : decode cX2_candles 34 = .ok (.goto (-25), 3) := by decide +kernel
theorem dX2_candles_37 : decode cX2_candles 37 = .ok (.aload_n 2, 1) := by decide +kernel
theorem dX2_candles_38 : decode cX2_candles 38 = .ok (.areturn, 1) := by decide +kernel
theorem dX2_number_0 : decode cX2_number 0 = .ok (.aload_n 1, 1) := by decide +kernel
theorem dX2_number_1 : decode cX2_number 1 = .ok (.iconst 0, 1) := by decide +kernel
theorem dX2_number_2 : decode cX2_number 2 = .ok (.iaload, 1) := by decide +kernel
theorem dX2_number_3 : decode cX2_number 3 = .ok (.aload_n 0, 1) := by decide +kernel
theorem dX2_number_4 : decode cX2_number 4 = .ok (.getfield 7, 3) := by decide +kernel
theorem dX2_number_7 : decode cX2_number 7 = .ok (.imul, 1) := by decide +kernel
theorem dX2_number_8 : decode cX2_number 8 = .ok (.aload_n 1, 1) := by decide +kernel
theorem dX2_number_9 : decode cX2_number 9 = .ok (.iconst 1, 1) := by decide +kernel
theorem dX2_number_10 : decode cX2_number 10 = .ok (.iaload, 1) := by decide +kernel
theorem dX2_number_11 : decode cX2_number 11 = .ok (.iadd, 1) := by decide +kernel
theorem dX2_number_12 : decode cX2_number 12 = .ok (.aload_n 0, 1) := by decide +kernel
theorem dX2_number_13 : decode cX2_number 13 = .ok (.getfield 7, 3) := by decide +kernel
theorem dX2_number_16 : decode cX2_number 16 = .ok (.imul, 1) := by decide +kernel
theorem dX2_number_17 : decode cX2_number 17 = .ok (.aload_n 1, 1) := by decide +kernel
theorem dX2_number_18 : decode cX2_number 18 = .ok (.iconst 2, 1) := by decide +kernel
theorem dX2_number_19 : decode cX2_number 19 = .ok (.iaload, 1) := by decide +kernel
theorem dX2_number_20 : decode cX2_number 20 = .ok (.iadd, 1) := by decide +kernel
theorem dX2_number_21 : decode cX2_number 21 = .ok (.aload_n 0, 1) := by decide +kernel
theorem dX2_number_22 : decode cX2_number 22 = .ok (.getfield 7, 3) := by decide +kernel
theorem dX2_number_25 : decode cX2_number 25 = .ok (.imul, 1) := by decide +kernel
theorem dX2_number_26 : decode cX2_number 26 = .ok (.aload_n 1, 1) := by decide +kernel
theorem dX2_number_27 : decode cX2_number 27 = .ok (.iconst 3, 1) := by decide +kernel
theorem dX2_number_28 : decode cX2_number 28 = .ok (.iaload, 1) := by decide +kernel
theorem dX2_number_29 : decode cX2_number 29 = .ok (.iadd, 1) := by decide +kernel
theorem dX2_number_30 : decode cX2_number 30 = .ok (.ireturn, 1) := by decide +kernel
theorem dX2_possible_0 : decode cX2_possible 0 = .ok (.aload_n 0, 1) := by decide +kernel
theorem dX2_possible_1 : decode cX2_possible 1 = .ok (.invokevirtual 26, 3) := by decide +kernel
theorem dX2_possible_4 : decode cX2_possible 4 = .ok (.newarray .boolean, 2) := by decide +kernel
theorem dX2_possible_6 : decode cX2_possible 6 = .ok (.astore_n 2, 1) := by decide +kernel
theorem dX2_possible_7 : decode cX2_possible 7 = .ok (.iconst 0, 1) := by decide +kernel
theorem dX2_possible_8 : decode cX2_possible 8 = .ok (.istore_n 3, 1) := by decide +kernel
theorem dX2_possible_9 : decode cX2_possible 9 = .ok (.iload_n 3, 1) := by decide +kernel
theorem dX2_possible_10 : decode cX2_possible 10 = .ok (.aload_n 2, 1) := by decide +kernel
theorem dX2_possible_11 : decode cX2_possible 11 = .ok (.arraylength, 1) := by decide +kernel
theorem dX2_possible_12 : decode cX2_possible 12 = .ok (.if_icmp .ge 78, 3) := by decide +kernel
theorem dX2_possible_15 : decode cX2_possible 15 = .ok (.aload_n 2, 1) := by decide +kernel
theorem dX2_possible_16 : decode cX2_possible 16 = .ok (.iload_n 3, 1) := by decide +kernel
theorem dX2_possible_17 : decode cX2_possible 17 = .ok (.iconst 1, 1) := by decide +kernel
theorem dX2_possible_18 : decode cX2_possible 18 = .ok (.bastore, 1) := by decide +kernel
theorem dX2_possible_19 : decode cX2_possible 19 = .ok (.iconst 0, 1) := by decide +kernel
theorem dX2_possible_20 : decode cX2_possible 20 = .ok (.istore 4, 2) := by decide +kernel
theorem dX2_possible_22 : decode cX2_possible 22 = .ok (.iload 4, 2) := by decide +kernel
theorem dX2_possible_24 : decode cX2_possible 24 = .ok (.iload_n 1, 1) := by decide +kernel
theorem dX2_possible_25 : decode cX2_possible 25 = .ok (.if_icmp .ge 59, 3) := by decide +kernel
theorem dX2_possible_28 : decode cX2_possible 28 = .ok (.aload_n 2, 1) := by decide +kernel
theorem dX2_possible_29 : decode cX2_possible 29 = .ok (.iload_n 3, 1) := by decide +kernel
theorem dX2_possible_30 : decode cX2_possible 30 = .ok (.dup2, 1) := by decide +kernel
theorem dX2_possible_31 : decode cX2_possible 31 = .ok (.baload, 1) := by decide +kernel
theorem dX2_possible_32 : decode cX2_possible 32 = .ok (.aload_n 0, 1) := by decide +kernel
theorem dX2_possible_33 : decode cX2_possible 33 = .ok (.getfield 18, 3) := by decide +kernel
theorem dX2_possible_36 : decode cX2_possible 36 = .ok (.iload 4, 2) := by decide +kernel
theorem dX2_possible_38 : decode cX2_possible 38 = .ok (.aaload, 1) := by decide +kernel
theorem dX2_possible_39 : decode cX2_possible 39 = .ok (.iconst 2, 1) := by decide +kernel
theorem dX2_possible_40 : decode cX2_possible 40 = .ok (.iaload, 1) := by decide +kernel
theorem dX2_possible_41 : decode cX2_possible 41 = .ok (.iconst 1, 1) := by decide +kernel
theorem dX2_possible_42 : decode cX2_possible 42 = .ok (.if_icmp .eq 29, 3) := by decide +kernel
theorem dX2_possible_45 : decode cX2_possible 45 = .ok (.aload_n 0, 1) := by decide +kernel
theorem dX2_possible_46 : decode cX2_possible 46 = .ok (.aload_n 0, 1) := by decide +kernel
theorem dX2_possible_47 : decode cX2_possible 47 = .ok (.getfield 18, 3) := by decide +kernel
theorem dX2_possible_50 : decode cX2_possible 50 = .ok (.iload 4, 2) := by decide +kernel
theorem dX2_possible_52 : decode cX2_possible 52 = .ok (.aaload, 1) := by decide +kernel
theorem dX2_possible_53 : decode cX2_possible 53 = .ok (.iconst 0, 1) := by decide +kernel
theorem dX2_possible_54 : decode cX2_possible 54 = .ok (.iaload, 1) := by decide +kernel
theorem dX2_possible_55 : decode cX2_possible 55 = .ok (.iload_n 3, 1) := by decide +kernel
theorem dX2_possible_56 : decode cX2_possible 56 = .ok (.invokevirtual 30, 3) := by decide +kernel
theorem dX2_possible_59 : decode cX2_possible 59 = .ok (.aload_n 0, 1) := by decide +kernel
theorem dX2_possible_60 : decode cX2_possible 60 = .ok (.getfield 18, 3) := by decide +kernel
theorem dX2_possible_63 : decode cX2_possible 63 = .ok (.iload 4, 2) := by decide +kernel
theorem dX2_possible_65 : decode cX2_possible 65 = .ok (.aaload, 1) := by decide +kernel
theorem dX2_possible_66 : decode cX2_possible 66 = .ok (.iconst 1, 1) := by decide +kernel
theorem dX2_possible_67 : decode cX2_possible 67 = .ok (.iaload, 1) := by decide +kernel
theorem dX2_possible_68 : decode cX2_possible 68 = .ok (.if_icmp .ne 7, 3) := by decide +kernel
theorem dX2_possible_71 : decode cX2_possible 71 = .ok (.iconst 1, 1) := by decide +kernel
theorem dX2_possible_72 : decode cX2_possible 72 = .ok (.goto 4, 3) := by decide +kernel
theorem dX2_possible_75 : decode cX2_possible 75 = .ok (.iconst 0, 1) := by decide +kernel
theorem dX2_possible_76 : decode cX2_possible 76 = .ok (.iand, 1) := by decide +kernel
theorem dX2_possible_77 : decode cX2_possible 77 = .ok (.bastore, 1) := by decide +kernel
theorem dX2_possible_78 : decode cX2_possible 78 = .ok (.iinc 4 1, 3) := by decide +kernel
theorem dX2_possible_81 : decode cX2_possible 81 = .ok (.goto (-59), 3) := by decide +kernel
theorem dX2_possible_84 : decode cX2_possible 84 = .ok (.iinc 3 1, 3) := by decide +kernel
theorem dX2_possible_87 : decode cX2_possible 87 = .ok (.goto (-78), 3) := by decide +kernel
theorem dX2_possible_90 : decode cX2_possible 90 = .ok (.aload_n 2, 1) := by decide +kernel
theorem dX2_possible_91 : decode cX2_possible 91 = .ok (.areturn, 1) := by decide +kernel
theorem dX2_many_0 : decode cX2_many 0 = .ok (.iconst 0, 1) := by decide +kernel
theorem dX2_many_1 : decode cX2_many 1 = .ok (.istore_n 1, 1) := by decide +kernel
theorem dX2_many_2 : decode cX2_many 2 = .ok (.aload_n 0, 1) := by decide +kernel
theorem dX2_many_3 : decode cX2_many 3 = .ok (.astore_n 2, 1) := by decide +kernel
theorem dX2_many_4 : decode cX2_many 4 = .ok (.aload_n 2, 1) := by decide +kernel
theorem dX2_many_5 : decode cX2_many 5 = .ok (.arraylength, 1) := by decide +kernel
theorem dX2_many_6 : decode cX2_many 6 = .ok (.istore_n 3, 1) := by decide +kernel
theorem dX2_many_7 : decode cX2_many 7 = .ok (.iconst 0, 1) := by decide +kernel
theorem dX2_many_8 : decode cX2_many 8 = .ok (.istore 4, 2) := by decide +kernel
theorem dX2_many_10 : decode cX2_many 10 = .ok (.iload 4, 2) := by decide +kernel
theorem dX2_many_12 : decode cX2_many 12 = .ok (.iload_n 3, 1) := by decide +kernel
theorem dX2_many_13 : decode cX2_many 13 = .ok (.if_icmp .ge 28, 3) := by decide +kernel
theorem dX2_many_16 : decode cX2_many 16 = .ok (.aload_n 2, 1) := by decide +kernel
theorem dX2_many_17 : decode cX2_many 17 = .ok (.iload 4, 2) := by decide +kernel
theorem dX2_many_19 : decode cX2_many 19 = .ok (.baload, 1) := by decide +kernel
theorem dX2_many_20 : decode cX2_many 20 = .ok (.istore 5, 2) := by decide +kernel
theorem dX2_many_22 : decode cX2_many 22 = .ok (.iload_n 1, 1) := by decide +kernel
theorem dX2_many_23 : decode cX2_many 23 = .ok (.iload 5, 2) := by decide +kernel
theorem dX2_many_25 : decode cX2_many 25 = .ok (.ifCond .eq 7, 3) := by decide +kernel
theorem dX2_many_28 : decode cX2_many 28 = .ok (.iconst 1, 1) := by decide +kernel
theorem dX2_many_29 : decode cX2_many 29 = .ok (.goto 4, 3) := by decide +kernel
theorem dX2_many_32 : decode cX2_many 32 = .ok (.iconst 0, 1) := by decide +kernel
theorem dX2_many_33 : decode cX2_many 33 = .ok (.iadd, 1) := by decide +kernel
theorem dX2_many_34 : decode cX2_many 34 = .ok (.istore_n 1, 1) := by decide +kernel
theorem dX2_many_35 : decode cX2_many 35 = .ok (.iinc 4 1, 3) := by decide +kernel
theorem dX2_many_38 : decode cX2_many 38 = .ok (.goto (-28), 3) := by decide +kernel
theorem dX2_many_41 : decode cX2_many 41 = .ok (.iload_n 1, 1) := by decide +kernel
theorem dX2_many_42 : decode cX2_many 42 = .ok (.ireturn, 1) := by decide +kernel
theorem dX2_isSame_0 : decode cX2_isSame 0 = .ok (.aload_n 0, 1) := by decide +kernel
theorem dX2_isSame_1 : decode cX2_isSame 1 = .ok (.aload_n 0, 1) := by decide +kernel
theorem dX2_isSame_2 : decode cX2_isSame 2 = .ok (.getfield 18, 3) := by decide +kernel
theorem dX2_isSame_5 : decode cX2_isSame 5 = .ok (.arraylength, 1) := by decide +kernel
theorem dX2_isSame_6 : decode cX2_isSame 6 = .ok (.invokevirtual 39, 3) := by decide +kernel
theorem dX2_isSame_9 : decode cX2_isSame 9 = .ok (.astore_n 2, 1) := by decide +kernel
theorem dX2_isSame_10 : decode cX2_isSame 10 = .ok (.aload_n 2, 1) := by decide +kernel
theorem dX2_isSame_11 : decode cX2_isSame 11 = .ok (.invokestatic 43, 3) := by decide +kernel
theorem dX2_isSame_14 : decode cX2_isSame 14 = .ok (.istore_n 3, 1) := by decide +kernel
theorem dX2_isSame_15 : decode cX2_isSame 15 = .ok (.iconst 0, 1) := by decide +kernel
theorem dX2_isSame_16 : decode cX2_isSame 16 = .ok (.istore 4, 2) := by decide +kernel
theorem dX2_isSame_18 : decode cX2_isSame 18 = .ok (.iconst 0, 1) := by decide +kernel
theorem dX2_isSame_19 : decode cX2_isSame 19 = .ok (.istore 5, 2) := by decide +kernel
theorem dX2_isSame_21 : decode cX2_isSame 21 = .ok (.iconst 0, 1) := by decide +kernel
theorem dX2_isSame_22 : decode cX2_isSame 22 = .ok (.istore 6, 2) := by decide +kernel
theorem dX2_isSame_24 : decode cX2_isSame 24 = .ok (.iconst 0, 1) := by decide +kernel
theorem dX2_isSame_25 : decode cX2_isSame 25 = .ok (.istore 7, 2) := by decide +kernel
theorem dX2_isSame_27 : decode cX2_isSame 27 = .ok (.iload 7, 2) := by decide +kernel
theorem dX2_isSame_29 : decode cX2_isSame 29 = .ok (.aload_n 0, 1) := by decide +kernel
theorem dX2_isSame_30 : decode cX2_isSame 30 = .ok (.getfield 18, 3) := by decide +kernel
theorem dX2_isSame_33 : decode cX2_isSame 33 = .ok (.arraylength, 1) := by decide +kernel
theorem dX2_isSame_34 : decode cX2_isSame 34 = .ok (.if_icmp .ge 196, 3) := by decide +kernel
theorem dX2_isSame_37 : decode cX2_isSame 37 = .ok (.aload_n 0, 1) := by decide +kernel
theorem dX2_isSame_38 : decode cX2_isSame 38 = .ok (.getfield 18, 3) := by decide +kernel
theorem dX2_isSame_41 : decode cX2_isSame 41 = .ok (.iload 7, 2) := by decide +kernel
theorem dX2_isSame_43 : decode cX2_isSame 43 = .ok (.aaload, 1) := by decide +kernel
theorem dX2_isSame_44 : decode cX2_isSame 44 = .ok (.astore 8, 2) := by decide +kernel
theorem dX2_isSame_46 : decode cX2_isSame 46 = .ok (.iconst 0, 1) := by decide +kernel
theorem dX2_isSame_47 : decode cX2_isSame 47 = .ok (.istore 9, 2) := by decide +kernel
theorem dX2_isSame_49 : decode cX2_isSame 49 = .ok (.iconst 0, 1) := by decide +kernel
theorem dX2_isSame_50 : decode cX2_isSame 50 = .ok (.istore 10, 2) := by decide +kernel
theorem dX2_isSame_52 : decode cX2_isSame 52 = .ok (.iload 10, 2) := by decide +kernel
theorem dX2_isSame_54 : decode cX2_isSame 54 = .ok (.aload_n 0, 1) := by decide +kernel
theorem dX2_isSame_55 : decode cX2_isSame 55 = .ok (.invokevirtual 26, 3) := by decide +kernel
theorem dX2_isSame_58 : decode cX2_isSame 58 = .ok (.if_icmp .ge 36, 3) := by decide +kernel
theorem dX2_isSame_61 : decode cX2_isSame 61 = .ok (.iload 9, 2) := by decide +kernel
theorem dX2_isSame_63 : decode cX2_isSame 63 = .ok (.aload_n 0, 1) := by decide +kernel
theorem dX2_isSame_64 : decode cX2_isSame 64 = .ok (.aload 8, 2) := by decide +kernel
theorem dX2_isSame_66 : decode cX2_isSame 66 = .ok (.iconst 0, 1) := by decide +kernel
theorem dX2_isSame_67 : decode cX2_isSame 67 = .ok (.iaload, 1) := by decide +kernel
theorem dX2_isSame_68 : decode cX2_isSame 68 = .ok (.iload 10, 2) := by decide +kernel
theorem dX2_isSame_70 : decode cX2_isSame 70 = .ok (.invokevirtual 30, 3) := by decide +kernel
theorem dX2_isSame_73 : decode cX2_isSame 73 = .ok (.aload 8, 2) := by decide +kernel
theorem dX2_isSame_75 : decode cX2_isSame 75 = .ok (.iconst 1, 1) := by decide +kernel
theorem dX2_isSame_76 : decode cX2_isSame 76 = .ok (.iaload, 1) := by decide +kernel
theorem dX2_isSame_77 : decode cX2_isSame 77 = .ok (.if_icmp .ne 7, 3) := by decide +kernel
theorem dX2_isSame_80 : decode cX2_isSame 80 = .ok (.iconst 1, 1) := by decide +kernel
theorem dX2_isSame_81 : decode cX2_isSame 81 = .ok (.goto 4, 3) := by decide +kernel
theorem dX2_isSame_84 : decode cX2_isSame 84 = .ok (.iconst 0, 1) := by decide +kernel
theorem dX2_isSame_85 : decode cX2_isSame 85 = .ok (.iadd, 1) := by decide +kernel
theorem dX2_isSame_86 : decode cX2_isSame 86 = .ok (.istore 9, 2) := by decide +kernel
theorem dX2_isSame_88 : decode cX2_isSame 88 = .ok (.iinc 10 1, 3) := by decide +kernel
theorem dX2_isSame_91 : decode cX2_isSame 91 = .ok (.goto (-39), 3) := by decide +kernel
theorem dX2_isSame_94 : decode cX2_isSame 94 = .ok (.bipush 6, 2) := by decide +kernel
theorem dX2_isSame_96 : decode cX2_isSame 96 = .ok (.newarray .int, 2) := by decide +kernel
theorem dX2_isSame_98 : decode cX2_isSame 98 = .ok (.dup, 1) := by decide +kernel
theorem dX2_isSame_99 : decode cX2_isSame 99 = .ok (.iconst 0, 1) := by decide +kernel
theorem dX2_isSame_100 : decode cX2_isSame 100 = .ok (.aload 8, 2) := by decide +kernel
theorem dX2_isSame_102 : decode cX2_isSame 102 = .ok (.iconst 0, 1) := by decide +kernel
theorem dX2_isSame_103 : decode cX2_isSame 103 = .ok (.iaload, 1) := by decide +kernel
theorem dX2_isSame_104 : decode cX2_isSame 104 = .ok (.iastore, 1) := by decide +kernel
theorem dX2_isSame_105 : decode cX2_isSame 105 = .ok (.dup, 1) := by decide +kernel
theorem dX2_isSame_106 : decode cX2_isSame 106 = .ok (.iconst 1, 1) := by decide +kernel
theorem dX2_isSame_107 : decode cX2_isSame 107 = .ok (.aload 8, 2) := by decide +kernel
theorem dX2_isSame_109 : decode cX2_isSame 109 = .ok (.iconst 1, 1) := by decide +kernel
theorem dX2_isSame_110 : decode cX2_isSame 110 = .ok (.iaload, 1) := by decide +kernel
theorem dX2_isSame_111 : decode cX2_isSame 111 = .ok (.iconst 5, 1) := by decide +kernel
theorem dX2_isSame_112 : decode cX2_isSame 112 = .ok (.idiv, 1) := by decide +kernel
theorem dX2_isSame_113 : decode cX2_isSame 113 = .ok (.iastore, 1) := by decide +kernel
theorem dX2_isSame_114 : decode cX2_isSame 114 = .ok (.dup, 1) := by decide +kernel
theorem dX2_isSame_115 : decode cX2_isSame 115 = .ok (.iconst 2, 1) := by decide +kernel
theorem dX2_isSame_116 : decode cX2_isSame 116 = .ok (.aload 8, 2) := by decide +kernel
theorem dX2_isSame_118 : decode cX2_isSame 118 = .ok (.iconst 1, 1) := by decide +kernel
theorem dX2_isSame_119 : decode cX2_isSame 119 = .ok (.iaload, 1) := by decide +kernel
theorem dX2_isSame_120 : decode cX2_isSame 120 = .ok (.iconst 5, 1) := by decide +kernel
theorem dX2_isSame_121 : decode cX2_isSame 121 = .ok (.irem, 1) := by decide +kernel
theorem dX2_isSame_122 : decode cX2_isSame 122 = .ok (.iastore, 1) := by decide +kernel
theorem dX2_isSame_123 : decode cX2_isSame 123 = .ok (.dup, 1) := by decide +kernel
theorem dX2_isSame_124 : decode cX2_isSame 124 = .ok (.iconst 3, 1) := by decide +kernel
theorem dX2_isSame_125 : decode cX2_isSame 125 = .ok (.aload 8, 2) := by decide +kernel
theorem dX2_isSame_127 : decode cX2_isSame 127 = .ok (.iconst 2, 1) := by decide +kernel
theorem dX2_isSame_128 : decode cX2_isSame 128 = .ok (.iaload, 1) := by decide +kernel
theorem dX2_isSame_129 : decode cX2_isSame 129 = .ok (.iastore, 1) := by decide +kernel
theorem dX2_isSame_130 : decode cX2_isSame 130 = .ok (.dup, 1) := by decide +kernel
theorem dX2_isSame_131 : decode cX2_isSame 131 = .ok (.iconst 4, 1) := by decide +kernel
theorem dX2_isSame_132 : decode cX2_isSame 132 = .ok (.aload_n 0, 1) := by decide +kernel
theorem dX2_isSame_133 : decode cX2_isSame 133 = .ok (.iload 7, 2) := by decide +kernel
theorem dX2_isSame_135 : decode cX2_isSame 135 = .ok (.iconst 1, 1) := by decide +kernel
theorem dX2_isSame_136 : decode cX2_isSame 136 = .ok (.iadd, 1) := by decide +kernel
theorem dX2_isSame_137 : decode cX2_isSame 137 = .ok (.invokevirtual 39, 3) := by decide +kernel
theorem dX2_isSame_140 : decode cX2_isSame 140 = .ok (.invokestatic 43, 3) := by decide +kernel
theorem dX2_isSame_143 : decode cX2_isSame 143 = .ok (.iastore, 1) := by decide +kernel
theorem dX2_isSame_144 : decode cX2_isSame 144 = .ok (.dup, 1) := by decide +kernel
theorem dX2_isSame_145 : decode cX2_isSame 145 = .ok (.iconst 5, 1) := by decide +kernel
theorem dX2_isSame_146 : decode cX2_isSame 146 = .ok (.iload 9, 2) := by decide +kernel
theorem dX2_isSame_148 : decode cX2_isSame 148 = .ok (.iastore, 1) := by decide +kernel
theorem dX2_isSame_149 : decode cX2_isSame 149 = .ok (.astore 10, 2) := by decide +kernel
theorem dX2_isSame_151 : decode cX2_isSame 151 = .ok (.iconst 0, 1) := by decide +kernel
theorem dX2_isSame_152 : decode cX2_isSame 152 = .ok (.istore 11, 2) := by decide +kernel
theorem dX2_isSame_154 : decode cX2_isSame 154 = .ok (.iload 11, 2) := by decide +kernel
theorem dX2_isSame_156 : decode cX2_isSame 156 = .ok (.bipush 6, 2) := by decide +kernel
theorem dX2_isSame_158 : decode cX2_isSame 158 = .ok (.if_icmp .ge 27, 3) := by decide +kernel
theorem dX2_isSame_161 : decode cX2_isSame 161 = .ok (.aload_n 1, 1) := by decide +kernel
theorem dX2_isSame_162 : decode cX2_isSame 162 = .ok (.iload 7, 2) := by decide +kernel
theorem dX2_isSame_164 : decode cX2_isSame 164 = .ok (.iload 11, 2) := by decide +kernel
theorem dX2_isSame_166 : decode cX2_isSame 166 = .ok (.invokevirtual 51, 3) := by decide +kernel
theorem dX2_isSame_169 : decode cX2_isSame 169 = .ok (.aload 10, 2) := by decide +kernel
theorem dX2_isSame_171 : decode cX2_isSame 171 = .ok (.iload 11, 2) := by decide +kernel
theorem dX2_isSame_173 : decode cX2_isSame 173 = .ok (.iaload, 1) := by decide +kernel
theorem dX2_isSame_174 : decode cX2_isSame 174 = .ok (.if_icmp .eq 5, 3) := by decide +kernel
theorem dX2_isSame_177 : decode cX2_isSame 177 = .ok (.iconst 0, 1) := by decide +kernel
theorem dX2_isSame_178 : decode cX2_isSame 178 = .ok (.ireturn, 1) := by decide +kernel
theorem dX2_isSame_179 : decode cX2_isSame 179 = .ok (.iinc 11 1, 3) := by decide +kernel
theorem dX2_isSame_182 : decode cX2_isSame 182 = .ok (.goto (-28), 3) := by decide +kernel
theorem dX2_isSame_185 : decode cX2_isSame 185 = .ok (.iload 4, 2) := by decide +kernel
theorem dX2_isSame_187 : decode cX2_isSame 187 = .ok (.aload 8, 2) := by decide +kernel
theorem dX2_isSame_189 : decode cX2_isSame 189 = .ok (.iconst 1, 1) := by decide +kernel
theorem dX2_isSame_190 : decode cX2_isSame 190 = .ok (.iaload, 1) := by decide +kernel
theorem dX2_isSame_191 : decode cX2_isSame 191 = .ok (.bipush 20, 2) := by decide +kernel
theorem dX2_isSame_193 : decode cX2_isSame 193 = .ok (.if_icmp .ne 7, 3) := by decide +kernel
theorem dX2_isSame_196 : decode cX2_isSame 196 = .ok (.iconst 1, 1) := by decide +kernel
theorem dX2_isSame_197 : decode cX2_isSame 197 = .ok (.goto 4, 3) := by decide +kernel
theorem dX2_isSame_200 : decode cX2_isSame 200 = .ok (.iconst 0, 1) := by decide +kernel
theorem dX2_isSame_201 : decode cX2_isSame 201 = .ok (.iadd, 1) := by decide +kernel
theorem dX2_isSame_202 : decode cX2_isSame 202 = .ok (.istore 4, 2) := by decide +kernel
theorem dX2_isSame_204 : decode cX2_isSame 204 = .ok (.iload 5, 2) := by decide +kernel
theorem dX2_isSame_206 : decode cX2_isSame 206 = .ok (.aload 8, 2) := by decide +kernel
theorem dX2_isSame_208 : decode cX2_isSame 208 = .ok (.iconst 2, 1) := by decide +kernel
theorem dX2_isSame_209 : decode cX2_isSame 209 = .ok (.iaload, 1) := by decide +kernel
theorem dX2_isSame_210 : decode cX2_isSame 210 = .ok (.iadd, 1) := by decide +kernel
theorem dX2_isSame_211 : decode cX2_isSame 211 = .ok (.istore 5, 2) := by decide +kernel
theorem dX2_isSame_213 : decode cX2_isSame 213 = .ok (.iload 6, 2) := by decide +kernel
theorem dX2_isSame_215 : decode cX2_isSame 215 = .ok (.aload 8, 2) := by decide +kernel
theorem dX2_isSame_217 : decode cX2_isSame 217 = .ok (.iconst 1, 1) := by decide +kernel
theorem dX2_isSame_218 : decode cX2_isSame 218 = .ok (.iaload, 1) := by decide +kernel
theorem dX2_isSame_219 : decode cX2_isSame 219 = .ok (.iconst 5, 1) := by decide +kernel
theorem dX2_isSame_220 : decode cX2_isSame 220 = .ok (.idiv, 1) := by decide +kernel
theorem dX2_isSame_221 : decode cX2_isSame 221 = .ok (.iadd, 1) := by decide +kernel
theorem dX2_isSame_222 : decode cX2_isSame 222 = .ok (.istore 6, 2) := by decide +kernel
theorem dX2_isSame_224 : decode cX2_isSame 224 = .ok (.iinc 7 1, 3) := by decide +kernel
theorem dX2_isSame_227 : decode cX2_isSame 227 = .ok (.goto (-200), 3) := by decide +kernel
theorem dX2_isSame_230 : decode cX2_isSame 230 = .ok (.bipush 7, 2) := by decide +kernel
theorem dX2_isSame_232 : decode cX2_isSame 232 = .ok (.newarray .int, 2) := by decide +kernel
theorem dX2_isSame_234 : decode cX2_isSame 234 = .ok (.dup, 1) := by decide +kernel
theorem dX2_isSame_235 : decode cX2_isSame 235 = .ok (.iconst 0, 1) := by decide +kernel
theorem dX2_isSame_236 : decode cX2_isSame 236 = .ok (.aload_n 0, 1) := by decide +kernel
theorem dX2_isSame_237 : decode cX2_isSame 237 = .ok (.getfield 7, 3) := by decide +kernel
theorem dX2_isSame_240 : decode cX2_isSame 240 = .ok (.iastore, 1) := by decide +kernel
theorem dX2_isSame_241 : decode cX2_isSame 241 = .ok (.dup, 1) := by decide +kernel
theorem dX2_isSame_242 : decode cX2_isSame 242 = .ok (.iconst 1, 1) := by decide +kernel
theorem dX2_isSame_243 : decode cX2_isSame 243 = .ok (.aload_n 0, 1) := by decide +kernel
theorem dX2_isSame_244 : decode cX2_isSame 244 = .ok (.invokevirtual 26, 3) := by decide +kernel
theorem dX2_isSame_247 : decode cX2_isSame 247 = .ok (.iastore, 1) := by decide +kernel
theorem dX2_isSame_248 : decode cX2_isSame 248 = .ok (.dup, 1) := by decide +kernel
theorem dX2_isSame_249 : decode cX2_isSame 249 = .ok (.iconst 2, 1) := by decide +kernel
theorem dX2_isSame_250 : decode cX2_isSame 250 = .ok (.aload_n 0, 1) := by decide +kernel
theorem dX2_isSame_251 : decode cX2_isSame 251 = .ok (.getfield 18, 3) := by decide +kernel
theorem dX2_isSame_254 : decode cX2_isSame 254 = .ok (.arraylength, 1) := by decide +kernel
theorem dX2_isSame_255 : decode cX2_isSame 255 = .ok (.iastore, 1) := by decide +kernel
theorem dX2_isSame_256 : decode cX2_isSame 256 = .ok (.dup, 1) := by decide +kernel
theorem dX2_isSame_257 : decode cX2_isSame 257 = .ok (.iconst 3, 1) := by decide +kernel
theorem dX2_isSame_258 : decode cX2_isSame 258 = .ok (.iload_n 3, 1) := by decide +kernel
theorem dX2_isSame_259 : decode cX2_isSame 259 = .ok (.iastore, 1) := by decide +kernel
theorem dX2_isSame_260 : decode cX2_isSame 260 = .ok (.dup, 1) := by decide +kernel
theorem dX2_isSame_261 : decode cX2_isSame 261 = .ok (.iconst 4, 1) := by decide +kernel
theorem dX2_isSame_262 : decode cX2_isSame 262 = .ok (.aload_n 0, 1) := by decide +kernel
theorem dX2_isSame_263 : decode cX2_isSame 263 = .ok (.getfield 13, 3) := by decide +kernel
theorem dX2_isSame_266 : decode cX2_isSame 266 = .ok (.ifCond .ge 7, 3) := by decide +kernel
theorem dX2_isSame_269 : decode cX2_isSame 269 = .ok (.iconst 0, 1) := by decide +kernel
theorem dX2_isSame_270 : decode cX2_isSame 270 = .ok (.goto 4, 3) := by decide +kernel
theorem dX2_isSame_273 : decode cX2_isSame 273 = .ok (.iconst 1, 1) := by decide +kernel
theorem dX2_isSame_274 : decode cX2_isSame 274 = .ok (.iastore, 1) := by decide +kernel
theorem dX2_isSame_275 : decode cX2_isSame 275 = .ok (.dup, 1) := by decide +kernel
theorem dX2_isSame_276 : decode cX2_isSame 276 = .ok (.iconst 5, 1) := by decide +kernel
theorem dX2_isSame_277 : decode cX2_isSame 277 = .ok (.iload 4, 2) := by decide +kernel
theorem dX2_isSame_279 : decode cX2_isSame 279 = .ok (.iastore, 1) := by decide +kernel
theorem dX2_isSame_280 : decode cX2_isSame 280 = .ok (.dup, 1) := by decide +kernel
theorem dX2_isSame_281 : decode cX2_isSame 281 = .ok (.bipush 6, 2) := by decide +kernel
theorem dX2_isSame_283 : decode cX2_isSame 283 = .ok (.iload 5, 2) := by decide +kernel
theorem dX2_isSame_285 : decode cX2_isSame 285 = .ok (.iastore, 1) := by decide +kernel
theorem dX2_isSame_286 : decode cX2_isSame 286 = .ok (.astore 7, 2) := by decide +kernel
theorem dX2_isSame_288 : decode cX2_isSame 288 = .ok (.iconst 0, 1) := by decide +kernel
theorem dX2_isSame_289 : decode cX2_isSame 289 = .ok (.istore 8, 2) := by decide +kernel
theorem dX2_isSame_291 : decode cX2_isSame 291 = .ok (.iload 8, 2) := by decide +kernel
theorem dX2_isSame_293 : decode cX2_isSame 293 = .ok (.bipush 7, 2) := by decide +kernel
theorem dX2_isSame_295 : decode cX2_isSame 295 = .ok (.if_icmp .ge 25, 3) := by decide +kernel
theorem dX2_isSame_298 : decode cX2_isSame 298 = .ok (.aload_n 1, 1) := by decide +kernel
theorem dX2_isSame_299 : decode cX2_isSame 299 = .ok (.iload 8, 2) := by decide +kernel
theorem dX2_isSame_301 : decode cX2_isSame 301 = .ok (.invokevirtual 56, 3) := by decide +kernel
theorem dX2_isSame_304 : decode cX2_isSame 304 = .ok (.aload 7, 2) := by decide +kernel
theorem dX2_isSame_306 : decode cX2_isSame 306 = .ok (.iload 8, 2) := by decide +kernel
theorem dX2_isSame_308 : decode cX2_isSame 308 = .ok (.iaload, 1) := by decide +kernel
theorem dX2_isSame_309 : decode cX2_isSame 309 = .ok (.if_icmp .eq 5, 3) := by decide +kernel
theorem dX2_isSame_312 : decode cX2_isSame 312 = .ok (.iconst 0, 1) := by decide +kernel
theorem dX2_isSame_313 : decode cX2_isSame 313 = .ok (.ireturn, 1) := by decide +kernel
theorem dX2_isSame_314 : decode cX2_isSame 314 = .ok (.iinc 8 1, 3) := by decide +kernel
theorem dX2_isSame_317 : decode cX2_isSame 317 = .ok (.goto (-26), 3) := by decide +kernel
theorem dX2_isSame_320 : decode cX2_isSame 320 = .ok (.iconst 4, 1) := by decide +kernel
theorem dX2_isSame_321 : decode cX2_isSame 321 = .ok (.aload_n 0, 1) := by decide +kernel
theorem dX2_isSame_322 : decode cX2_isSame 322 = .ok (.getfield 7, 3) := by decide +kernel
theorem dX2_isSame_325 : decode cX2_isSame 325 = .ok (.multianewarray 60 2, 4) := by decide +kernel
theorem dX2_isSame_329 : decode cX2_isSame 329 = .ok (.astore 8, 2) := by decide +kernel
theorem dX2_isSame_331 : decode cX2_isSame 331 = .ok (.iconst 0, 1) := by decide +kernel
theorem dX2_isSame_332 : decode cX2_isSame 332 = .ok (.istore 9, 2) := by decide +kernel
theorem dX2_isSame_334 : decode cX2_isSame 334 = .ok (.iconst 0, 1) := by decide +kernel
theorem dX2_isSame_335 : decode cX2_isSame 335 = .ok (.istore 10, 2) := by decide +kernel
theorem dX2_isSame_337 : decode cX2_isSame 337 = .ok (.iload 10, 2) := by decide +kernel
theorem dX2_isSame_339 : decode cX2_isSame 339 = .ok (.aload_n 0, 1) := by decide +kernel
theorem dX2_isSame_340 : decode cX2_isSame 340 = .ok (.invokevirtual 26, 3) := by decide +kernel
theorem dX2_isSame_343 : decode cX2_isSame 343 = .ok (.if_icmp .ge 88, 3) := by decide +kernel
theorem dX2_isSame_346 : decode cX2_isSame 346 = .ok (.aload_n 1, 1) := by decide +kernel
theorem dX2_isSame_347 : decode cX2_isSame 347 = .ok (.iload 10, 2) := by decide +kernel
theorem dX2_isSame_349 : decode cX2_isSame 349 = .ok (.invokevirtual 61, 3) := by decide +kernel
theorem dX2_isSame_352 : decode cX2_isSame 352 = .ok (.aload_n 2, 1) := by decide +kernel
theorem dX2_isSame_353 : decode cX2_isSame 353 = .ok (.iload 10, 2) := by decide +kernel
theorem dX2_isSame_355 : decode cX2_isSame 355 = .ok (.baload, 1) := by decide +kernel
theorem dX2_isSame_356 : decode cX2_isSame 356 = .ok (.if_icmp .eq 5, 3) := by decide +kernel
theorem dX2_isSame_359 : decode cX2_isSame 359 = .ok (.iconst 0, 1) := by decide +kernel
theorem dX2_isSame_360 : decode cX2_isSame 360 = .ok (.ireturn, 1) := by decide +kernel
theorem dX2_isSame_361 : decode cX2_isSame 361 = .ok (.aload_n 2, 1) := by decide +kernel
theorem dX2_isSame_362 : decode cX2_isSame 362 = .ok (.iload 10, 2) := by decide +kernel
theorem dX2_isSame_364 : decode cX2_isSame 364 = .ok (.baload, 1) := by decide +kernel
theorem dX2_isSame_365 : decode cX2_isSame 365 = .ok (.ifCond .ne 6, 3) := by decide +kernel
theorem dX2_isSame_368 : decode cX2_isSame 368 = .ok (.goto 57, 3) := by decide +kernel
theorem dX2_isSame_371 : decode cX2_isSame 371 = .ok (.aload_n 1, 1) := by decide +kernel
theorem dX2_isSame_372 : decode cX2_isSame 372 = .ok (.iload 9, 2) := by decide +kernel
theorem dX2_isSame_374 : decode cX2_isSame 374 = .ok (.invokevirtual 65, 3) := by decide +kernel
theorem dX2_isSame_377 : decode cX2_isSame 377 = .ok (.iload 10, 2) := by decide +kernel
theorem dX2_isSame_379 : decode cX2_isSame 379 = .ok (.if_icmp .eq 5, 3) := by decide +kernel
theorem dX2_isSame_382 : decode cX2_isSame 382 = .ok (.iconst 0, 1) := by decide +kernel
theorem dX2_isSame_383 : decode cX2_isSame 383 = .ok (.ireturn, 1) := by decide +kernel
theorem dX2_isSame_384 : decode cX2_isSame 384 = .ok (.iinc 9 1, 3) := by decide +kernel
theorem dX2_isSame_387 : decode cX2_isSame 387 = .ok (.aload_n 0, 1) := by decide +kernel
theorem dX2_isSame_388 : decode cX2_isSame 388 = .ok (.iload 10, 2) := by decide +kernel
theorem dX2_isSame_390 : decode cX2_isSame 390 = .ok (.invokevirtual 22, 3) := by decide +kernel
theorem dX2_isSame_393 : decode cX2_isSame 393 = .ok (.astore 11, 2) := by decide +kernel
theorem dX2_isSame_395 : decode cX2_isSame 395 = .ok (.iconst 0, 1) := by decide +kernel
theorem dX2_isSame_396 : decode cX2_isSame 396 = .ok (.istore 12, 2) := by decide +kernel
theorem dX2_isSame_398 : decode cX2_isSame 398 = .ok (.iload 12, 2) := by decide +kernel
theorem dX2_isSame_400 : decode cX2_isSame 400 = .ok (.iconst 4, 1) := by decide +kernel
theorem dX2_isSame_401 : decode cX2_isSame 401 = .ok (.if_icmp .ge 24, 3) := by decide +kernel
theorem dX2_isSame_404 : decode cX2_isSame 404 = .ok (.aload 8, 2) := by decide +kernel
theorem dX2_isSame_406 : decode cX2_isSame 406 = .ok (.iload 12, 2) := by decide +kernel
theorem dX2_isSame_408 : decode cX2_isSame 408 = .ok (.aaload, 1) := by decide +kernel
theorem dX2_isSame_409 : decode cX2_isSame 409 = .ok (.aload 11, 2) := by decide +kernel
theorem dX2_isSame_411 : decode cX2_isSame 411 = .ok (.iload 12, 2) := by decide +kernel
theorem dX2_isSame_413 : decode cX2_isSame 413 = .ok (.iaload, 1) := by decide +kernel
theorem dX2_isSame_414 : decode cX2_isSame 414 = .ok (.dup2, 1) := by decide +kernel
theorem dX2_isSame_415 : decode cX2_isSame 415 = .ok (.iaload, 1) := by decide +kernel
theorem dX2_isSame_416 : decode cX2_isSame 416 = .ok (.iconst 1, 1) := by decide +kernel
theorem dX2_isSame_417 : decode cX2_isSame 417 = .ok (.iadd, 1) := by decide +kernel
theorem dX2_isSame_418 : decode cX2_isSame 418 = .ok (.iastore, 1) := by decide +kernel
theorem dX2_isSame_419 : decode cX2_isSame 419 = .ok (.iinc 12 1, 3) := by decide +kernel
theorem dX2_isSame_422 : decode cX2_isSame 422 = .ok (.goto (-24), 3) := by decide +kernel
theorem dX2_isSame_425 : decode cX2_isSame 425 = .ok (.iinc 10 1, 3) := by decide +kernel
theorem dX2_isSame_428 : decode cX2_isSame 428 = .ok (.goto (-91), 3) := by decide +kernel
theorem dX2_isSame_431 : decode cX2_isSame 431 = .ok (.iconst 0, 1) := by decide +kernel
theorem dX2_isSame_432 : decode cX2_isSame 432 = .ok (.istore 10, 2) := by decide +kernel
theorem dX2_isSame_434 : decode cX2_isSame 434 = .ok (.iload 10, 2) := by decide +kernel
theorem dX2_isSame_436 : decode cX2_isSame 436 = .ok (.iconst 4, 1) := by decide +kernel
theorem dX2_isSame_437 : decode cX2_isSame 437 = .ok (.if_icmp .ge 84, 3) := by decide +kernel
theorem dX2_isSame_440 : decode cX2_isSame 440 = .ok (.iconst (-1), 1) := by decide +kernel
theorem dX2_isSame_441 : decode cX2_isSame 441 = .ok (.istore 11, 2) := by decide +kernel
theorem dX2_isSame_443 : decode cX2_isSame 443 = .ok (.iconst 0, 1) := by decide +kernel
theorem dX2_isSame_444 : decode cX2_isSame 444 = .ok (.istore 12, 2) := by decide +kernel
theorem dX2_isSame_446 : decode cX2_isSame 446 = .ok (.iload 12, 2) := by decide +kernel
theorem dX2_isSame_448 : decode cX2_isSame 448 = .ok (.aload_n 0, 1) := by decide +kernel
theorem dX2_isSame_449 : decode cX2_isSame 449 = .ok (.getfield 7, 3) := by decide +kernel
theorem dX2_isSame_452 : decode cX2_isSame 452 = .ok (.if_icmp .ge 50, 3) := by decide +kernel
theorem dX2_isSame_455 : decode cX2_isSame 455 = .ok (.aload_n 1, 1) := by decide +kernel
theorem dX2_isSame_456 : decode cX2_isSame 456 = .ok (.iload 10, 2) := by decide +kernel
theorem dX2_isSame_458 : decode cX2_isSame 458 = .ok (.iload 12, 2) := by decide +kernel
theorem dX2_isSame_460 : decode cX2_isSame 460 = .ok (.invokevirtual 67, 3) := by decide +kernel
theorem dX2_isSame_463 : decode cX2_isSame 463 = .ok (.aload 8, 2) := by decide +kernel
theorem dX2_isSame_465 : decode cX2_isSame 465 = .ok (.iload 10, 2) := by decide +kernel
theorem dX2_isSame_467 : decode cX2_isSame 467 = .ok (.aaload, 1) := by decide +kernel
theorem dX2_isSame_468 : decode cX2_isSame 468 = .ok (.iload 12, 2) := by decide +kernel
theorem dX2_isSame_470 : decode cX2_isSame 470 = .ok (.iaload, 1) := by decide +kernel
theorem dX2_isSame_471 : decode cX2_isSame 471 = .ok (.if_icmp .eq 5, 3) := by decide +kernel
theorem dX2_isSame_474 : decode cX2_isSame 474 = .ok (.iconst 0, 1) := by decide +kernel
theorem dX2_isSame_475 : decode cX2_isSame 475 = .ok (.ireturn, 1) := by decide +kernel
theorem dX2_isSame_476 : decode cX2_isSame 476 = .ok (.iload_n 3, 1) := by decide +kernel
theorem dX2_isSame_477 : decode cX2_isSame 477 = .ok (.ifCond .le 19, 3) := by decide +kernel
theorem dX2_isSame_480 : decode cX2_isSame 480 = .ok (.aload 8, 2) := by decide +kernel
theorem dX2_isSame_482 : decode cX2_isSame 482 = .ok (.iload 10, 2) := by decide +kernel
theorem dX2_isSame_484 : decode cX2_isSame 484 = .ok (.aaload, 1) := by decide +kernel
theorem dX2_isSame_485 : decode cX2_isSame 485 = .ok (.iload 12, 2) := by decide +kernel
theorem dX2_isSame_487 : decode cX2_isSame 487 = .ok (.iaload, 1) := by decide +kernel
theorem dX2_isSame_488 : decode cX2_isSame 488 = .ok (.iload_n 3, 1) := by decide +kernel
theorem dX2_isSame_489 : decode cX2_isSame 489 = .ok (.if_icmp .ne 7, 3) := by decide +kernel
theorem dX2_isSame_492 : decode cX2_isSame 492 = .ok (.iload 12, 2) := by decide +kernel
theorem dX2_isSame_494 : decode cX2_isSame 494 = .ok (.istore 11, 2) := by decide +kernel
theorem dX2_isSame_496 : decode cX2_isSame 496 = .ok (.iinc 12 1, 3) := by decide +kernel
theorem dX2_isSame_499 : decode cX2_isSame 499 = .ok (.goto (-53), 3) := by decide +kernel
theorem dX2_isSame_502 : decode cX2_isSame 502 = .ok (.aload_n 1, 1) := by decide +kernel
theorem dX2_isSame_503 : decode cX2_isSame 503 = .ok (.iload 10, 2) := by decide +kernel
theorem dX2_isSame_505 : decode cX2_isSame 505 = .ok (.invokevirtual 70, 3) := by decide +kernel
theorem dX2_isSame_508 : decode cX2_isSame 508 = .ok (.iload 11, 2) := by decide +kernel
theorem dX2_isSame_510 : decode cX2_isSame 510 = .ok (.if_icmp .eq 5, 3) := by decide +kernel
theorem dX2_isSame_513 : decode cX2_isSame 513 = .ok (.iconst 0, 1) := by decide +kernel
theorem dX2_isSame_514 : decode cX2_isSame 514 = .ok (.ireturn, 1) := by decide +kernel
theorem dX2_isSame_515 : decode cX2_isSame 515 = .ok (.iinc 10 1, 3) := by decide +kernel
theorem dX2_isSame_518 : decode cX2_isSame 518 = .ok (.goto (-84), 3) := by decide +kernel
theorem dX2_isSame_521 : decode cX2_isSame 521 = .ok (.aload_n 1, 1) := by decide +kernel
theorem dX2_isSame_522 : decode cX2_isSame 522 = .ok (.invokevirtual 73, 3) := by decide +kernel
theorem dX2_isSame_525 : decode cX2_isSame 525 = .ok (.aload_n 0, 1) := by decide +kernel
theorem dX2_isSame_526 : decode cX2_isSame 526 = .ok (.getfield 18, 3) := by decide +kernel
theorem dX2_isSame_529 : decode cX2_isSame 529 = .ok (.arraylength, 1) := by decide +kernel
theorem dX2_isSame_530 : decode cX2_isSame 530 = .ok (.ifCond .ne 7, 3) := by decide +kernel
theorem dX2_isSame_533 : decode cX2_isSame 533 = .ok (.dconst 0, 1) := by decide +kernel
theorem dX2_isSame_534 : decode cX2_isSame 534 = .ok (.goto 13, 3) := by decide +kernel
theorem dX2_isSame_537 : decode cX2_isSame 537 = .ok (.iload 6, 2) := by decide +kernel
theorem dX2_isSame_539 : decode cX2_isSame 539 = .ok (.i2d, 1) := by decide +kernel
theorem dX2_isSame_540 : decode cX2_isSame 540 = .ok (.aload_n 0, 1) := by decide +kernel
theorem dX2_isSame_541 : decode cX2_isSame 541 = .ok (.getfield 18, 3) := by decide +kernel
theorem dX2_isSame_544 : decode cX2_isSame 544 = .ok (.arraylength, 1) := by decide +kernel
theorem dX2_isSame_545 : decode cX2_isSame 545 = .ok (.i2d, 1) := by decide +kernel
theorem dX2_isSame_546 : decode cX2_isSame 546 = .ok (.ddiv, 1) := by decide +kernel
theorem dX2_isSame_547 : decode cX2_isSame 547 = .ok (.dcmp .l, 1) := by decide +kernel
theorem dX2_isSame_548 : decode cX2_isSame 548 = .ok (.ifCond .ne 7, 3) := by decide +kernel
theorem dX2_isSame_551 : decode cX2_isSame 551 = .ok (.iconst 1, 1) := by decide +kernel
theorem dX2_isSame_552 : decode cX2_isSame 552 = .ok (.goto 4, 3) := by decide +kernel
theorem dX2_isSame_555 : decode cX2_isSame 555 = .ok (.iconst 0, 1) := by decide +kernel
theorem dX2_isSame_556 : decode cX2_isSame 556 = .ok (.ireturn, 1) := by decide +kernel
