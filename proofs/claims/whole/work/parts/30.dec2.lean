theorem dX2_init_0 : decode cX2_init 0 = .ok (.aload_n 0, 1) := by decide +kernel
theorem dX2_init_1 : decode cX2_init 1 = .ok (.invokespecial 1, 3) := by decide +kernel
theorem dX2_init_4 : decode cX2_init 4 = .ok (.aload_n 0, 1) := by decide +kernel
theorem dX2_init_5 : decode cX2_init 5 = .ok (.iconst 3, 1) := by decide +kernel
theorem dX2_init_6 : decode cX2_init 6 = .ok (.putfield 9, 3) := by decide +kernel
theorem dX2_init_9 : decode cX2_init 9 = .ok (.aload_n 0, 1) := by decide +kernel
theorem dX2_init_10 : decode cX2_init 10 = .ok (.iconst (-1), 1) := by decide +kernel
theorem dX2_init_11 : decode cX2_init 11 = .ok (.putfield 13, 3) := by decide +kernel
theorem dX2_init_14 : decode cX2_init 14 = .ok (.aload_n 0, 1) := by decide +kernel
theorem dX2_init_15 : decode cX2_init 15 = .ok (.bipush 12, 2) := by decide +kernel
theorem dX2_init_17 : decode cX2_init 17 = .ok (.newarray .int, 2) := by decide +kernel
theorem dX2_init_19 : decode cX2_init 19 = .ok (.putfield 16, 3) := by decide +kernel
theorem dX2_init_22 : decode cX2_init 22 = .ok (.aload_n 0, 1) := by decide +kernel
theorem dX2_init_23 : decode cX2_init 23 = .ok (.bipush 12, 2) := by decide +kernel
theorem dX2_init_25 : decode cX2_init 25 = .ok (.newarray .int, 2) := by decide +kernel
theorem dX2_init_27 : decode cX2_init 27 = .ok (.putfield 20, 3) := by decide +kernel
theorem dX2_init_30 : decode cX2_init 30 = .ok (.aload_n 0, 1) := by decide +kernel
theorem dX2_init_31 : decode cX2_init 31 = .ok (.bipush 12, 2) := by decide +kernel
theorem dX2_init_33 : decode cX2_init 33 = .ok (.newarray .int, 2) := by decide +kernel
theorem dX2_init_35 : decode cX2_init 35 = .ok (.putfield 23, 3) := by decide +kernel
theorem dX2_init_38 : decode cX2_init 38 = .ok (.aload_n 0, 1) := by decide +kernel
theorem dX2_init_39 : decode cX2_init 39 = .ok (.bipush 81, 2) := by decide +kernel
theorem dX2_init_41 : decode cX2_init 41 = .ok (.newarray .int, 2) := by decide +kernel
theorem dX2_init_43 : decode cX2_init 43 = .ok (.putfield 26, 3) := by decide +kernel
theorem dX2_init_46 : decode cX2_init 46 = .ok (.aload_n 0, 1) := by decide +kernel
theorem dX2_init_47 : decode cX2_init 47 = .ok (.bipush 21, 2) := by decide +kernel
theorem dX2_init_49 : decode cX2_init 49 = .ok (.newarray .int, 2) := by decide +kernel
theorem dX2_init_51 : decode cX2_init 51 = .ok (.putfield 29, 3) := by decide +kernel
theorem dX2_init_54 : decode cX2_init 54 = .ok (.aload_n 0, 1) := by decide +kernel
theorem dX2_init_55 : decode cX2_init 55 = .ok (.iconst 3, 1) := by decide +kernel
theorem dX2_init_56 : decode cX2_init 56 = .ok (.newarray .int, 2) := by decide +kernel
theorem dX2_init_58 : decode cX2_init 58 = .ok (.putfield 32, 3) := by decide +kernel
theorem dX2_init_61 : decode cX2_init 61 = .ok (.aload_n 0, 1) := by decide +kernel
theorem dX2_init_62 : decode cX2_init 62 = .ok (.iconst 3, 1) := by decide +kernel
theorem dX2_init_63 : decode cX2_init 63 = .ok (.newarray .int, 2) := by decide +kernel
theorem dX2_init_65 : decode cX2_init 65 = .ok (.putfield 35, 3) := by decide +kernel
theorem dX2_init_68 : decode cX2_init 68 = .ok (.return_, 1) := by decide +kernel
theorem dX2_thrown_0 : decode cX2_thrown 0 = .ok (.aload_n 0, 1) := by decide +kernel
theorem dX2_thrown_1 : decode cX2_thrown 1 = .ok (.getfield 38, 3) := by decide +kernel
theorem dX2_thrown_4 : decode cX2_thrown 4 = .ok (.ireturn, 1) := by decide +kernel
theorem dX2_no_0 : decode cX2_no 0 = .ok (.aload_n 0, 1) := by decide +kernel
theorem dX2_no_1 : decode cX2_no 1 = .ok (.iload_n 1, 1) := by decide +kernel
theorem dX2_no_2 : decode cX2_no 2 = .ok (.putfield 38, 3) := by decide +kernel
theorem dX2_no_5 : decode cX2_no 5 = .ok (.iconst 0, 1) := by decide +kernel
theorem dX2_no_6 : decode cX2_no 6 = .ok (.ireturn, 1) := by decide +kernel
theorem dX2_isIn_0 : decode cX2_isIn 0 = .ok (.iload_n 0, 1) := by decide +kernel
theorem dX2_isIn_1 : decode cX2_isIn 1 = .ok (.iload_n 1, 1) := by decide +kernel
theorem dX2_isIn_2 : decode cX2_isIn 2 = .ok (.if_icmp .lt 12, 3) := by decide +kernel
theorem dX2_isIn_5 : decode cX2_isIn 5 = .ok (.iload_n 0, 1) := by decide +kernel
theorem dX2_isIn_6 : decode cX2_isIn 6 = .ok (.iload_n 2, 1) := by decide +kernel
theorem dX2_isIn_7 : decode cX2_isIn 7 = .ok (.if_icmp .gt 7, 3) := by decide +kernel
theorem dX2_isIn_10 : decode cX2_isIn 10 = .ok (.iconst 1, 1) := by decide +kernel
theorem dX2_isIn_11 : decode cX2_isIn 11 = .ok (.goto 4, 3) := by decide +kernel
theorem dX2_isIn_14 : decode cX2_isIn 14 = .ok (.iconst 0, 1) := by decide +kernel
theorem dX2_isIn_15 : decode cX2_isIn 15 = .ok (.ireturn, 1) := by decide +kernel
theorem dX2_codes_0 : decode cX2_codes 0 = .ok (.aload_n 0, 1) := by decide +kernel
theorem dX2_codes_1 : decode cX2_codes 1 = .ok (.getfield 9, 3) := by decide +kernel
theorem dX2_codes_4 : decode cX2_codes 4 = .ok (.aload_n 0, 1) := by decide +kernel
theorem dX2_codes_5 : decode cX2_codes 5 = .ok (.getfield 9, 3) := by decide +kernel
theorem dX2_codes_8 : decode cX2_codes 8 = .ok (.imul, 1) := by decide +kernel
theorem dX2_codes_9 : decode cX2_codes 9 = .ok (.aload_n 0, 1) := by decide +kernel
theorem dX2_codes_10 : decode cX2_codes 10 = .ok (.getfield 9, 3) := by decide +kernel
theorem dX2_codes_13 : decode cX2_codes 13 = .ok (.imul, 1) := by decide +kernel
theorem dX2_codes_14 : decode cX2_codes 14 = .ok (.aload_n 0, 1) := by decide +kernel
theorem dX2_codes_15 : decode cX2_codes 15 = .ok (.getfield 9, 3) := by decide +kernel
theorem dX2_codes_18 : decode cX2_codes 18 = .ok (.imul, 1) := by decide +kernel
theorem dX2_codes_19 : decode cX2_codes 19 = .ok (.ireturn, 1) := by decide +kernel
theorem dX2_isCode_0 : decode cX2_isCode 0 = .ok (.iload_n 1, 1) := by decide +kernel
theorem dX2_isCode_1 : decode cX2_isCode 1 = .ok (.iconst 0, 1) := by decide +kernel
theorem dX2_isCode_2 : decode cX2_isCode 2 = .ok (.aload_n 0, 1) := by decide +kernel
theorem dX2_isCode_3 : decode cX2_isCode 3 = .ok (.invokevirtual 41, 3) := by decide +kernel
theorem dX2_isCode_6 : decode cX2_isCode 6 = .ok (.iconst 1, 1) := by decide +kernel
theorem dX2_isCode_7 : decode cX2_isCode 7 = .ok (.isub, 1) := by decide +kernel
theorem dX2_isCode_8 : decode cX2_isCode 8 = .ok (.invokestatic 45, 3) := by decide +kernel
theorem dX2_isCode_11 : decode cX2_isCode 11 = .ok (.ireturn, 1) := by decide +kernel
theorem dX2_isGuess_0 : decode cX2_isGuess 0 = .ok (.iload_n 1, 1) := by decide +kernel
theorem dX2_isGuess_1 : decode cX2_isGuess 1 = .ok (.iconst 0, 1) := by decide +kernel
theorem dX2_isGuess_2 : decode cX2_isGuess 2 = .ok (.aload_n 0, 1) := by decide +kernel
theorem dX2_isGuess_3 : decode cX2_isGuess 3 = .ok (.getfield 49, 3) := by decide +kernel
theorem dX2_isGuess_6 : decode cX2_isGuess 6 = .ok (.iconst 1, 1) := by decide +kernel
theorem dX2_isGuess_7 : decode cX2_isGuess 7 = .ok (.isub, 1) := by decide +kernel
theorem dX2_isGuess_8 : decode cX2_isGuess 8 = .ok (.invokestatic 45, 3) := by decide +kernel
theorem dX2_isGuess_11 : decode cX2_isGuess 11 = .ok (.ireturn, 1) := by decide +kernel
theorem dX2_isPlace_0 : decode cX2_isPlace 0 = .ok (.iload_n 0, 1) := by decide +kernel
theorem dX2_isPlace_1 : decode cX2_isPlace 1 = .ok (.iconst 0, 1) := by decide +kernel
theorem dX2_isPlace_2 : decode cX2_isPlace 2 = .ok (.iconst 3, 1) := by decide +kernel
theorem dX2_isPlace_3 : decode cX2_isPlace 3 = .ok (.invokestatic 45, 3) := by decide +kernel
theorem dX2_isPlace_6 : decode cX2_isPlace 6 = .ok (.ireturn, 1) := by decide +kernel
theorem dX2_weight_0 : decode cX2_weight 0 = .ok (.iconst 1, 1) := by decide +kernel
theorem dX2_weight_1 : decode cX2_weight 1 = .ok (.istore_n 2, 1) := by decide +kernel
theorem dX2_weight_2 : decode cX2_weight 2 = .ok (.iload_n 1, 1) := by decide +kernel
theorem dX2_weight_3 : decode cX2_weight 3 = .ok (.iconst 1, 1) := by decide +kernel
theorem dX2_weight_4 : decode cX2_weight 4 = .ok (.iadd, 1) := by decide +kernel
theorem dX2_weight_5 : decode cX2_weight 5 = .ok (.istore_n 3, 1) := by decide +kernel
theorem dX2_weight_6 : decode cX2_weight 6 = .ok (.iload_n 3, 1) := by decide +kernel
theorem dX2_weight_7 : decode cX2_weight 7 = .ok (.iconst 4, 1) := by decide +kernel
theorem dX2_weight_8 : decode cX2_weight 8 = .ok (.if_icmp .ge 16, 3) := by decide +kernel
theorem dX2_weight_11 : decode cX2_weight 11 = .ok (.iload_n 2, 1) := by decide +kernel
theorem dX2_weight_12 : decode cX2_weight 12 = .ok (.aload_n 0, 1) := by decide +kernel
theorem dX2_weight_13 : decode cX2_weight 13 = .ok (.getfield 9, 3) := by decide +kernel
theorem dX2_weight_16 : decode cX2_weight 16 = .ok (.imul, 1) := by decide +kernel
theorem dX2_weight_17 : decode cX2_weight 17 = .ok (.istore_n 2, 1) := by decide +kernel
theorem dX2_weight_18 : decode cX2_weight 18 = .ok (.iinc 3 1, 3) := by decide +kernel
theorem dX2_weight_21 : decode cX2_weight 21 = .ok (.goto (-15), 3) := by decide +kernel
theorem dX2_weight_24 : decode cX2_weight 24 = .ok (.iload_n 2, 1) := by decide +kernel
theorem dX2_weight_25 : decode cX2_weight 25 = .ok (.ireturn, 1) := by decide +kernel
theorem dX2_at_0 : decode cX2_at 0 = .ok (.iload_n 1, 1) := by decide +kernel
theorem dX2_at_1 : decode cX2_at 1 = .ok (.aload_n 0, 1) := by decide +kernel
theorem dX2_at_2 : decode cX2_at 2 = .ok (.iload_n 2, 1) := by decide +kernel
theorem dX2_at_3 : decode cX2_at 3 = .ok (.invokevirtual 52, 3) := by decide +kernel
theorem dX2_at_6 : decode cX2_at 6 = .ok (.idiv, 1) := by decide +kernel
theorem dX2_at_7 : decode cX2_at 7 = .ok (.aload_n 0, 1) := by decide +kernel
theorem dX2_at_8 : decode cX2_at 8 = .ok (.getfield 9, 3) := by decide +kernel
theorem dX2_at_11 : decode cX2_at 11 = .ok (.irem, 1) := by decide +kernel
theorem dX2_at_12 : decode cX2_at 12 = .ok (.ireturn, 1) := by decide +kernel
theorem dX2_answerTo_0 : decode cX2_answerTo 0 = .ok (.iconst 0, 1) := by decide +kernel
theorem dX2_answerTo_1 : decode cX2_answerTo 1 = .ok (.istore_n 3, 1) := by decide +kernel
theorem dX2_answerTo_2 : decode cX2_answerTo 2 = .ok (.iconst 0, 1) := by decide +kernel
theorem dX2_answerTo_3 : decode cX2_answerTo 3 = .ok (.istore 4, 2) := by decide +kernel
theorem dX2_answerTo_5 : decode cX2_answerTo 5 = .ok (.iconst 0, 1) := by decide +kernel
theorem dX2_answerTo_6 : decode cX2_answerTo 6 = .ok (.istore 5, 2) := by decide +kernel
theorem dX2_answerTo_8 : decode cX2_answerTo 8 = .ok (.iload 5, 2) := by decide +kernel
theorem dX2_answerTo_10 : decode cX2_answerTo 10 = .ok (.aload_n 0, 1) := by decide +kernel
theorem dX2_answerTo_11 : decode cX2_answerTo 11 = .ok (.getfield 9, 3) := by decide +kernel
theorem dX2_answerTo_14 : decode cX2_answerTo 14 = .ok (.if_icmp .ge 25, 3) := by decide +kernel
theorem dX2_answerTo_17 : decode cX2_answerTo 17 = .ok (.aload_n 0, 1) := by decide +kernel
theorem dX2_answerTo_18 : decode cX2_answerTo 18 = .ok (.getfield 32, 3) := by decide +kernel
theorem dX2_answerTo_21 : decode cX2_answerTo 21 = .ok (.iload 5, 2) := by decide +kernel
theorem dX2_answerTo_23 : decode cX2_answerTo 23 = .ok (.iconst 0, 1) := by decide +kernel
theorem dX2_answerTo_24 : decode cX2_answerTo 24 = .ok (.iastore, 1) := by decide +kernel
theorem dX2_answerTo_25 : decode cX2_answerTo 25 = .ok (.aload_n 0, 1) := by decide +kernel
theorem dX2_answerTo_26 : decode cX2_answerTo 26 = .ok (.getfield 35, 3) := by decide +kernel
theorem dX2_answerTo_29 : decode cX2_answerTo 29 = .ok (.iload 5, 2) := by decide +kernel
theorem dX2_answerTo_31 : decode cX2_answerTo 31 = .ok (.iconst 0, 1) := by decide +kernel
theorem dX2_answerTo_32 : decode cX2_answerTo 32 = .ok (.iastore, 1) := by decide +kernel
theorem dX2_answerTo_33 : decode cX2_answerTo 33 = .ok (.iinc 5 1, 3) := by decide +kernel
theorem dX2_answerTo_36 : decode cX2_answerTo 36 = .ok (.goto (-28), 3) := by decide +kernel
theorem dX2_answerTo_39 : decode cX2_answerTo 39 = .ok (.iconst 0, 1) := by decide +kernel
theorem dX2_answerTo_40 : decode cX2_answerTo 40 = .ok (.istore 5, 2) := by decide +kernel
theorem dX2_answerTo_42 : decode cX2_answerTo 42 = .ok (.iload 5, 2) := by decide +kernel
theorem dX2_answerTo_44 : decode cX2_answerTo 44 = .ok (.iconst 4, 1) := by decide +kernel
theorem dX2_answerTo_45 : decode cX2_answerTo 45 = .ok (.if_icmp .ge 66, 3) := by decide +kernel
theorem dX2_answerTo_48 : decode cX2_answerTo 48 = .ok (.aload_n 0, 1) := by decide +kernel
theorem dX2_answerTo_49 : decode cX2_answerTo 49 = .ok (.getfield 32, 3) := by decide +kernel
theorem dX2_answerTo_52 : decode cX2_answerTo 52 = .ok (.aload_n 0, 1) := by decide +kernel
theorem dX2_answerTo_53 : decode cX2_answerTo 53 = .ok (.iload_n 1, 1) := by decide +kernel
theorem dX2_answerTo_54 : decode cX2_answerTo 54 = .ok (.iload 5, 2) := by decide +kernel
theorem dX2_answerTo_56 : decode cX2_answerTo 56 = .ok (.invokevirtual 56, 3) := by decide +kernel
theorem dX2_answerTo_59 : decode cX2_answerTo 59 = .ok (.dup2, 1) := by decide +kernel
theorem dX2_answerTo_60 : decode cX2_answerTo 60 = .ok (.iaload, 1) := by decide +kernel
theorem dX2_answerTo_61 : decode cX2_answerTo 61 = .ok (.iconst 1, 1) := by decide +kernel
theorem dX2_answerTo_62 : decode cX2_answerTo 62 = .ok (.iadd, 1) := by decide +kernel
theorem dX2_answerTo_63 : decode cX2_answerTo 63 = .ok (.iastore, 1) := by decide +kernel
theorem dX2_answerTo_64 : decode cX2_answerTo 64 = .ok (.aload_n 0, 1) := by decide +kernel
theorem dX2_answerTo_65 : decode cX2_answerTo 65 = .ok (.getfield 35, 3) := by decide +kernel
theorem dX2_answerTo_68 : decode cX2_answerTo 68 = .ok (.aload_n 0, 1) := by decide +kernel
theorem dX2_answerTo_69 : decode cX2_answerTo 69 = .ok (.iload_n 2, 1) := by decide +kernel
theorem dX2_answerTo_70 : decode cX2_answerTo 70 = .ok (.iload 5, 2) := by decide +kernel
theorem dX2_answerTo_72 : decode cX2_answerTo 72 = .ok (.invokevirtual 56, 3) := by decide +kernel
theorem dX2_answerTo_75 : decode cX2_answerTo 75 = .ok (.dup2, 1) := by decide +kernel
theorem dX2_answerTo_76 : decode cX2_answerTo 76 = .ok (.iaload, 1) := by decide +kernel
theorem dX2_answerTo_77 : decode cX2_answerTo 77 = .ok (.iconst 1, 1) := by decide +kernel
theorem dX2_answerTo_78 : decode cX2_answerTo 78 = .ok (.iadd, 1) := by decide +kernel
theorem dX2_answerTo_79 : decode cX2_answerTo 79 = .ok (.iastore, 1) := by decide +kernel
theorem dX2_answerTo_80 : decode cX2_answerTo 80 = .ok (.iload_n 3, 1) := by decide +kernel
theorem dX2_answerTo_81 : decode cX2_answerTo 81 = .ok (.aload_n 0, 1) := by decide +kernel
theorem dX2_answerTo_82 : decode cX2_answerTo 82 = .ok (.iload_n 1, 1) := by decide +kernel
theorem dX2_answerTo_83 : decode cX2_answerTo 83 = .ok (.iload 5, 2) := by decide +kernel
theorem dX2_answerTo_85 : decode cX2_answerTo 85 = .ok (.invokevirtual 56, 3) := by decide +kernel
theorem dX2_answerTo_88 : decode cX2_answerTo 88 = .ok (.aload_n 0, 1) := by decide +kernel
theorem dX2_answerTo_89 : decode cX2_answerTo 89 = .ok (.iload_n 2, 1) := by decide +kernel
theorem dX2_answerTo_90 : decode cX2_answerTo 90 = .ok (.iload 5, 2) := by decide +kernel
theorem dX2_answerTo_92 : decode cX2_answerTo 92 = .ok (.invokevirtual 56, 3) := by decide +kernel
theorem dX2_answerTo_95 : decode cX2_answerTo 95 = .ok (.if_icmp .ne 7, 3) := by decide +kernel
theorem dX2_answerTo_98 : decode cX2_answerTo 98 = .ok (.iconst 1, 1) := by decide +kernel
theorem dX2_answerTo_99 : decode cX2_answerTo 99 = .ok (.goto 4, 3) := by decide +kernel
theorem dX2_answerTo_102 : decode cX2_answerTo 102 = .ok (.iconst 0, 1) := by decide +kernel
theorem dX2_answerTo_103 : decode cX2_answerTo 103 = .ok (.iadd, 1) := by decide +kernel
theorem dX2_answerTo_104 : decode cX2_answerTo 104 = .ok (.istore_n 3, 1) := by decide +kernel
theorem dX2_answerTo_105 : decode cX2_answerTo 105 = .ok (.iinc 5 1, 3) := by decide +kernel
theorem dX2_answerTo_108 : decode cX2_answerTo 108 = .ok (.goto (-66), 3) := by decide +kernel
theorem dX2_answerTo_111 : decode cX2_answerTo 111 = .ok (.iconst 0, 1) := by decide +kernel
theorem dX2_answerTo_112 : decode cX2_answerTo 112 = .ok (.istore 5, 2) := by decide +kernel
theorem dX2_answerTo_114 : decode cX2_answerTo 114 = .ok (.iload 5, 2) := by decide +kernel
theorem dX2_answerTo_116 : decode cX2_answerTo 116 = .ok (.aload_n 0, 1) := by decide +kernel
theorem dX2_answerTo_117 : decode cX2_answerTo 117 = .ok (.getfield 9, 3) := by decide +kernel
theorem dX2_answerTo_120 : decode cX2_answerTo 120 = .ok (.if_icmp .ge 31, 3) := by decide +kernel
theorem dX2_answerTo_123 : decode cX2_answerTo 123 = .ok (.iload 4, 2) := by decide +kernel
theorem dX2_answerTo_125 : decode cX2_answerTo 125 = .ok (.aload_n 0, 1) := by decide +kernel
theorem dX2_answerTo_126 : decode cX2_answerTo 126 = .ok (.getfield 32, 3) := by decide +kernel
theorem dX2_answerTo_129 : decode cX2_answerTo 129 = .ok (.iload 5, 2) := by decide +kernel
theorem dX2_answerTo_131 : decode cX2_answerTo 131 = .ok (.iaload, 1) := by decide +kernel
theorem dX2_answerTo_132 : decode cX2_answerTo 132 = .ok (.aload_n 0, 1) := by decide +kernel
theorem dX2_answerTo_133 : decode cX2_answerTo 133 = .ok (.getfield 35, 3) := by decide +kernel
theorem dX2_answerTo_136 : decode cX2_answerTo 136 = .ok (.iload 5, 2) := by decide +kernel
theorem dX2_answerTo_138 : decode cX2_answerTo 138 = .ok (.iaload, 1) := by decide +kernel
theorem dX2_answerTo_139 : decode cX2_answerTo 139 = .ok (.invokestatic 60, 3) := by decide +kernel
theorem dX2_answerTo_142 : decode cX2_answerTo 142 = .ok (.iadd, 1) := by decide +kernel
theorem dX2_answerTo_143 : decode cX2_answerTo 143 = .ok (.istore 4, 2) := by decide +kernel
theorem dX2_answerTo_145 : decode cX2_answerTo 145 = .ok (.iinc 5 1, 3) := by decide +kernel
theorem dX2_answerTo_148 : decode cX2_answerTo 148 = .ok (.goto (-34), 3) := by decide +kernel
theorem dX2_answerTo_151 : decode cX2_answerTo 151 = .ok (.iconst 5, 1) := by decide +kernel
theorem dX2_answerTo_152 : decode cX2_answerTo 152 = .ok (.iload_n 3, 1) := by decide +kernel
theorem dX2_answerTo_153 : decode cX2_answerTo 153 = .ok (.imul, 1) := by decide +kernel
theorem dX2_answerTo_154 : decode cX2_answerTo 154 = .ok (.iload 4, 2) := by decide +kernel
theorem dX2_answerTo_156 : decode cX2_answerTo 156 = .ok (.iadd, 1) := by decide +kernel
theorem dX2_answerTo_157 : decode cX2_answerTo 157 = .ok (.iload_n 3, 1) := by decide +kernel
theorem dX2_answerTo_158 : decode cX2_answerTo 158 = .ok (.isub, 1) := by decide +kernel
theorem dX2_answerTo_159 : decode cX2_answerTo 159 = .ok (.ireturn, 1) := by decide +kernel
theorem dX2_fits_0 : decode cX2_fits 0 = .ok (.iconst 0, 1) := by decide +kernel
theorem dX2_fits_1 : decode cX2_fits 1 = .ok (.istore_n 3, 1) := by decide +kernel
theorem dX2_fits_2 : decode cX2_fits 2 = .ok (.iload_n 3, 1) := by decide +kernel
theorem dX2_fits_3 : decode cX2_fits 3 = .ok (.iload_n 2, 1) := by decide +kernel
theorem dX2_fits_4 : decode cX2_fits 4 = .ok (.if_icmp .ge 40, 3) := by decide +kernel
theorem dX2_fits_7 : decode cX2_fits 7 = .ok (.aload_n 0, 1) := by decide +kernel
theorem dX2_fits_8 : decode cX2_fits 8 = .ok (.getfield 23, 3) := by decide +kernel
theorem dX2_fits_11 : decode cX2_fits 11 = .ok (.iload_n 3, 1) := by decide +kernel
theorem dX2_fits_12 : decode cX2_fits 12 = .ok (.iaload, 1) := by decide +kernel
theorem dX2_fits_13 : decode cX2_fits 13 = .ok (.ifCond .ne 25, 3) := by decide +kernel
theorem dX2_fits_16 : decode cX2_fits 16 = .ok (.aload_n 0, 1) := by decide +kernel
theorem dX2_fits_17 : decode cX2_fits 17 = .ok (.aload_n 0, 1) := by decide +kernel
theorem dX2_fits_18 : decode cX2_fits 18 = .ok (.getfield 16, 3) := by decide +kernel
theorem dX2_fits_21 : decode cX2_fits 21 = .ok (.iload_n 3, 1) := by decide +kernel
theorem dX2_fits_22 : decode cX2_fits 22 = .ok (.iaload, 1) := by decide +kernel
theorem dX2_fits_23 : decode cX2_fits 23 = .ok (.iload_n 1, 1) := by decide +kernel
theorem dX2_fits_24 : decode cX2_fits 24 = .ok (.invokevirtual 65, 3) := by decide +kernel
theorem dX2_fits_27 : decode cX2_fits 27 = .ok (.aload_n 0, 1) := by decide +kernel
theorem dX2_fits_28 : decode cX2_fits 28 = .ok (.getfield 20, 3) := by decide +kernel
theorem dX2_fits_31 : decode cX2_fits 31 = .ok (.iload_n 3, 1) := by decide +kernel
theorem dX2_fits_32 : decode cX2_fits 32 = .ok (.iaload, 1) := by decide +kernel
theorem dX2_fits_33 : decode cX2_fits 33 = .ok (.if_icmp .eq 5, 3) := by decide +kernel
theorem dX2_fits_36 : decode cX2_fits 36 = .ok (.iconst 0, 1) := by decide +kernel
theorem dX2_fits_37 : decode cX2_fits 37 = .ok (.ireturn, 1) := by decide +kernel
theorem dX2_fits_38 : decode cX2_fits 38 = .ok (.iinc 3 1, 3) := by decide +kernel
theorem dX2_fits_41 : decode cX2_fits 41 = .ok (.goto (-39), 3) := by decide +kernel
theorem dX2_fits_44 : decode cX2_fits 44 = .ok (.iconst 1, 1) := by decide +kernel
theorem dX2_fits_45 : decode cX2_fits 45 = .ok (.ireturn, 1) := by decide +kernel
theorem dX2_look_0 : decode cX2_look 0 = .ok (.aload_n 0, 1) := by decide +kernel
theorem dX2_look_1 : decode cX2_look 1 = .ok (.iconst 0, 1) := by decide +kernel
theorem dX2_look_2 : decode cX2_look 2 = .ok (.putfield 68, 3) := by decide +kernel
theorem dX2_look_5 : decode cX2_look 5 = .ok (.iconst 0, 1) := by decide +kernel
theorem dX2_look_6 : decode cX2_look 6 = .ok (.istore_n 2, 1) := by decide +kernel
theorem dX2_look_7 : decode cX2_look 7 = .ok (.iload_n 2, 1) := by decide +kernel
theorem dX2_look_8 : decode cX2_look 8 = .ok (.aload_n 0, 1) := by decide +kernel
theorem dX2_look_9 : decode cX2_look 9 = .ok (.invokevirtual 41, 3) := by decide +kernel
theorem dX2_look_12 : decode cX2_look 12 = .ok (.if_icmp .ge 41, 3) := by decide +kernel
theorem dX2_look_15 : decode cX2_look 15 = .ok (.aload_n 0, 1) := by decide +kernel
theorem dX2_look_16 : decode cX2_look 16 = .ok (.iload_n 2, 1) := by decide +kernel
theorem dX2_look_17 : decode cX2_look 17 = .ok (.iload_n 1, 1) := by decide +kernel
theorem dX2_look_18 : decode cX2_look 18 = .ok (.invokevirtual 71, 3) := by decide +kernel
theorem dX2_look_21 : decode cX2_look 21 = .ok (.ifCond .ne 6, 3) := by decide +kernel
theorem dX2_look_24 : decode cX2_look 24 = .ok (.goto 23, 3) := by decide +kernel
theorem dX2_look_27 : decode cX2_look 27 = .ok (.aload_n 0, 1) := by decide +kernel
theorem dX2_look_28 : decode cX2_look 28 = .ok (.getfield 26, 3) := by decide +kernel
theorem dX2_look_31 : decode cX2_look 31 = .ok (.aload_n 0, 1) := by decide +kernel
theorem dX2_look_32 : decode cX2_look 32 = .ok (.getfield 68, 3) := by decide +kernel
theorem dX2_look_35 : decode cX2_look 35 = .ok (.iload_n 2, 1) := by decide +kernel
theorem dX2_look_36 : decode cX2_look 36 = .ok (.iastore, 1) := by decide +kernel
theorem dX2_look_37 : decode cX2_look 37 = .ok (.aload_n 0, 1) := by decide +kernel
theorem dX2_look_38 : decode cX2_look 38 = .ok (.dup, 1) := by decide +kernel
theorem dX2_look_39 : decode cX2_look 39 = .ok (.getfield 68, 3) := by decide +kernel
theorem dX2_look_42 : decode cX2_look 42 = .ok (.iconst 1, 1) := by decide +kernel
theorem dX2_look_43 : decode cX2_look 43 = .ok (.iadd, 1) := by decide +kernel
theorem dX2_look_44 : decode cX2_look 44 = .ok (.putfield 68, 3) := by decide +kernel
theorem dX2_look_47 : decode cX2_look 47 = .ok (.iinc 2 1, 3) := by decide +kernel
theorem dX2_look_50 : decode cX2_look 50 = .ok (.goto (-43), 3) := by decide +kernel
theorem dX2_look_53 : decode cX2_look 53 = .ok (.aload_n 0, 1) := by decide +kernel
theorem dX2_look_54 : decode cX2_look 54 = .ok (.getfield 68, 3) := by decide +kernel
theorem dX2_look_57 : decode cX2_look 57 = .ok (.ireturn, 1) := by decide +kernel
theorem dX2_pile_0 : decode cX2_pile 0 = .ok (.iconst 0, 1) := by decide +kernel
theorem dX2_pile_1 : decode cX2_pile 1 = .ok (.istore_n 2, 1) := by decide +kernel
theorem dX2_pile_2 : decode cX2_pile 2 = .ok (.iload_n 2, 1) := by decide +kernel
theorem dX2_pile_3 : decode cX2_pile 3 = .ok (.bipush 21, 2) := by decide +kernel
theorem dX2_pile_5 : decode cX2_pile 5 = .ok (.if_icmp .ge 16, 3) := by decide +kernel
theorem dX2_pile_8 : decode cX2_pile 8 = .ok (.aload_n 0, 1) := by decide +kernel
theorem dX2_pile_9 : decode cX2_pile 9 = .ok (.getfield 29, 3) := by decide +kernel
theorem dX2_pile_12 : decode cX2_pile 12 = .ok (.iload_n 2, 1) := by decide +kernel
theorem dX2_pile_13 : decode cX2_pile 13 = .ok (.iconst 0, 1) := by decide +kernel
theorem dX2_pile_14 : decode cX2_pile 14 = .ok (.iastore, 1) := by decide +kernel
theorem dX2_pile_15 : decode cX2_pile 15 = .ok (.iinc 2 1, 3) := by decide +kernel
theorem dX2_pile_18 : decode cX2_pile 18 = .ok (.goto (-16), 3) := by decide +kernel
theorem dX2_pile_21 : decode cX2_pile 21 = .ok (.iconst 0, 1) := by decide +kernel
theorem dX2_pile_22 : decode cX2_pile 22 = .ok (.istore_n 2, 1) := by decide +kernel
theorem dX2_pile_23 : decode cX2_pile 23 = .ok (.iload_n 2, 1) := by decide +kernel
theorem dX2_pile_24 : decode cX2_pile 24 = .ok (.aload_n 0, 1) := by decide +kernel
theorem dX2_pile_25 : decode cX2_pile 25 = .ok (.getfield 68, 3) := by decide +kernel
theorem dX2_pile_28 : decode cX2_pile 28 = .ok (.if_icmp .ge 29, 3) := by decide +kernel
theorem dX2_pile_31 : decode cX2_pile 31 = .ok (.aload_n 0, 1) := by decide +kernel
theorem dX2_pile_32 : decode cX2_pile 32 = .ok (.getfield 29, 3) := by decide +kernel
theorem dX2_pile_35 : decode cX2_pile 35 = .ok (.aload_n 0, 1) := by decide +kernel
theorem dX2_pile_36 : decode cX2_pile 36 = .ok (.iload_n 1, 1) := by decide +kernel
theorem dX2_pile_37 : decode cX2_pile 37 = .ok (.aload_n 0, 1) := by decide +kernel
theorem dX2_pile_38 : decode cX2_pile 38 = .ok (.getfield 26, 3) := by decide +kernel
theorem dX2_pile_41 : decode cX2_pile 41 = .ok (.iload_n 2, 1) := by decide +kernel
theorem dX2_pile_42 : decode cX2_pile 42 = .ok (.iaload, 1) := by decide +kernel
theorem dX2_pile_43 : decode cX2_pile 43 = .ok (.invokevirtual 65, 3) := by decide +kernel
theorem dX2_pile_46 : decode cX2_pile 46 = .ok (.dup2, 1) := by decide +kernel
theorem dX2_pile_47 : decode cX2_pile 47 = .ok (.iaload, 1) := by decide +kernel
theorem dX2_pile_48 : decode cX2_pile 48 = .ok (.iconst 1, 1) := by decide +kernel
theorem dX2_pile_49 : decode cX2_pile 49 = .ok (.iadd, 1) := by decide +kernel
theorem dX2_pile_50 : decode cX2_pile 50 = .ok (.iastore, 1) := by decide +kernel
theorem dX2_pile_51 : decode cX2_pile 51 = .ok (.iinc 2 1, 3) := by decide +kernel
theorem dX2_pile_54 : decode cX2_pile 54 = .ok (.goto (-31), 3) := by decide +kernel
theorem dX2_pile_57 : decode cX2_pile 57 = .ok (.return_, 1) := by decide +kernel
theorem dX2_greatest_0 : decode cX2_greatest 0 = .ok (.aload_n 0, 1) := by decide +kernel
theorem dX2_greatest_1 : decode cX2_greatest 1 = .ok (.iload_n 1, 1) := by decide +kernel
theorem dX2_greatest_2 : decode cX2_greatest 2 = .ok (.invokevirtual 75, 3) := by decide +kernel
theorem dX2_greatest_5 : decode cX2_greatest 5 = .ok (.iconst 0, 1) := by decide +kernel
theorem dX2_greatest_6 : decode cX2_greatest 6 = .ok (.istore_n 2, 1) := by decide +kernel
theorem dX2_greatest_7 : decode cX2_greatest 7 = .ok (.aload_n 0, 1) := by decide +kernel
theorem dX2_greatest_8 : decode cX2_greatest 8 = .ok (.getfield 29, 3) := by decide +kernel
theorem dX2_greatest_11 : decode cX2_greatest 11 = .ok (.astore_n 3, 1) := by decide +kernel
theorem dX2_greatest_12 : decode cX2_greatest 12 = .ok (.aload_n 3, 1) := by decide +kernel
theorem dX2_greatest_13 : decode cX2_greatest 13 = .ok (.arraylength, 1) := by decide +kernel
theorem dX2_greatest_14 : decode cX2_greatest 14 = .ok (.istore 4, 2) := by decide +kernel
theorem dX2_greatest_16 : decode cX2_greatest 16 = .ok (.iconst 0, 1) := by decide +kernel
theorem dX2_greatest_17 : decode cX2_greatest 17 = .ok (.istore 5, 2) := by decide +kernel
theorem dX2_greatest_19 : decode cX2_greatest 19 = .ok (.iload 5, 2) := by decide +kernel
theorem dX2_greatest_21 : decode cX2_greatest 21 = .ok (.iload 4, 2) := by decide +kernel
theorem dX2_greatest_23 : decode cX2_greatest 23 = .ok (.if_icmp .ge 22, 3) := by decide +kernel
theorem dX2_greatest_26 : decode cX2_greatest 26 = .ok (.aload_n 3, 1) := by decide +kernel
theorem dX2_greatest_27 : decode cX2_greatest 27 = .ok (.iload 5, 2) := by decide +kernel
theorem dX2_greatest_29 : decode cX2_greatest 29 = .ok (.iaload, 1) := by decide +kernel
theorem dX2_greatest_30 : decode cX2_greatest 30 = .ok (.istore 6, 2) := by decide +kernel
theorem dX2_greatest_32 : decode cX2_greatest 32 = .ok (.iload_n 2, 1) := by decide +kernel
theorem dX2_greatest_33 : decode cX2_greatest 33 = .ok (.iload 6, 2) := by decide +kernel
theorem dX2_greatest_35 : decode cX2_greatest 35 = .ok (.invokestatic 79, 3) := by decide +kernel
theorem dX2_greatest_38 : decode cX2_greatest 38 = .ok (.istore_n 2, 1) := by decide +kernel
theorem dX2_greatest_39 : decode cX2_greatest 39 = .ok (.iinc 5 1, 3) := by decide +kernel
theorem dX2_greatest_42 : decode cX2_greatest 42 = .ok (.goto (-23), 3) := by decide +kernel
theorem dX2_greatest_45 : decode cX2_greatest 45 = .ok (.iload_n 2, 1) := by decide +kernel
theorem dX2_greatest_46 : decode cX2_greatest 46 = .ok (.ireturn, 1) := by decide +kernel
theorem dX2_heaps_0 : decode cX2_heaps 0 = .ok (.aload_n 0, 1) := by decide +kernel
theorem dX2_heaps_1 : decode cX2_heaps 1 = .ok (.iload_n 1, 1) := by decide +kernel
theorem dX2_heaps_2 : decode cX2_heaps 2 = .ok (.invokevirtual 75, 3) := by decide +kernel
theorem dX2_heaps_5 : decode cX2_heaps 5 = .ok (.iconst 0, 1) := by decide +kernel
theorem dX2_heaps_6 : decode cX2_heaps 6 = .ok (.istore_n 2, 1) := by decide +kernel
theorem dX2_heaps_7 : decode cX2_heaps 7 = .ok (.aload_n 0, 1) := by decide +kernel
theorem dX2_heaps_8 : decode cX2_heaps 8 = .ok (.getfield 29, 3) := by decide +kernel
theorem dX2_heaps_11 : decode cX2_heaps 11 = .ok (.astore_n 3, 1) := by decide +kernel
theorem dX2_heaps_12 : decode cX2_heaps 12 = .ok (.aload_n 3, 1) := by decide +kernel
theorem dX2_heaps_13 : decode cX2_heaps 13 = .ok (.arraylength, 1) := by decide +kernel
theorem dX2_heaps_14 : decode cX2_heaps 14 = .ok (.istore 4, 2) := by decide +kernel
theorem dX2_heaps_16 : decode cX2_heaps 16 = .ok (.iconst 0, 1) := by decide +kernel
theorem dX2_heaps_17 : decode cX2_heaps 17 = .ok (.istore 5, 2) := by decide +kernel
theorem dX2_heaps_19 : decode cX2_heaps 19 = .ok (.iload 5, 2) := by decide +kernel
theorem dX2_heaps_21 : decode cX2_heaps 21 = .ok (.iload 4, 2) := by decide +kernel
theorem dX2_heaps_23 : decode cX2_heaps 23 = .ok (.if_icmp .ge 28, 3) := by decide +kernel
theorem dX2_heaps_26 : decode cX2_heaps 26 = .ok (.aload_n 3, 1) := by decide +kernel
theorem dX2_heaps_27 : decode cX2_heaps 27 = .ok (.iload 5, 2) := by decide +kernel
theorem dX2_heaps_29 : decode cX2_heaps 29 = .ok (.iaload, 1) := by decide +kernel
theorem dX2_heaps_30 : decode cX2_heaps 30 = .ok (.istore 6, 2) := by decide +kernel
theorem dX2_heaps_32 : decode cX2_heaps 32 = .ok (.iload_n 2, 1) := by decide +kernel
theorem dX2_heaps_33 : decode cX2_heaps 33 = .ok (.iload 6, 2) := by decide +kernel
theorem dX2_heaps_35 : decode cX2_heaps 35 = .ok (.ifCond .le 7, 3) := by decide +kernel
theorem dX2_heaps_38 : decode cX2_heaps 38 = .ok (.iconst 1, 1) := by decide +kernel
theorem dX2_heaps_39 : decode cX2_heaps 39 = .ok (.goto 4, 3) := by decide +kernel
theorem dX2_heaps_42 : decode cX2_heaps 42 = .ok (.iconst 0, 1) := by decide +kernel
theorem dX2_heaps_43 : decode cX2_heaps 43 = .ok (.iadd, 1) := by decide +kernel
theorem dX2_heaps_44 : decode cX2_heaps 44 = .ok (.istore_n 2, 1) := by decide +kernel
theorem dX2_heaps_45 : decode cX2_heaps 45 = .ok (.iinc 5 1, 3) := by decide +kernel
theorem dX2_heaps_48 : decode cX2_heaps 48 = .ok (.goto (-29), 3) := by decide +kernel
theorem dX2_heaps_51 : decode cX2_heaps 51 = .ok (.iload_n 2, 1) := by decide +kernel
theorem dX2_heaps_52 : decode cX2_heaps 52 = .ok (.ireturn, 1) := by decide +kernel
theorem dX2_place_0 : decode cX2_place 0 = .ok (.iconst 0, 1) := by decide +kernel
theorem dX2_place_1 : decode cX2_place 1 = .ok (.istore_n 2, 1) := by decide +kernel
theorem dX2_place_2 : decode cX2_place 2 = .ok (.iload_n 2, 1) := by decide +kernel
theorem dX2_place_3 : decode cX2_place 3 = .ok (.aload_n 0, 1) := by decide +kernel
theorem dX2_place_4 : decode cX2_place 4 = .ok (.getfield 68, 3) := by decide +kernel
theorem dX2_place_7 : decode cX2_place 7 = .ok (.if_icmp .ge 21, 3) := by decide +kernel
theorem dX2_place_10 : decode cX2_place 10 = .ok (.aload_n 0, 1) := by decide +kernel
theorem dX2_place_11 : decode cX2_place 11 = .ok (.getfield 26, 3) := by decide +kernel
theorem dX2_place_14 : decode cX2_place 14 = .ok (.iload_n 2, 1) := by decide +kernel
theorem dX2_place_15 : decode cX2_place 15 = .ok (.iaload, 1) := by decide +kernel
theorem dX2_place_16 : decode cX2_place 16 = .ok (.iload_n 1, 1) := by decide +kernel
theorem dX2_place_17 : decode cX2_place 17 = .ok (.if_icmp .ne 5, 3) := by decide +kernel
theorem dX2_place_20 : decode cX2_place 20 = .ok (.iload_n 2, 1) := by decide +kernel
theorem dX2_place_21 : decode cX2_place 21 = .ok (.ireturn, 1) := by decide +kernel
theorem dX2_place_22 : decode cX2_place 22 = .ok (.iinc 2 1, 3) := by decide +kernel
theorem dX2_place_25 : decode cX2_place 25 = .ok (.goto (-23), 3) := by decide +kernel
theorem dX2_place_28 : decode cX2_place 28 = .ok (.iconst (-1), 1) := by decide +kernel
theorem dX2_place_29 : decode cX2_place 29 = .ok (.ireturn, 1) := by decide +kernel
theorem dX2_setColours_0 : decode cX2_setColours 0 = .ok (.aload_n 0, 1) := by decide +kernel
theorem dX2_setColours_1 : decode cX2_setColours 1 = .ok (.iconst 0, 1) := by decide +kernel
theorem dX2_setColours_2 : decode cX2_setColours 2 = .ok (.putfield 38, 3) := by decide +kernel
theorem dX2_setColours_5 : decode cX2_setColours 5 = .ok (.iload_n 1, 1) := by decide +kernel
theorem dX2_setColours_6 : decode cX2_setColours 6 = .ok (.iconst 2, 1) := by decide +kernel
theorem dX2_setColours_7 : decode cX2_setColours 7 = .ok (.iconst 3, 1) := by decide +kernel
theorem dX2_setColours_8 : decode cX2_setColours 8 = .ok (.invokestatic 45, 3) := by decide +kernel
theorem dX2_setColours_11 : decode cX2_setColours 11 = .ok (.ifCond .ne 9, 3) := by decide +kernel
theorem dX2_setColours_14 : decode cX2_setColours 14 = .ok (.aload_n 0, 1) := by decide +kernel
theorem dX2_setColours_15 : decode cX2_setColours 15 = .ok (.iconst 1, 1) := by decide +kernel
theorem dX2_setColours_16 : decode cX2_setColours 16 = .ok (.invokevirtual 82, 3) := by decide +kernel
theorem dX2_setColours_19 : decode cX2_setColours 19 = .ok (.ireturn, 1) := by decide +kernel
theorem dX2_setColours_20 : decode cX2_setColours 20 = .ok (.aload_n 0, 1) := by decide +kernel
theorem dX2_setColours_21 : decode cX2_setColours 21 = .ok (.getfield 9, 3) := by decide +kernel
theorem dX2_setColours_24 : decode cX2_setColours 24 = .ok (.istore_n 2, 1) := by decide +kernel
theorem dX2_setColours_25 : decode cX2_setColours 25 = .ok (.aload_n 0, 1) := by decide +kernel
theorem dX2_setColours_26 : decode cX2_setColours 26 = .ok (.iload_n 1, 1) := by decide +kernel
theorem dX2_setColours_27 : decode cX2_setColours 27 = .ok (.putfield 9, 3) := by decide +kernel
theorem dX2_setColours_30 : decode cX2_setColours 30 = .ok (.aload_n 0, 1) := by decide +kernel
theorem dX2_setColours_31 : decode cX2_setColours 31 = .ok (.iconst (-1), 1) := by decide +kernel
theorem dX2_setColours_32 : decode cX2_setColours 32 = .ok (.putfield 13, 3) := by decide +kernel
theorem dX2_setColours_35 : decode cX2_setColours 35 = .ok (.aload_n 0, 1) := by decide +kernel
theorem dX2_setColours_36 : decode cX2_setColours 36 = .ok (.iconst 0, 1) := by decide +kernel
theorem dX2_setColours_37 : decode cX2_setColours 37 = .ok (.putfield 49, 3) := by decide +kernel
theorem dX2_setColours_40 : decode cX2_setColours 40 = .ok (.iload_n 2, 1) := by decide +kernel
theorem dX2_setColours_41 : decode cX2_setColours 41 = .ok (.ireturn, 1) := by decide +kernel
theorem dX2_hide_0 : decode cX2_hide 0 = .ok (.aload_n 0, 1) := by decide +kernel
theorem dX2_hide_1 : decode cX2_hide 1 = .ok (.iconst 0, 1) := by decide +kernel
theorem dX2_hide_2 : decode cX2_hide 2 = .ok (.putfield 38, 3) := by decide +kernel
theorem dX2_hide_5 : decode cX2_hide 5 = .ok (.aload_n 0, 1) := by decide +kernel
theorem dX2_hide_6 : decode cX2_hide 6 = .ok (.iload_n 1, 1) := by decide +kernel
theorem dX2_hide_7 : decode cX2_hide 7 = .ok (.invokevirtual 85, 3) := by decide +kernel
theorem dX2_hide_10 : decode cX2_hide 10 = .ok (.ifCond .ne 9, 3) := by decide +kernel
theorem dX2_hide_13 : decode cX2_hide 13 = .ok (.aload_n 0, 1) := by decide +kernel
theorem dX2_hide_14 : decode cX2_hide 14 = .ok (.iconst 1, 1) := by decide +kernel
theorem dX2_hide_15 : decode cX2_hide 15 = .ok (.invokevirtual 82, 3) := by decide +kernel
theorem dX2_hide_18 : decode cX2_hide 18 = .ok (.ireturn, 1) := by decide +kernel
theorem dX2_hide_19 : decode cX2_hide 19 = .ok (.aload_n 0, 1) := by decide +kernel
theorem dX2_hide_20 : decode cX2_hide 20 = .ok (.getfield 13, 3) := by decide +kernel
theorem dX2_hide_23 : decode cX2_hide 23 = .ok (.istore_n 2, 1) := by decide +kernel
theorem dX2_hide_24 : decode cX2_hide 24 = .ok (.aload_n 0, 1) := by decide +kernel
theorem dX2_hide_25 : decode cX2_hide 25 = .ok (.iload_n 1, 1) := by decide +kernel
theorem dX2_hide_26 : decode cX2_hide 26 = .ok (.putfield 13, 3) := by decide +kernel
theorem dX2_hide_29 : decode cX2_hide 29 = .ok (.iload_n 2, 1) := by decide +kernel
theorem dX2_hide_30 : decode cX2_hide 30 = .ok (.ireturn, 1) := by decide +kernel
theorem dX2_swap_0 : decode cX2_swap 0 = .ok (.aload_n 0, 1) := by decide +kernel
theorem dX2_swap_1 : decode cX2_swap 1 = .ok (.iconst 0, 1) := by decide +kernel
theorem dX2_swap_2 : decode cX2_swap 2 = .ok (.putfield 38, 3) := by decide +kernel
theorem dX2_swap_5 : decode cX2_swap 5 = .ok (.iload_n 1, 1) := by decide +kernel
theorem dX2_swap_6 : decode cX2_swap 6 = .ok (.invokestatic 89, 3) := by decide +kernel
theorem dX2_swap_9 : decode cX2_swap 9 = .ok (.ifCond .eq 10, 3) := by decide +kernel
theorem dX2_swap_12 : decode cX2_swap 12 = .ok (.iload_n 2, 1) := by decide +kernel
theorem dX2_swap_13 : decode cX2_swap 13 = .ok (.invokestatic 89, 3) := by decide +kernel
theorem dX2_swap_16 : decode cX2_swap 16 = .ok (.ifCond .ne 9, 3) := by decide +kernel
theorem dX2_swap_19 : decode cX2_swap 19 = .ok (.aload_n 0, 1) := by decide +kernel
theorem dX2_swap_20 : decode cX2_swap 20 = .ok (.iconst 1, 1) := by decide +kernel
theorem dX2_swap_21 : decode cX2_swap 21 = .ok (.invokevirtual 82, 3) := by decide +kernel
theorem dX2_swap_24 : decode cX2_swap 24 = .ok (.ireturn, 1) := by decide +kernel
theorem dX2_swap_25 : decode cX2_swap 25 = .ok (.aload_n 0, 1) := by decide +kernel
theorem dX2_swap_26 : decode cX2_swap 26 = .ok (.getfield 13, 3) := by decide +kernel
theorem dX2_swap_29 : decode cX2_swap 29 = .ok (.iconst (-1), 1) := by decide +kernel
theorem dX2_swap_30 : decode cX2_swap 30 = .ok (.if_icmp .ne 9, 3) := by decide +kernel
theorem dX2_swap_33 : decode cX2_swap 33 = .ok (.aload_n 0, 1) := by decide +kernel
theorem dX2_swap_34 : decode cX2_swap 34 = .ok (.iconst 2, 1) := by decide +kernel
theorem dX2_swap_35 : decode cX2_swap 35 = .ok (.invokevirtual 82, 3) := by decide +kernel
theorem dX2_swap_38 : decode cX2_swap 38 = .ok (.ireturn, 1) := by decide +kernel
theorem dX2_swap_39 : decode cX2_swap 39 = .ok (.aload_n 0, 1) := by decide +kernel
theorem dX2_swap_40 : decode cX2_swap 40 = .ok (.aload_n 0, 1) := by decide +kernel
theorem dX2_swap_41 : decode cX2_swap 41 = .ok (.getfield 13, 3) := by decide +kernel
theorem dX2_swap_44 : decode cX2_swap 44 = .ok (.iload_n 1, 1) := by decide +kernel
theorem dX2_swap_45 : decode cX2_swap 45 = .ok (.invokevirtual 56, 3) := by decide +kernel
theorem dX2_swap_48 : decode cX2_swap 48 = .ok (.istore_n 3, 1) := by decide +kernel
theorem dX2_swap_49 : decode cX2_swap 49 = .ok (.aload_n 0, 1) := by decide +kernel
theorem dX2_swap_50 : decode cX2_swap 50 = .ok (.aload_n 0, 1) := by decide +kernel
theorem dX2_swap_51 : decode cX2_swap 51 = .ok (.getfield 13, 3) := by decide +kernel
theorem dX2_swap_54 : decode cX2_swap 54 = .ok (.iload_n 2, 1) := by decide +kernel
theorem dX2_swap_55 : decode cX2_swap 55 = .ok (.invokevirtual 56, 3) := by decide +kernel
theorem dX2_swap_58 : decode cX2_swap 58 = .ok (.istore 4, 2) := by decide +kernel
theorem dX2_swap_60 : decode cX2_swap 60 = .ok (.aload_n 0, 1) := by decide +kernel
theorem dX2_swap_61 : decode cX2_swap 61 = .ok (.dup, 1) := by decide +kernel
theorem dX2_swap_62 : decode cX2_swap 62 = .ok (.getfield 13, 3) := by decide +kernel
theorem dX2_swap_65 : decode cX2_swap 65 = .ok (.iload 4, 2) := by decide +kernel
theorem dX2_swap_67 : decode cX2_swap 67 = .ok (.iload_n 3, 1) := by decide +kernel
theorem dX2_swap_68 : decode cX2_swap 68 = .ok (.isub, 1) := by decide +kernel
theorem dX2_swap_69 : decode cX2_swap 69 = .ok (.aload_n 0, 1) := by decide +kernel
theorem dX2_swap_70 : decode cX2_swap 70 = .ok (.iload_n 1, 1) := by decide +kernel
theorem dX2_swap_71 : decode cX2_swap 71 = .ok (.invokevirtual 52, 3) := by decide +kernel
theorem dX2_swap_74 : decode cX2_swap 74 = .ok (.imul, 1) := by decide +kernel
theorem dX2_swap_75 : decode cX2_swap 75 = .ok (.iload_n 3, 1) := by decide +kernel
theorem dX2_swap_76 : decode cX2_swap 76 = .ok (.iload 4, 2) := by decide +kernel
theorem dX2_swap_78 : decode cX2_swap 78 = .ok (.isub, 1) := by decide +kernel
theorem dX2_swap_79 : decode cX2_swap 79 = .ok (.aload_n 0, 1) := by decide +kernel
theorem dX2_swap_80 : decode cX2_swap 80 = .ok (.iload_n 2, 1) := by decide +kernel
theorem dX2_swap_81 : decode cX2_swap 81 = .ok (.invokevirtual 52, 3) := by decide +kernel
theorem dX2_swap_84 : decode cX2_swap 84 = .ok (.imul, 1) := by decide +kernel
theorem dX2_swap_85 : decode cX2_swap 85 = .ok (.iadd, 1) := by decide +kernel
theorem dX2_swap_86 : decode cX2_swap 86 = .ok (.iadd, 1) := by decide +kernel
theorem dX2_swap_87 : decode cX2_swap 87 = .ok (.putfield 13, 3) := by decide +kernel
theorem dX2_swap_90 : decode cX2_swap 90 = .ok (.aload_n 0, 1) := by decide +kernel
theorem dX2_swap_91 : decode cX2_swap 91 = .ok (.getfield 13, 3) := by decide +kernel
theorem dX2_swap_94 : decode cX2_swap 94 = .ok (.ireturn, 1) := by decide +kernel
theorem dX2_note_0 : decode cX2_note 0 = .ok (.aload_n 0, 1) := by decide +kernel
theorem dX2_note_1 : decode cX2_note 1 = .ok (.getfield 16, 3) := by decide +kernel
theorem dX2_note_4 : decode cX2_note 4 = .ok (.aload_n 0, 1) := by decide +kernel
theorem dX2_note_5 : decode cX2_note 5 = .ok (.getfield 49, 3) := by decide +kernel
theorem dX2_note_8 : decode cX2_note 8 = .ok (.iload_n 1, 1) := by decide +kernel
theorem dX2_note_9 : decode cX2_note 9 = .ok (.iastore, 1) := by decide +kernel
theorem dX2_note_10 : decode cX2_note 10 = .ok (.aload_n 0, 1) := by decide +kernel
theorem dX2_note_11 : decode cX2_note 11 = .ok (.getfield 20, 3) := by decide +kernel
theorem dX2_note_14 : decode cX2_note 14 = .ok (.aload_n 0, 1) := by decide +kernel
theorem dX2_note_15 : decode cX2_note 15 = .ok (.getfield 49, 3) := by decide +kernel
theorem dX2_note_18 : decode cX2_note 18 = .ok (.iload_n 2, 1) := by decide +kernel
theorem dX2_note_19 : decode cX2_note 19 = .ok (.iastore, 1) := by decide +kernel
theorem dX2_note_20 : decode cX2_note 20 = .ok (.aload_n 0, 1) := by decide +kernel
theorem dX2_note_21 : decode cX2_note 21 = .ok (.getfield 23, 3) := by decide +kernel
theorem dX2_note_24 : decode cX2_note 24 = .ok (.aload_n 0, 1) := by decide +kernel
theorem dX2_note_25 : decode cX2_note 25 = .ok (.getfield 49, 3) := by decide +kernel
theorem dX2_note_28 : decode cX2_note 28 = .ok (.iconst 0, 1) := by decide +kernel
theorem dX2_note_29 : decode cX2_note 29 = .ok (.iastore, 1) := by decide +kernel
theorem dX2_note_30 : decode cX2_note 30 = .ok (.aload_n 0, 1) := by decide +kernel
theorem dX2_note_31 : decode cX2_note 31 = .ok (.dup, 1) := by decide +kernel
theorem dX2_note_32 : decode cX2_note 32 = .ok (.getfield 49, 3) := by decide +kernel
theorem dX2_note_35 : decode cX2_note 35 = .ok (.iconst 1, 1) := by decide +kernel
theorem dX2_note_36 : decode cX2_note 36 = .ok (.iadd, 1) := by decide +kernel
theorem dX2_note_37 : decode cX2_note 37 = .ok (.putfield 49, 3) := by decide +kernel
theorem dX2_note_40 : decode cX2_note 40 = .ok (.return_, 1) := by decide +kernel
theorem dX2_guess_0 : decode cX2_guess 0 = .ok (.aload_n 0, 1) := by decide +kernel
theorem dX2_guess_1 : decode cX2_guess 1 = .ok (.iconst 0, 1) := by decide +kernel
theorem dX2_guess_2 : decode cX2_guess 2 = .ok (.putfield 38, 3) := by decide +kernel
theorem dX2_guess_5 : decode cX2_guess 5 = .ok (.aload_n 0, 1) := by decide +kernel
theorem dX2_guess_6 : decode cX2_guess 6 = .ok (.iload_n 1, 1) := by decide +kernel
theorem dX2_guess_7 : decode cX2_guess 7 = .ok (.invokevirtual 85, 3) := by decide +kernel
theorem dX2_guess_10 : decode cX2_guess 10 = .ok (.ifCond .ne 9, 3) := by decide +kernel
theorem dX2_guess_13 : decode cX2_guess 13 = .ok (.aload_n 0, 1) := by decide +kernel
theorem dX2_guess_14 : decode cX2_guess 14 = .ok (.iconst 1, 1) := by decide +kernel
theorem dX2_guess_15 : decode cX2_guess 15 = .ok (.invokevirtual 82, 3) := by decide +kernel
theorem dX2_guess_18 : decode cX2_guess 18 = .ok (.ireturn, 1) := by decide +kernel
theorem dX2_guess_19 : decode cX2_guess 19 = .ok (.aload_n 0, 1) := by decide +kernel
theorem dX2_guess_20 : decode cX2_guess 20 = .ok (.getfield 13, 3) := by decide +kernel
theorem dX2_guess_23 : decode cX2_guess 23 = .ok (.iconst (-1), 1) := by decide +kernel
theorem dX2_guess_24 : decode cX2_guess 24 = .ok (.if_icmp .eq 12, 3) := by decide +kernel
theorem dX2_guess_27 : decode cX2_guess 27 = .ok (.aload_n 0, 1) := by decide +kernel
theorem dX2_guess_28 : decode cX2_guess 28 = .ok (.getfield 49, 3) := by decide +kernel
theorem dX2_guess_31 : decode cX2_guess 31 = .ok (.bipush 12, 2) := by decide +kernel
theorem dX2_guess_33 : decode cX2_guess 33 = .ok (.if_icmp .ne 9, 3) := by decide +kernel
theorem dX2_guess_36 : decode cX2_guess 36 = .ok (.aload_n 0, 1) := by decide +kernel
theorem dX2_guess_37 : decode cX2_guess 37 = .ok (.iconst 2, 1) := by decide +kernel
theorem dX2_guess_38 : decode cX2_guess 38 = .ok (.invokevirtual 82, 3) := by decide +kernel
theorem dX2_guess_41 : decode cX2_guess 41 = .ok (.ireturn, 1) := by decide +kernel
theorem dX2_guess_42 : decode cX2_guess 42 = .ok (.aload_n 0, 1) := by decide +kernel
theorem dX2_guess_43 : decode cX2_guess 43 = .ok (.iload_n 1, 1) := by decide +kernel
theorem dX2_guess_44 : decode cX2_guess 44 = .ok (.aload_n 0, 1) := by decide +kernel
theorem dX2_guess_45 : decode cX2_guess 45 = .ok (.iload_n 1, 1) := by decide +kernel
theorem dX2_guess_46 : decode cX2_guess 46 = .ok (.aload_n 0, 1) := by decide +kernel
theorem dX2_guess_47 : decode cX2_guess 47 = .ok (.getfield 13, 3) := by decide +kernel
theorem dX2_guess_50 : decode cX2_guess 50 = .ok (.invokevirtual 65, 3) := by decide +kernel
theorem dX2_guess_53 : decode cX2_guess 53 = .ok (.invokevirtual 92, 3) := by decide +kernel
theorem dX2_guess_56 : decode cX2_guess 56 = .ok (.aload_n 0, 1) := by decide +kernel
theorem dX2_guess_57 : decode cX2_guess 57 = .ok (.getfield 20, 3) := by decide +kernel
theorem dX2_guess_60 : decode cX2_guess 60 = .ok (.aload_n 0, 1) := by decide +kernel
theorem dX2_guess_61 : decode cX2_guess 61 = .ok (.getfield 49, 3) := by decide +kernel
theorem dX2_guess_64 : decode cX2_guess 64 = .ok (.iconst 1, 1) := by decide +kernel
theorem dX2_guess_65 : decode cX2_guess 65 = .ok (.isub, 1) := by decide +kernel
theorem dX2_guess_66 : decode cX2_guess 66 = .ok (.iaload, 1) := by decide +kernel
theorem dX2_guess_67 : decode cX2_guess 67 = .ok (.ireturn, 1) := by decide +kernel
theorem dX2_tell_0 : decode cX2_tell 0 = .ok (.aload_n 0, 1) := by decide +kernel
theorem dX2_tell_1 : decode cX2_tell 1 = .ok (.iconst 0, 1) := by decide +kernel
theorem dX2_tell_2 : decode cX2_tell 2 = .ok (.putfield 38, 3) := by decide +kernel
theorem dX2_tell_5 : decode cX2_tell 5 = .ok (.aload_n 0, 1) := by decide +kernel
theorem dX2_tell_6 : decode cX2_tell 6 = .ok (.iload_n 1, 1) := by decide +kernel
theorem dX2_tell_7 : decode cX2_tell 7 = .ok (.invokevirtual 85, 3) := by decide +kernel
theorem dX2_tell_10 : decode cX2_tell 10 = .ok (.ifCond .ne 9, 3) := by decide +kernel
theorem dX2_tell_13 : decode cX2_tell 13 = .ok (.aload_n 0, 1) := by decide +kernel
theorem dX2_tell_14 : decode cX2_tell 14 = .ok (.iconst 1, 1) := by decide +kernel
theorem dX2_tell_15 : decode cX2_tell 15 = .ok (.invokevirtual 82, 3) := by decide +kernel
theorem dX2_tell_18 : decode cX2_tell 18 = .ok (.ireturn, 1) := by decide +kernel
theorem dX2_tell_19 : decode cX2_tell 19 = .ok (.iload_n 2, 1) := by decide +kernel
theorem dX2_tell_20 : decode cX2_tell 20 = .ok (.iconst 0, 1) := by decide +kernel
theorem dX2_tell_21 : decode cX2_tell 21 = .ok (.iconst 4, 1) := by decide +kernel
theorem dX2_tell_22 : decode cX2_tell 22 = .ok (.invokestatic 45, 3) := by decide +kernel
theorem dX2_tell_25 : decode cX2_tell 25 = .ok (.ifCond .eq 24, 3) := by decide +kernel
theorem dX2_tell_28 : decode cX2_tell 28 = .ok (.iload_n 3, 1) := by decide +kernel
theorem dX2_tell_29 : decode cX2_tell 29 = .ok (.iconst 0, 1) := by decide +kernel
theorem dX2_tell_30 : decode cX2_tell 30 = .ok (.iconst 4, 1) := by decide +kernel
theorem dX2_tell_31 : decode cX2_tell 31 = .ok (.iload_n 2, 1) := by decide +kernel
theorem dX2_tell_32 : decode cX2_tell 32 = .ok (.isub, 1) := by decide +kernel
theorem dX2_tell_33 : decode cX2_tell 33 = .ok (.invokestatic 45, 3) := by decide +kernel
theorem dX2_tell_36 : decode cX2_tell 36 = .ok (.ifCond .eq 13, 3) := by decide +kernel
theorem dX2_tell_39 : decode cX2_tell 39 = .ok (.iload_n 2, 1) := by decide +kernel
theorem dX2_tell_40 : decode cX2_tell 40 = .ok (.iconst 3, 1) := by decide +kernel
theorem dX2_tell_41 : decode cX2_tell 41 = .ok (.if_icmp .ne 14, 3) := by decide +kernel
theorem dX2_tell_44 : decode cX2_tell 44 = .ok (.iload_n 3, 1) := by decide +kernel
theorem dX2_tell_45 : decode cX2_tell 45 = .ok (.iconst 1, 1) := by decide +kernel
theorem dX2_tell_46 : decode cX2_tell 46 = .ok (.if_icmp .ne 9, 3) := by decide +kernel
theorem dX2_tell_49 : decode cX2_tell 49 = .ok (.aload_n 0, 1) := by decide +kernel
theorem dX2_tell_50 : decode cX2_tell 50 = .ok (.iconst 2, 1) := by decide +kernel
theorem dX2_tell_51 : decode cX2_tell 51 = .ok (.invokevirtual 82, 3) := by decide +kernel
theorem dX2_tell_54 : decode cX2_tell 54 = .ok (.ireturn, 1) := by decide +kernel
theorem dX2_tell_55 : decode cX2_tell 55 = .ok (.aload_n 0, 1) := by decide +kernel
theorem dX2_tell_56 : decode cX2_tell 56 = .ok (.getfield 49, 3) := by decide +kernel
theorem dX2_tell_59 : decode cX2_tell 59 = .ok (.bipush 12, 2) := by decide +kernel
theorem dX2_tell_61 : decode cX2_tell 61 = .ok (.if_icmp .ne 9, 3) := by decide +kernel
theorem dX2_tell_64 : decode cX2_tell 64 = .ok (.aload_n 0, 1) := by decide +kernel
theorem dX2_tell_65 : decode cX2_tell 65 = .ok (.iconst 3, 1) := by decide +kernel
theorem dX2_tell_66 : decode cX2_tell 66 = .ok (.invokevirtual 82, 3) := by decide +kernel
theorem dX2_tell_69 : decode cX2_tell 69 = .ok (.ireturn, 1) := by decide +kernel
theorem dX2_tell_70 : decode cX2_tell 70 = .ok (.aload_n 0, 1) := by decide +kernel
theorem dX2_tell_71 : decode cX2_tell 71 = .ok (.iload_n 1, 1) := by decide +kernel
theorem dX2_tell_72 : decode cX2_tell 72 = .ok (.iconst 5, 1) := by decide +kernel
theorem dX2_tell_73 : decode cX2_tell 73 = .ok (.iload_n 2, 1) := by decide +kernel
theorem dX2_tell_74 : decode cX2_tell 74 = .ok (.imul, 1) := by decide +kernel
theorem dX2_tell_75 : decode cX2_tell 75 = .ok (.iload_n 3, 1) := by decide +kernel
theorem dX2_tell_76 : decode cX2_tell 76 = .ok (.iadd, 1) := by decide +kernel
theorem dX2_tell_77 : decode cX2_tell 77 = .ok (.invokevirtual 92, 3) := by decide +kernel
theorem dX2_tell_80 : decode cX2_tell 80 = .ok (.aload_n 0, 1) := by decide +kernel
theorem dX2_tell_81 : decode cX2_tell 81 = .ok (.aload_n 0, 1) := by decide +kernel
theorem dX2_tell_82 : decode cX2_tell 82 = .ok (.getfield 49, 3) := by decide +kernel
theorem dX2_tell_85 : decode cX2_tell 85 = .ok (.invokevirtual 96, 3) := by decide +kernel
theorem dX2_tell_88 : decode cX2_tell 88 = .ok (.ireturn, 1) := by decide +kernel
theorem dX2_doubt_0 : decode cX2_doubt 0 = .ok (.aload_n 0, 1) := by decide +kernel
theorem dX2_doubt_1 : decode cX2_doubt 1 = .ok (.aload_n 0, 1) := by decide +kernel
theorem dX2_doubt_2 : decode cX2_doubt 2 = .ok (.iload_n 1, 1) := by decide +kernel
theorem dX2_doubt_3 : decode cX2_doubt 3 = .ok (.invokevirtual 99, 3) := by decide +kernel
theorem dX2_doubt_6 : decode cX2_doubt 6 = .ok (.ifCond .eq 7, 3) := by decide +kernel
theorem dX2_doubt_9 : decode cX2_doubt 9 = .ok (.iconst 0, 1) := by decide +kernel
theorem dX2_doubt_10 : decode cX2_doubt 10 = .ok (.goto 4, 3) := by decide +kernel
theorem dX2_doubt_13 : decode cX2_doubt 13 = .ok (.iconst 1, 1) := by decide +kernel
theorem dX2_doubt_14 : decode cX2_doubt 14 = .ok (.putfield 38, 3) := by decide +kernel
theorem dX2_doubt_17 : decode cX2_doubt 17 = .ok (.aload_n 0, 1) := by decide +kernel
theorem dX2_doubt_18 : decode cX2_doubt 18 = .ok (.getfield 38, 3) := by decide +kernel
theorem dX2_doubt_21 : decode cX2_doubt 21 = .ok (.ifCond .eq 5, 3) := by decide +kernel
theorem dX2_doubt_24 : decode cX2_doubt 24 = .ok (.iconst 0, 1) := by decide +kernel
theorem dX2_doubt_25 : decode cX2_doubt 25 = .ok (.ireturn, 1) := by decide +kernel
theorem dX2_doubt_26 : decode cX2_doubt 26 = .ok (.aload_n 0, 1) := by decide +kernel
theorem dX2_doubt_27 : decode cX2_doubt 27 = .ok (.getfield 23, 3) := by decide +kernel
theorem dX2_doubt_30 : decode cX2_doubt 30 = .ok (.iload_n 1, 1) := by decide +kernel
theorem dX2_doubt_31 : decode cX2_doubt 31 = .ok (.iaload, 1) := by decide +kernel
theorem dX2_doubt_32 : decode cX2_doubt 32 = .ok (.iconst 1, 1) := by decide +kernel
theorem dX2_doubt_33 : decode cX2_doubt 33 = .ok (.if_icmp .ne 7, 3) := by decide +kernel
theorem dX2_doubt_36 : decode cX2_doubt 36 = .ok (.iconst 1, 1) := by decide +kernel
theorem dX2_doubt_37 : decode cX2_doubt 37 = .ok (.goto 4, 3) := by decide +kernel
theorem dX2_doubt_40 : decode cX2_doubt 40 = .ok (.iconst 0, 1) := by decide +kernel
theorem dX2_doubt_41 : decode cX2_doubt 41 = .ok (.istore_n 3, 1) := by decide +kernel
theorem dX2_doubt_42 : decode cX2_doubt 42 = .ok (.aload_n 0, 1) := by decide +kernel
theorem dX2_doubt_43 : decode cX2_doubt 43 = .ok (.getfield 23, 3) := by decide +kernel
theorem dX2_doubt_46 : decode cX2_doubt 46 = .ok (.iload_n 1, 1) := by decide +kernel
theorem dX2_doubt_47 : decode cX2_doubt 47 = .ok (.iload_n 2, 1) := by decide +kernel
theorem dX2_doubt_48 : decode cX2_doubt 48 = .ok (.ifCond .eq 7, 3) := by decide +kernel
theorem dX2_doubt_51 : decode cX2_doubt 51 = .ok (.iconst 1, 1) := by decide +kernel
theorem dX2_doubt_52 : decode cX2_doubt 52 = .ok (.goto 4, 3) := by decide +kernel
theorem dX2_doubt_55 : decode cX2_doubt 55 = .ok (.iconst 0, 1) := by decide +kernel
theorem dX2_doubt_56 : decode cX2_doubt 56 = .ok (.iastore, 1) := by decide +kernel
theorem dX2_doubt_57 : decode cX2_doubt 57 = .ok (.iload_n 3, 1) := by decide +kernel
theorem dX2_doubt_58 : decode cX2_doubt 58 = .ok (.ireturn, 1) := by decide +kernel
theorem dX2_forget_0 : decode cX2_forget 0 = .ok (.aload_n 0, 1) := by decide +kernel
theorem dX2_forget_1 : decode cX2_forget 1 = .ok (.iconst 0, 1) := by decide +kernel
theorem dX2_forget_2 : decode cX2_forget 2 = .ok (.putfield 38, 3) := by decide +kernel
theorem dX2_forget_5 : decode cX2_forget 5 = .ok (.aload_n 0, 1) := by decide +kernel
theorem dX2_forget_6 : decode cX2_forget 6 = .ok (.getfield 49, 3) := by decide +kernel
theorem dX2_forget_9 : decode cX2_forget 9 = .ok (.ifCond .ne 9, 3) := by decide +kernel
theorem dX2_forget_12 : decode cX2_forget 12 = .ok (.aload_n 0, 1) := by decide +kernel
theorem dX2_forget_13 : decode cX2_forget 13 = .ok (.iconst 1, 1) := by decide +kernel
theorem dX2_forget_14 : decode cX2_forget 14 = .ok (.invokevirtual 82, 3) := by decide +kernel
theorem dX2_forget_17 : decode cX2_forget 17 = .ok (.ireturn, 1) := by decide +kernel
theorem dX2_forget_18 : decode cX2_forget 18 = .ok (.aload_n 0, 1) := by decide +kernel
theorem dX2_forget_19 : decode cX2_forget 19 = .ok (.dup, 1) := by decide +kernel
theorem dX2_forget_20 : decode cX2_forget 20 = .ok (.getfield 49, 3) := by decide +kernel
theorem dX2_forget_23 : decode cX2_forget 23 = .ok (.iconst 1, 1) := by decide +kernel
theorem dX2_forget_24 : decode cX2_forget 24 = .ok (.isub, 1) := by decide +kernel
theorem dX2_forget_25 : decode cX2_forget 25 = .ok (.putfield 49, 3) := by decide +kernel
theorem dX2_forget_28 : decode cX2_forget 28 = .ok (.aload_n 0, 1) := by decide +kernel
theorem dX2_forget_29 : decode cX2_forget 29 = .ok (.getfield 16, 3) := by decide +kernel
theorem dX2_forget_32 : decode cX2_forget 32 = .ok (.aload_n 0, 1) := by decide +kernel
theorem dX2_forget_33 : decode cX2_forget 33 = .ok (.getfield 49, 3) := by decide +kernel
theorem dX2_forget_36 : decode cX2_forget 36 = .ok (.iaload, 1) := by decide +kernel
theorem dX2_forget_37 : decode cX2_forget 37 = .ok (.ireturn, 1) := by decide +kernel
theorem dX2_colour_0 : decode cX2_colour 0 = .ok (.aload_n 0, 1) := by decide +kernel
theorem dX2_colour_1 : decode cX2_colour 1 = .ok (.iconst 0, 1) := by decide +kernel
theorem dX2_colour_2 : decode cX2_colour 2 = .ok (.putfield 38, 3) := by decide +kernel
theorem dX2_colour_5 : decode cX2_colour 5 = .ok (.aload_n 0, 1) := by decide +kernel
theorem dX2_colour_6 : decode cX2_colour 6 = .ok (.iload_n 1, 1) := by decide +kernel
theorem dX2_colour_7 : decode cX2_colour 7 = .ok (.invokevirtual 85, 3) := by decide +kernel
theorem dX2_colour_10 : decode cX2_colour 10 = .ok (.ifCond .eq 19, 3) := by decide +kernel
theorem dX2_colour_13 : decode cX2_colour 13 = .ok (.iload_n 2, 1) := by decide +kernel
theorem dX2_colour_14 : decode cX2_colour 14 = .ok (.invokestatic 89, 3) := by decide +kernel
theorem dX2_colour_17 : decode cX2_colour 17 = .ok (.ifCond .eq 12, 3) := by decide +kernel
theorem dX2_colour_20 : decode cX2_colour 20 = .ok (.aload_n 0, 1) := by decide +kernel
theorem dX2_colour_21 : decode cX2_colour 21 = .ok (.iload_n 1, 1) := by decide +kernel
theorem dX2_colour_22 : decode cX2_colour 22 = .ok (.iload_n 2, 1) := by decide +kernel
theorem dX2_colour_23 : decode cX2_colour 23 = .ok (.invokevirtual 56, 3) := by decide +kernel
theorem dX2_colour_26 : decode cX2_colour 26 = .ok (.goto 8, 3) := by decide +kernel
theorem dX2_colour_29 : decode cX2_colour 29 = .ok (.aload_n 0, 1) := by decide +kernel
theorem dX2_colour_30 : decode cX2_colour 30 = .ok (.iconst 1, 1) := by decide +kernel
theorem dX2_colour_31 : decode cX2_colour 31 = .ok (.invokevirtual 82, 3) := by decide +kernel
theorem dX2_colour_34 : decode cX2_colour 34 = .ok (.ireturn, 1) := by decide +kernel
theorem dX2_pins_0 : decode cX2_pins 0 = .ok (.aload_n 0, 1) := by decide +kernel
theorem dX2_pins_1 : decode cX2_pins 1 = .ok (.iconst 0, 1) := by decide +kernel
theorem dX2_pins_2 : decode cX2_pins 2 = .ok (.putfield 38, 3) := by decide +kernel
theorem dX2_pins_5 : decode cX2_pins 5 = .ok (.aload_n 0, 1) := by decide +kernel
theorem dX2_pins_6 : decode cX2_pins 6 = .ok (.iload_n 1, 1) := by decide +kernel
theorem dX2_pins_7 : decode cX2_pins 7 = .ok (.invokevirtual 85, 3) := by decide +kernel
theorem dX2_pins_10 : decode cX2_pins 10 = .ok (.ifCond .eq 20, 3) := by decide +kernel
theorem dX2_pins_13 : decode cX2_pins 13 = .ok (.aload_n 0, 1) := by decide +kernel
theorem dX2_pins_14 : decode cX2_pins 14 = .ok (.iload_n 2, 1) := by decide +kernel
theorem dX2_pins_15 : decode cX2_pins 15 = .ok (.invokevirtual 85, 3) := by decide +kernel
theorem dX2_pins_18 : decode cX2_pins 18 = .ok (.ifCond .eq 12, 3) := by decide +kernel
theorem dX2_pins_21 : decode cX2_pins 21 = .ok (.aload_n 0, 1) := by decide +kernel
theorem dX2_pins_22 : decode cX2_pins 22 = .ok (.iload_n 1, 1) := by decide +kernel
theorem dX2_pins_23 : decode cX2_pins 23 = .ok (.iload_n 2, 1) := by decide +kernel
theorem dX2_pins_24 : decode cX2_pins 24 = .ok (.invokevirtual 65, 3) := by decide +kernel
theorem dX2_pins_27 : decode cX2_pins 27 = .ok (.goto 8, 3) := by decide +kernel
theorem dX2_pins_30 : decode cX2_pins 30 = .ok (.aload_n 0, 1) := by decide +kernel
theorem dX2_pins_31 : decode cX2_pins 31 = .ok (.iconst 1, 1) := by decide +kernel
theorem dX2_pins_32 : decode cX2_pins 32 = .ok (.invokevirtual 82, 3) := by decide +kernel
theorem dX2_pins_35 : decode cX2_pins 35 = .ok (.ireturn, 1) := by decide +kernel
theorem dX2_alike_0 : decode cX2_alike 0 = .ok (.iconst 0, 1) := by decide +kernel
theorem dX2_alike_1 : decode cX2_alike 1 = .ok (.istore_n 2, 1) := by decide +kernel
theorem dX2_alike_2 : decode cX2_alike 2 = .ok (.iconst 0, 1) := by decide +kernel
theorem dX2_alike_3 : decode cX2_alike 3 = .ok (.istore_n 3, 1) := by decide +kernel
theorem dX2_alike_4 : decode cX2_alike 4 = .ok (.iload_n 3, 1) := by decide +kernel
theorem dX2_alike_5 : decode cX2_alike 5 = .ok (.aload_n 0, 1) := by decide +kernel
theorem dX2_alike_6 : decode cX2_alike 6 = .ok (.invokevirtual 41, 3) := by decide +kernel
theorem dX2_alike_9 : decode cX2_alike 9 = .ok (.if_icmp .ge 37, 3) := by decide +kernel
theorem dX2_alike_12 : decode cX2_alike 12 = .ok (.iload_n 2, 1) := by decide +kernel
theorem dX2_alike_13 : decode cX2_alike 13 = .ok (.aload_n 0, 1) := by decide +kernel
theorem dX2_alike_14 : decode cX2_alike 14 = .ok (.aload_n 0, 1) := by decide +kernel
theorem dX2_alike_15 : decode cX2_alike 15 = .ok (.getfield 16, 3) := by decide +kernel
theorem dX2_alike_18 : decode cX2_alike 18 = .ok (.iload_n 1, 1) := by decide +kernel
theorem dX2_alike_19 : decode cX2_alike 19 = .ok (.iaload, 1) := by decide +kernel
theorem dX2_alike_20 : decode cX2_alike 20 = .ok (.iload_n 3, 1) := by decide +kernel
theorem dX2_alike_21 : decode cX2_alike 21 = .ok (.invokevirtual 65, 3) := by decide +kernel
theorem dX2_alike_24 : decode cX2_alike 24 = .ok (.aload_n 0, 1) := by decide +kernel
theorem dX2_alike_25 : decode cX2_alike 25 = .ok (.getfield 20, 3) := by decide +kernel
theorem dX2_alike_28 : decode cX2_alike 28 = .ok (.iload_n 1, 1) := by decide +kernel
theorem dX2_alike_29 : decode cX2_alike 29 = .ok (.iaload, 1) := by decide +kernel
theorem dX2_alike_30 : decode cX2_alike 30 = .ok (.if_icmp .ne 7, 3) := by decide +kernel
theorem dX2_alike_33 : decode cX2_alike 33 = .ok (.iconst 1, 1) := by decide +kernel
theorem dX2_alike_34 : decode cX2_alike 34 = .ok (.goto 4, 3) := by decide +kernel
theorem dX2_alike_37 : decode cX2_alike 37 = .ok (.iconst 0, 1) := by decide +kernel
theorem dX2_alike_38 : decode cX2_alike 38 = .ok (.iadd, 1) := by decide +kernel
theorem dX2_alike_39 : decode cX2_alike 39 = .ok (.istore_n 2, 1) := by decide +kernel
theorem dX2_alike_40 : decode cX2_alike 40 = .ok (.iinc 3 1, 3) := by decide +kernel
theorem dX2_alike_43 : decode cX2_alike 43 = .ok (.goto (-39), 3) := by decide +kernel
theorem dX2_alike_46 : decode cX2_alike 46 = .ok (.iload_n 2, 1) := by decide +kernel
theorem dX2_alike_47 : decode cX2_alike 47 = .ok (.ireturn, 1) := by decide +kernel
theorem dX2_guessTold_0 : decode cX2_guessTold 0 = .ok (.iload_n 2, 1) := by decide +kernel
theorem dX2_guessTold_1 : decode cX2_guessTold 1 = .ok (.tableswitch 75 0 4 #[35, 42, 51, 60, 67], 35) := by decide +kernel
theorem dX2_guessTold_36 : decode cX2_guessTold 36 = .ok (.aload_n 0, 1) := by decide +kernel
theorem dX2_guessTold_37 : decode cX2_guessTold 37 = .ok (.getfield 16, 3) := by decide +kernel
theorem dX2_guessTold_40 : decode cX2_guessTold 40 = .ok (.iload_n 1, 1) := by decide +kernel
theorem dX2_guessTold_41 : decode cX2_guessTold 41 = .ok (.iaload, 1) := by decide +kernel
theorem dX2_guessTold_42 : decode cX2_guessTold 42 = .ok (.ireturn, 1) := by decide +kernel
theorem dX2_guessTold_43 : decode cX2_guessTold 43 = .ok (.aload_n 0, 1) := by decide +kernel
theorem dX2_guessTold_44 : decode cX2_guessTold 44 = .ok (.getfield 20, 3) := by decide +kernel
theorem dX2_guessTold_47 : decode cX2_guessTold 47 = .ok (.iload_n 1, 1) := by decide +kernel
theorem dX2_guessTold_48 : decode cX2_guessTold 48 = .ok (.iaload, 1) := by decide +kernel
theorem dX2_guessTold_49 : decode cX2_guessTold 49 = .ok (.iconst 5, 1) := by decide +kernel
theorem dX2_guessTold_50 : decode cX2_guessTold 50 = .ok (.idiv, 1) := by decide +kernel
theorem dX2_guessTold_51 : decode cX2_guessTold 51 = .ok (.ireturn, 1) := by decide +kernel
theorem dX2_guessTold_52 : decode cX2_guessTold 52 = .ok (.aload_n 0, 1) := by decide +kernel
theorem dX2_guessTold_53 : decode cX2_guessTold 53 = .ok (.getfield 20, 3) := by decide +kernel
theorem dX2_guessTold_56 : decode cX2_guessTold 56 = .ok (.iload_n 1, 1) := by decide +kernel
theorem dX2_guessTold_57 : decode cX2_guessTold 57 = .ok (.iaload, 1) := by decide +kernel
theorem dX2_guessTold_58 : decode cX2_guessTold 58 = .ok (.iconst 5, 1) := by decide +kernel
theorem dX2_guessTold_59 : decode cX2_guessTold 59 = .ok (.irem, 1) := by decide +kernel
theorem dX2_guessTold_60 : decode cX2_guessTold 60 = .ok (.ireturn, 1) := by decide +kernel
theorem dX2_guessTold_61 : decode cX2_guessTold 61 = .ok (.aload_n 0, 1) := by decide +kernel
theorem dX2_guessTold_62 : decode cX2_guessTold 62 = .ok (.getfield 23, 3) := by decide +kernel
theorem dX2_guessTold_65 : decode cX2_guessTold 65 = .ok (.iload_n 1, 1) := by decide +kernel
theorem dX2_guessTold_66 : decode cX2_guessTold 66 = .ok (.iaload, 1) := by decide +kernel
theorem dX2_guessTold_67 : decode cX2_guessTold 67 = .ok (.ireturn, 1) := by decide +kernel
theorem dX2_guessTold_68 : decode cX2_guessTold 68 = .ok (.aload_n 0, 1) := by decide +kernel
theorem dX2_guessTold_69 : decode cX2_guessTold 69 = .ok (.iload_n 1, 1) := by decide +kernel
theorem dX2_guessTold_70 : decode cX2_guessTold 70 = .ok (.iconst 1, 1) := by decide +kernel
theorem dX2_guessTold_71 : decode cX2_guessTold 71 = .ok (.iadd, 1) := by decide +kernel
theorem dX2_guessTold_72 : decode cX2_guessTold 72 = .ok (.invokevirtual 96, 3) := by decide +kernel
theorem dX2_guessTold_75 : decode cX2_guessTold 75 = .ok (.ireturn, 1) := by decide +kernel
theorem dX2_guessTold_76 : decode cX2_guessTold 76 = .ok (.aload_n 0, 1) := by decide +kernel
theorem dX2_guessTold_77 : decode cX2_guessTold 77 = .ok (.iload_n 1, 1) := by decide +kernel
theorem dX2_guessTold_78 : decode cX2_guessTold 78 = .ok (.invokevirtual 102, 3) := by decide +kernel
theorem dX2_guessTold_81 : decode cX2_guessTold 81 = .ok (.ireturn, 1) := by decide +kernel
theorem dX2_told_0 : decode cX2_told 0 = .ok (.aload_n 0, 1) := by decide +kernel
theorem dX2_told_1 : decode cX2_told 1 = .ok (.iconst 0, 1) := by decide +kernel
theorem dX2_told_2 : decode cX2_told 2 = .ok (.putfield 38, 3) := by decide +kernel
theorem dX2_told_5 : decode cX2_told 5 = .ok (.aload_n 0, 1) := by decide +kernel
theorem dX2_told_6 : decode cX2_told 6 = .ok (.iload_n 1, 1) := by decide +kernel
theorem dX2_told_7 : decode cX2_told 7 = .ok (.invokevirtual 99, 3) := by decide +kernel
theorem dX2_told_10 : decode cX2_told 10 = .ok (.ifCond .eq 21, 3) := by decide +kernel
theorem dX2_told_13 : decode cX2_told 13 = .ok (.iload_n 2, 1) := by decide +kernel
theorem dX2_told_14 : decode cX2_told 14 = .ok (.iconst 0, 1) := by decide +kernel
theorem dX2_told_15 : decode cX2_told 15 = .ok (.iconst 5, 1) := by decide +kernel
theorem dX2_told_16 : decode cX2_told 16 = .ok (.invokestatic 45, 3) := by decide +kernel
theorem dX2_told_19 : decode cX2_told 19 = .ok (.ifCond .eq 12, 3) := by decide +kernel
theorem dX2_told_22 : decode cX2_told 22 = .ok (.aload_n 0, 1) := by decide +kernel
theorem dX2_told_23 : decode cX2_told 23 = .ok (.iload_n 1, 1) := by decide +kernel
theorem dX2_told_24 : decode cX2_told 24 = .ok (.iload_n 2, 1) := by decide +kernel
theorem dX2_told_25 : decode cX2_told 25 = .ok (.invokevirtual 105, 3) := by decide +kernel
theorem dX2_told_28 : decode cX2_told 28 = .ok (.goto 8, 3) := by decide +kernel
theorem dX2_told_31 : decode cX2_told 31 = .ok (.aload_n 0, 1) := by decide +kernel
theorem dX2_told_32 : decode cX2_told 32 = .ok (.iconst 1, 1) := by decide +kernel
theorem dX2_told_33 : decode cX2_told 33 = .ok (.invokevirtual 82, 3) := by decide +kernel
theorem dX2_told_36 : decode cX2_told 36 = .ok (.ireturn, 1) := by decide +kernel
theorem dX2_counted_0 : decode cX2_counted 0 = .ok (.iconst 0, 1) := by decide +kernel
theorem dX2_counted_1 : decode cX2_counted 1 = .ok (.istore_n 2, 1) := by decide +kernel
theorem dX2_counted_2 : decode cX2_counted 2 = .ok (.iload_n 1, 1) := by decide +kernel
theorem dX2_counted_3 : decode cX2_counted 3 = .ok (.tableswitch 112 0 5 #[37, 42, 47, 52, 61, 75], 37) := by decide +kernel
theorem dX2_counted_40 : decode cX2_counted 40 = .ok (.aload_n 0, 1) := by decide +kernel
theorem dX2_counted_41 : decode cX2_counted 41 = .ok (.getfield 9, 3) := by decide +kernel
theorem dX2_counted_44 : decode cX2_counted 44 = .ok (.ireturn, 1) := by decide +kernel
theorem dX2_counted_45 : decode cX2_counted 45 = .ok (.aload_n 0, 1) := by decide +kernel
theorem dX2_counted_46 : decode cX2_counted 46 = .ok (.invokevirtual 41, 3) := by decide +kernel
theorem dX2_counted_49 : decode cX2_counted 49 = .ok (.ireturn, 1) := by decide +kernel
theorem dX2_counted_50 : decode cX2_counted 50 = .ok (.aload_n 0, 1) := by decide +kernel
theorem dX2_counted_51 : decode cX2_counted 51 = .ok (.getfield 49, 3) := by decide +kernel
theorem dX2_counted_54 : decode cX2_counted 54 = .ok (.ireturn, 1) := by decide +kernel
theorem dX2_counted_55 : decode cX2_counted 55 = .ok (.aload_n 0, 1) := by decide +kernel
theorem dX2_counted_56 : decode cX2_counted 56 = .ok (.aload_n 0, 1) := by decide +kernel
theorem dX2_counted_57 : decode cX2_counted 57 = .ok (.getfield 49, 3) := by decide +kernel
theorem dX2_counted_60 : decode cX2_counted 60 = .ok (.invokevirtual 96, 3) := by decide +kernel
theorem dX2_counted_63 : decode cX2_counted 63 = .ok (.ireturn, 1) := by decide +kernel
theorem dX2_counted_64 : decode cX2_counted 64 = .ok (.aload_n 0, 1) := by decide +kernel
theorem dX2_counted_65 : decode cX2_counted 65 = .ok (.getfield 13, 3) := by decide +kernel
theorem dX2_counted_68 : decode cX2_counted 68 = .ok (.iconst (-1), 1) := by decide +kernel
theorem dX2_counted_69 : decode cX2_counted 69 = .ok (.if_icmp .ne 7, 3) := by decide +kernel
theorem dX2_counted_72 : decode cX2_counted 72 = .ok (.iconst 0, 1) := by decide +kernel
theorem dX2_counted_73 : decode cX2_counted 73 = .ok (.goto 4, 3) := by decide +kernel
theorem dX2_counted_76 : decode cX2_counted 76 = .ok (.iconst 1, 1) := by decide +kernel
theorem dX2_counted_77 : decode cX2_counted 77 = .ok (.ireturn, 1) := by decide +kernel
theorem dX2_counted_78 : decode cX2_counted 78 = .ok (.iconst 0, 1) := by decide +kernel
theorem dX2_counted_79 : decode cX2_counted 79 = .ok (.istore_n 3, 1) := by decide +kernel
theorem dX2_counted_80 : decode cX2_counted 80 = .ok (.iload_n 3, 1) := by decide +kernel
theorem dX2_counted_81 : decode cX2_counted 81 = .ok (.aload_n 0, 1) := by decide +kernel
theorem dX2_counted_82 : decode cX2_counted 82 = .ok (.getfield 49, 3) := by decide +kernel
theorem dX2_counted_85 : decode cX2_counted 85 = .ok (.if_icmp .ge 28, 3) := by decide +kernel
theorem dX2_counted_88 : decode cX2_counted 88 = .ok (.iload_n 2, 1) := by decide +kernel
theorem dX2_counted_89 : decode cX2_counted 89 = .ok (.aload_n 0, 1) := by decide +kernel
theorem dX2_counted_90 : decode cX2_counted 90 = .ok (.getfield 20, 3) := by decide +kernel
theorem dX2_counted_93 : decode cX2_counted 93 = .ok (.iload_n 3, 1) := by decide +kernel
theorem dX2_counted_94 : decode cX2_counted 94 = .ok (.iaload, 1) := by decide +kernel
theorem dX2_counted_95 : decode cX2_counted 95 = .ok (.bipush 20, 2) := by decide +kernel
theorem dX2_counted_97 : decode cX2_counted 97 = .ok (.if_icmp .ne 7, 3) := by decide +kernel
theorem dX2_counted_100 : decode cX2_counted 100 = .ok (.iconst 1, 1) := by decide +kernel
theorem dX2_counted_101 : decode cX2_counted 101 = .ok (.goto 4, 3) := by decide +kernel
theorem dX2_counted_104 : decode cX2_counted 104 = .ok (.iconst 0, 1) := by decide +kernel
theorem dX2_counted_105 : decode cX2_counted 105 = .ok (.iadd, 1) := by decide +kernel
theorem dX2_counted_106 : decode cX2_counted 106 = .ok (.istore_n 2, 1) := by decide +kernel
theorem dX2_counted_107 : decode cX2_counted 107 = .ok (.iinc 3 1, 3) := by decide +kernel
theorem dX2_counted_110 : decode cX2_counted 110 = .ok (.goto (-30), 3) := by decide +kernel
theorem dX2_counted_113 : decode cX2_counted 113 = .ok (.iload_n 2, 1) := by decide +kernel
theorem dX2_counted_114 : decode cX2_counted 114 = .ok (.ireturn, 1) := by decide +kernel
theorem dX2_counted_115 : decode cX2_counted 115 = .ok (.iconst 0, 1) := by decide +kernel
theorem dX2_counted_116 : decode cX2_counted 116 = .ok (.istore_n 3, 1) := by decide +kernel
theorem dX2_counted_117 : decode cX2_counted 117 = .ok (.iload_n 3, 1) := by decide +kernel
theorem dX2_counted_118 : decode cX2_counted 118 = .ok (.aload_n 0, 1) := by decide +kernel
theorem dX2_counted_119 : decode cX2_counted 119 = .ok (.getfield 49, 3) := by decide +kernel
theorem dX2_counted_122 : decode cX2_counted 122 = .ok (.if_icmp .ge 18, 3) := by decide +kernel
theorem dX2_counted_125 : decode cX2_counted 125 = .ok (.iload_n 2, 1) := by decide +kernel
theorem dX2_counted_126 : decode cX2_counted 126 = .ok (.aload_n 0, 1) := by decide +kernel
theorem dX2_counted_127 : decode cX2_counted 127 = .ok (.getfield 23, 3) := by decide +kernel
theorem dX2_counted_130 : decode cX2_counted 130 = .ok (.iload_n 3, 1) := by decide +kernel
theorem dX2_counted_131 : decode cX2_counted 131 = .ok (.iaload, 1) := by decide +kernel
theorem dX2_counted_132 : decode cX2_counted 132 = .ok (.iadd, 1) := by decide +kernel
theorem dX2_counted_133 : decode cX2_counted 133 = .ok (.istore_n 2, 1) := by decide +kernel
theorem dX2_counted_134 : decode cX2_counted 134 = .ok (.iinc 3 1, 3) := by decide +kernel
theorem dX2_counted_137 : decode cX2_counted 137 = .ok (.goto (-20), 3) := by decide +kernel
theorem dX2_counted_140 : decode cX2_counted 140 = .ok (.iload_n 2, 1) := by decide +kernel
theorem dX2_counted_141 : decode cX2_counted 141 = .ok (.ireturn, 1) := by decide +kernel
theorem dX2_count_0 : decode cX2_count 0 = .ok (.aload_n 0, 1) := by decide +kernel
theorem dX2_count_1 : decode cX2_count 1 = .ok (.iconst 0, 1) := by decide +kernel
theorem dX2_count_2 : decode cX2_count 2 = .ok (.putfield 38, 3) := by decide +kernel
theorem dX2_count_5 : decode cX2_count 5 = .ok (.iload_n 1, 1) := by decide +kernel
theorem dX2_count_6 : decode cX2_count 6 = .ok (.iconst 0, 1) := by decide +kernel
theorem dX2_count_7 : decode cX2_count 7 = .ok (.bipush 6, 2) := by decide +kernel
theorem dX2_count_9 : decode cX2_count 9 = .ok (.invokestatic 45, 3) := by decide +kernel
theorem dX2_count_12 : decode cX2_count 12 = .ok (.ifCond .eq 11, 3) := by decide +kernel
theorem dX2_count_15 : decode cX2_count 15 = .ok (.aload_n 0, 1) := by decide +kernel
theorem dX2_count_16 : decode cX2_count 16 = .ok (.iload_n 1, 1) := by decide +kernel
theorem dX2_count_17 : decode cX2_count 17 = .ok (.invokevirtual 108, 3) := by decide +kernel
theorem dX2_count_20 : decode cX2_count 20 = .ok (.goto 8, 3) := by decide +kernel
theorem dX2_count_23 : decode cX2_count 23 = .ok (.aload_n 0, 1) := by decide +kernel
theorem dX2_count_24 : decode cX2_count 24 = .ok (.iconst 1, 1) := by decide +kernel
theorem dX2_count_25 : decode cX2_count 25 = .ok (.invokevirtual 82, 3) := by decide +kernel
theorem dX2_count_28 : decode cX2_count 28 = .ok (.ireturn, 1) := by decide +kernel
theorem dX2_isPossible_0 : decode cX2_isPossible 0 = .ok (.aload_n 0, 1) := by decide +kernel
theorem dX2_isPossible_1 : decode cX2_isPossible 1 = .ok (.aload_n 0, 1) := by decide +kernel
theorem dX2_isPossible_2 : decode cX2_isPossible 2 = .ok (.iload_n 1, 1) := by decide +kernel
theorem dX2_isPossible_3 : decode cX2_isPossible 3 = .ok (.invokevirtual 85, 3) := by decide +kernel
theorem dX2_isPossible_6 : decode cX2_isPossible 6 = .ok (.ifCond .eq 7, 3) := by decide +kernel
theorem dX2_isPossible_9 : decode cX2_isPossible 9 = .ok (.iconst 0, 1) := by decide +kernel
theorem dX2_isPossible_10 : decode cX2_isPossible 10 = .ok (.goto 4, 3) := by decide +kernel
theorem dX2_isPossible_13 : decode cX2_isPossible 13 = .ok (.iconst 1, 1) := by decide +kernel
theorem dX2_isPossible_14 : decode cX2_isPossible 14 = .ok (.putfield 38, 3) := by decide +kernel
theorem dX2_isPossible_17 : decode cX2_isPossible 17 = .ok (.aload_n 0, 1) := by decide +kernel
theorem dX2_isPossible_18 : decode cX2_isPossible 18 = .ok (.getfield 38, 3) := by decide +kernel
theorem dX2_isPossible_21 : decode cX2_isPossible 21 = .ok (.ifCond .ne 19, 3) := by decide +kernel
theorem dX2_isPossible_24 : decode cX2_isPossible 24 = .ok (.aload_n 0, 1) := by decide +kernel
theorem dX2_isPossible_25 : decode cX2_isPossible 25 = .ok (.iload_n 1, 1) := by decide +kernel
theorem dX2_isPossible_26 : decode cX2_isPossible 26 = .ok (.aload_n 0, 1) := by decide +kernel
theorem dX2_isPossible_27 : decode cX2_isPossible 27 = .ok (.getfield 49, 3) := by decide +kernel
theorem dX2_isPossible_30 : decode cX2_isPossible 30 = .ok (.invokevirtual 71, 3) := by decide +kernel
theorem dX2_isPossible_33 : decode cX2_isPossible 33 = .ok (.ifCond .eq 7, 3) := by decide +kernel
theorem dX2_isPossible_36 : decode cX2_isPossible 36 = .ok (.iconst 1, 1) := by decide +kernel
theorem dX2_isPossible_37 : decode cX2_isPossible 37 = .ok (.goto 4, 3) := by decide +kernel
theorem dX2_isPossible_40 : decode cX2_isPossible 40 = .ok (.iconst 0, 1) := by decide +kernel
theorem dX2_isPossible_41 : decode cX2_isPossible 41 = .ok (.ireturn, 1) := by decide +kernel
theorem dX2_possible_0 : decode cX2_possible 0 = .ok (.aload_n 0, 1) := by decide +kernel
theorem dX2_possible_1 : decode cX2_possible 1 = .ok (.iconst 0, 1) := by decide +kernel
theorem dX2_possible_2 : decode cX2_possible 2 = .ok (.putfield 38, 3) := by decide +kernel
theorem dX2_possible_5 : decode cX2_possible 5 = .ok (.iload_n 1, 1) := by decide +kernel
theorem dX2_possible_6 : decode cX2_possible 6 = .ok (.iconst 0, 1) := by decide +kernel
theorem dX2_possible_7 : decode cX2_possible 7 = .ok (.aload_n 0, 1) := by decide +kernel
theorem dX2_possible_8 : decode cX2_possible 8 = .ok (.aload_n 0, 1) := by decide +kernel
theorem dX2_possible_9 : decode cX2_possible 9 = .ok (.getfield 49, 3) := by decide +kernel
theorem dX2_possible_12 : decode cX2_possible 12 = .ok (.invokevirtual 96, 3) := by decide +kernel
theorem dX2_possible_15 : decode cX2_possible 15 = .ok (.iconst 1, 1) := by decide +kernel
theorem dX2_possible_16 : decode cX2_possible 16 = .ok (.isub, 1) := by decide +kernel
theorem dX2_possible_17 : decode cX2_possible 17 = .ok (.invokestatic 45, 3) := by decide +kernel
theorem dX2_possible_20 : decode cX2_possible 20 = .ok (.ifCond .eq 12, 3) := by decide +kernel
theorem dX2_possible_23 : decode cX2_possible 23 = .ok (.aload_n 0, 1) := by decide +kernel
theorem dX2_possible_24 : decode cX2_possible 24 = .ok (.getfield 26, 3) := by decide +kernel
theorem dX2_possible_27 : decode cX2_possible 27 = .ok (.iload_n 1, 1) := by decide +kernel
theorem dX2_possible_28 : decode cX2_possible 28 = .ok (.iaload, 1) := by decide +kernel
theorem dX2_possible_29 : decode cX2_possible 29 = .ok (.goto 8, 3) := by decide +kernel
theorem dX2_possible_32 : decode cX2_possible 32 = .ok (.aload_n 0, 1) := by decide +kernel
theorem dX2_possible_33 : decode cX2_possible 33 = .ok (.iconst 1, 1) := by decide +kernel
theorem dX2_possible_34 : decode cX2_possible 34 = .ok (.invokevirtual 82, 3) := by decide +kernel
theorem dX2_possible_37 : decode cX2_possible 37 = .ok (.ireturn, 1) := by decide +kernel
theorem dX2_have_0 : decode cX2_have 0 = .ok (.iconst 0, 1) := by decide +kernel
theorem dX2_have_1 : decode cX2_have 1 = .ok (.istore 4, 2) := by decide +kernel
theorem dX2_have_3 : decode cX2_have 3 = .ok (.iconst 0, 1) := by decide +kernel
theorem dX2_have_4 : decode cX2_have 4 = .ok (.istore 5, 2) := by decide +kernel
theorem dX2_have_6 : decode cX2_have 6 = .ok (.iload 5, 2) := by decide +kernel
theorem dX2_have_8 : decode cX2_have 8 = .ok (.iload_n 3, 1) := by decide +kernel
theorem dX2_have_9 : decode cX2_have 9 = .ok (.if_icmp .ge 35, 3) := by decide +kernel
theorem dX2_have_12 : decode cX2_have 12 = .ok (.iload 4, 2) := by decide +kernel
theorem dX2_have_14 : decode cX2_have 14 = .ok (.aload_n 0, 1) := by decide +kernel
theorem dX2_have_15 : decode cX2_have 15 = .ok (.aload_n 0, 1) := by decide +kernel
theorem dX2_have_16 : decode cX2_have 16 = .ok (.getfield 26, 3) := by decide +kernel
theorem dX2_have_19 : decode cX2_have 19 = .ok (.iload 5, 2) := by decide +kernel
theorem dX2_have_21 : decode cX2_have 21 = .ok (.iaload, 1) := by decide +kernel
theorem dX2_have_22 : decode cX2_have 22 = .ok (.iload_n 1, 1) := by decide +kernel
theorem dX2_have_23 : decode cX2_have 23 = .ok (.invokevirtual 56, 3) := by decide +kernel
theorem dX2_have_26 : decode cX2_have 26 = .ok (.iload_n 2, 1) := by decide +kernel
theorem dX2_have_27 : decode cX2_have 27 = .ok (.if_icmp .ne 7, 3) := by decide +kernel
theorem dX2_have_30 : decode cX2_have 30 = .ok (.iconst 1, 1) := by decide +kernel
theorem dX2_have_31 : decode cX2_have 31 = .ok (.goto 4, 3) := by decide +kernel
theorem dX2_have_34 : decode cX2_have 34 = .ok (.iconst 0, 1) := by decide +kernel
theorem dX2_have_35 : decode cX2_have 35 = .ok (.iadd, 1) := by decide +kernel
theorem dX2_have_36 : decode cX2_have 36 = .ok (.istore 4, 2) := by decide +kernel
theorem dX2_have_38 : decode cX2_have 38 = .ok (.iinc 5 1, 3) := by decide +kernel
theorem dX2_have_41 : decode cX2_have 41 = .ok (.goto (-35), 3) := by decide +kernel
theorem dX2_have_44 : decode cX2_have 44 = .ok (.iload 4, 2) := by decide +kernel
theorem dX2_have_46 : decode cX2_have 46 = .ok (.ireturn, 1) := by decide +kernel
theorem dX2_have__0 : decode cX2_have_ 0 = .ok (.aload_n 0, 1) := by decide +kernel
theorem dX2_have__1 : decode cX2_have_ 1 = .ok (.iconst 0, 1) := by decide +kernel
theorem dX2_have__2 : decode cX2_have_ 2 = .ok (.putfield 38, 3) := by decide +kernel
theorem dX2_have__5 : decode cX2_have_ 5 = .ok (.iload_n 1, 1) := by decide +kernel
theorem dX2_have__6 : decode cX2_have_ 6 = .ok (.invokestatic 89, 3) := by decide +kernel
theorem dX2_have__9 : decode cX2_have_ 9 = .ok (.ifCond .eq 34, 3) := by decide +kernel
theorem dX2_have__12 : decode cX2_have_ 12 = .ok (.iload_n 2, 1) := by decide +kernel
theorem dX2_have__13 : decode cX2_have_ 13 = .ok (.iconst 0, 1) := by decide +kernel
theorem dX2_have__14 : decode cX2_have_ 14 = .ok (.aload_n 0, 1) := by decide +kernel
theorem dX2_have__15 : decode cX2_have_ 15 = .ok (.getfield 9, 3) := by decide +kernel
theorem dX2_have__18 : decode cX2_have_ 18 = .ok (.iconst 1, 1) := by decide +kernel
theorem dX2_have__19 : decode cX2_have_ 19 = .ok (.isub, 1) := by decide +kernel
theorem dX2_have__20 : decode cX2_have_ 20 = .ok (.invokestatic 45, 3) := by decide +kernel
theorem dX2_have__23 : decode cX2_have_ 23 = .ok (.ifCond .eq 20, 3) := by decide +kernel
theorem dX2_have__26 : decode cX2_have_ 26 = .ok (.aload_n 0, 1) := by decide +kernel
theorem dX2_have__27 : decode cX2_have_ 27 = .ok (.iload_n 1, 1) := by decide +kernel
theorem dX2_have__28 : decode cX2_have_ 28 = .ok (.iload_n 2, 1) := by decide +kernel
theorem dX2_have__29 : decode cX2_have_ 29 = .ok (.aload_n 0, 1) := by decide +kernel
theorem dX2_have__30 : decode cX2_have_ 30 = .ok (.aload_n 0, 1) := by decide +kernel
theorem dX2_have__31 : decode cX2_have_ 31 = .ok (.getfield 49, 3) := by decide +kernel
theorem dX2_have__34 : decode cX2_have_ 34 = .ok (.invokevirtual 96, 3) := by decide +kernel
theorem dX2_have__37 : decode cX2_have_ 37 = .ok (.invokevirtual 111, 3) := by decide +kernel
theorem dX2_have__40 : decode cX2_have_ 40 = .ok (.goto 8, 3) := by decide +kernel
theorem dX2_have__43 : decode cX2_have_ 43 = .ok (.aload_n 0, 1) := by decide +kernel
theorem dX2_have__44 : decode cX2_have_ 44 = .ok (.iconst 1, 1) := by decide +kernel
theorem dX2_have__45 : decode cX2_have_ 45 = .ok (.invokevirtual 82, 3) := by decide +kernel
theorem dX2_have__48 : decode cX2_have_ 48 = .ok (.ireturn, 1) := by decide +kernel
theorem dX2_sureAt_0 : decode cX2_sureAt 0 = .ok (.aload_n 0, 1) := by decide +kernel
theorem dX2_sureAt_1 : decode cX2_sureAt 1 = .ok (.aload_n 0, 1) := by decide +kernel
theorem dX2_sureAt_2 : decode cX2_sureAt 2 = .ok (.getfield 49, 3) := by decide +kernel
theorem dX2_sureAt_5 : decode cX2_sureAt 5 = .ok (.invokevirtual 96, 3) := by decide +kernel
theorem dX2_sureAt_8 : decode cX2_sureAt 8 = .ok (.pop, 1) := by decide +kernel
theorem dX2_sureAt_9 : decode cX2_sureAt 9 = .ok (.iconst 0, 1) := by decide +kernel
theorem dX2_sureAt_10 : decode cX2_sureAt 10 = .ok (.istore_n 2, 1) := by decide +kernel
theorem dX2_sureAt_11 : decode cX2_sureAt 11 = .ok (.iload_n 2, 1) := by decide +kernel
theorem dX2_sureAt_12 : decode cX2_sureAt 12 = .ok (.aload_n 0, 1) := by decide +kernel
theorem dX2_sureAt_13 : decode cX2_sureAt 13 = .ok (.getfield 9, 3) := by decide +kernel
theorem dX2_sureAt_16 : decode cX2_sureAt 16 = .ok (.if_icmp .ge 35, 3) := by decide +kernel
theorem dX2_sureAt_19 : decode cX2_sureAt 19 = .ok (.aload_n 0, 1) := by decide +kernel
theorem dX2_sureAt_20 : decode cX2_sureAt 20 = .ok (.getfield 68, 3) := by decide +kernel
theorem dX2_sureAt_23 : decode cX2_sureAt 23 = .ok (.ifCond .le 22, 3) := by decide +kernel
theorem dX2_sureAt_26 : decode cX2_sureAt 26 = .ok (.aload_n 0, 1) := by decide +kernel
theorem dX2_sureAt_27 : decode cX2_sureAt 27 = .ok (.iload_n 1, 1) := by decide +kernel
theorem dX2_sureAt_28 : decode cX2_sureAt 28 = .ok (.iload_n 2, 1) := by decide +kernel
theorem dX2_sureAt_29 : decode cX2_sureAt 29 = .ok (.aload_n 0, 1) := by decide +kernel
theorem dX2_sureAt_30 : decode cX2_sureAt 30 = .ok (.getfield 68, 3) := by decide +kernel
theorem dX2_sureAt_33 : decode cX2_sureAt 33 = .ok (.invokevirtual 111, 3) := by decide +kernel
theorem dX2_sureAt_36 : decode cX2_sureAt 36 = .ok (.aload_n 0, 1) := by decide +kernel
theorem dX2_sureAt_37 : decode cX2_sureAt 37 = .ok (.getfield 68, 3) := by decide +kernel
theorem dX2_sureAt_40 : decode cX2_sureAt 40 = .ok (.if_icmp .ne 5, 3) := by decide +kernel
theorem dX2_sureAt_43 : decode cX2_sureAt 43 = .ok (.iload_n 2, 1) := by decide +kernel
theorem dX2_sureAt_44 : decode cX2_sureAt 44 = .ok (.ireturn, 1) := by decide +kernel
theorem dX2_sureAt_45 : decode cX2_sureAt 45 = .ok (.iinc 2 1, 3) := by decide +kernel
theorem dX2_sureAt_48 : decode cX2_sureAt 48 = .ok (.goto (-37), 3) := by decide +kernel
theorem dX2_sureAt_51 : decode cX2_sureAt 51 = .ok (.iconst (-1), 1) := by decide +kernel
theorem dX2_sureAt_52 : decode cX2_sureAt 52 = .ok (.ireturn, 1) := by decide +kernel
theorem dX2_sure_0 : decode cX2_sure 0 = .ok (.aload_n 0, 1) := by decide +kernel
theorem dX2_sure_1 : decode cX2_sure 1 = .ok (.iconst 0, 1) := by decide +kernel
theorem dX2_sure_2 : decode cX2_sure 2 = .ok (.putfield 38, 3) := by decide +kernel
theorem dX2_sure_5 : decode cX2_sure 5 = .ok (.iload_n 1, 1) := by decide +kernel
theorem dX2_sure_6 : decode cX2_sure 6 = .ok (.invokestatic 89, 3) := by decide +kernel
theorem dX2_sure_9 : decode cX2_sure 9 = .ok (.ifCond .eq 11, 3) := by decide +kernel
theorem dX2_sure_12 : decode cX2_sure 12 = .ok (.aload_n 0, 1) := by decide +kernel
theorem dX2_sure_13 : decode cX2_sure 13 = .ok (.iload_n 1, 1) := by decide +kernel
theorem dX2_sure_14 : decode cX2_sure 14 = .ok (.invokevirtual 115, 3) := by decide +kernel
theorem dX2_sure_17 : decode cX2_sure 17 = .ok (.goto 8, 3) := by decide +kernel
theorem dX2_sure_20 : decode cX2_sure 20 = .ok (.aload_n 0, 1) := by decide +kernel
theorem dX2_sure_21 : decode cX2_sure 21 = .ok (.iconst 1, 1) := by decide +kernel
theorem dX2_sure_22 : decode cX2_sure 22 = .ok (.invokevirtual 82, 3) := by decide +kernel
theorem dX2_sure_25 : decode cX2_sure 25 = .ok (.ireturn, 1) := by decide +kernel
theorem dX2_worst_0 : decode cX2_worst 0 = .ok (.aload_n 0, 1) := by decide +kernel
theorem dX2_worst_1 : decode cX2_worst 1 = .ok (.iconst 0, 1) := by decide +kernel
theorem dX2_worst_2 : decode cX2_worst 2 = .ok (.putfield 38, 3) := by decide +kernel
theorem dX2_worst_5 : decode cX2_worst 5 = .ok (.aload_n 0, 1) := by decide +kernel
theorem dX2_worst_6 : decode cX2_worst 6 = .ok (.iload_n 1, 1) := by decide +kernel
theorem dX2_worst_7 : decode cX2_worst 7 = .ok (.invokevirtual 85, 3) := by decide +kernel
theorem dX2_worst_10 : decode cX2_worst 10 = .ok (.ifCond .ne 9, 3) := by decide +kernel
theorem dX2_worst_13 : decode cX2_worst 13 = .ok (.aload_n 0, 1) := by decide +kernel
theorem dX2_worst_14 : decode cX2_worst 14 = .ok (.iconst 1, 1) := by decide +kernel
theorem dX2_worst_15 : decode cX2_worst 15 = .ok (.invokevirtual 82, 3) := by decide +kernel
theorem dX2_worst_18 : decode cX2_worst 18 = .ok (.ireturn, 1) := by decide +kernel
theorem dX2_worst_19 : decode cX2_worst 19 = .ok (.aload_n 0, 1) := by decide +kernel
theorem dX2_worst_20 : decode cX2_worst 20 = .ok (.aload_n 0, 1) := by decide +kernel
theorem dX2_worst_21 : decode cX2_worst 21 = .ok (.getfield 49, 3) := by decide +kernel
theorem dX2_worst_24 : decode cX2_worst 24 = .ok (.invokevirtual 96, 3) := by decide +kernel
theorem dX2_worst_27 : decode cX2_worst 27 = .ok (.pop, 1) := by decide +kernel
theorem dX2_worst_28 : decode cX2_worst 28 = .ok (.aload_n 0, 1) := by decide +kernel
theorem dX2_worst_29 : decode cX2_worst 29 = .ok (.iload_n 1, 1) := by decide +kernel
theorem dX2_worst_30 : decode cX2_worst 30 = .ok (.invokevirtual 118, 3) := by decide +kernel
theorem dX2_worst_33 : decode cX2_worst 33 = .ok (.ireturn, 1) := by decide +kernel
theorem dX2_parts_0 : decode cX2_parts 0 = .ok (.aload_n 0, 1) := by decide +kernel
theorem dX2_parts_1 : decode cX2_parts 1 = .ok (.iconst 0, 1) := by decide +kernel
theorem dX2_parts_2 : decode cX2_parts 2 = .ok (.putfield 38, 3) := by decide +kernel
theorem dX2_parts_5 : decode cX2_parts 5 = .ok (.aload_n 0, 1) := by decide +kernel
theorem dX2_parts_6 : decode cX2_parts 6 = .ok (.iload_n 1, 1) := by decide +kernel
theorem dX2_parts_7 : decode cX2_parts 7 = .ok (.invokevirtual 85, 3) := by decide +kernel
theorem dX2_parts_10 : decode cX2_parts 10 = .ok (.ifCond .ne 9, 3) := by decide +kernel
theorem dX2_parts_13 : decode cX2_parts 13 = .ok (.aload_n 0, 1) := by decide +kernel
theorem dX2_parts_14 : decode cX2_parts 14 = .ok (.iconst 1, 1) := by decide +kernel
theorem dX2_parts_15 : decode cX2_parts 15 = .ok (.invokevirtual 82, 3) := by decide +kernel
theorem dX2_parts_18 : decode cX2_parts 18 = .ok (.ireturn, 1) := by decide +kernel
theorem dX2_parts_19 : decode cX2_parts 19 = .ok (.aload_n 0, 1) := by decide +kernel
theorem dX2_parts_20 : decode cX2_parts 20 = .ok (.aload_n 0, 1) := by decide +kernel
theorem dX2_parts_21 : decode cX2_parts 21 = .ok (.getfield 49, 3) := by decide +kernel
theorem dX2_parts_24 : decode cX2_parts 24 = .ok (.invokevirtual 96, 3) := by decide +kernel
theorem dX2_parts_27 : decode cX2_parts 27 = .ok (.pop, 1) := by decide +kernel
theorem dX2_parts_28 : decode cX2_parts 28 = .ok (.aload_n 0, 1) := by decide +kernel
theorem dX2_parts_29 : decode cX2_parts 29 = .ok (.iload_n 1, 1) := by decide +kernel
theorem dX2_parts_30 : decode cX2_parts 30 = .ok (.invokevirtual 121, 3) := by decide +kernel
theorem dX2_parts_33 : decode cX2_parts 33 = .ok (.ireturn, 1) := by decide +kernel
theorem dX2_best_0 : decode cX2_best 0 = .ok (.aload_n 0, 1) := by decide +kernel
theorem dX2_best_1 : decode cX2_best 1 = .ok (.iconst 0, 1) := by decide +kernel
theorem dX2_best_2 : decode cX2_best 2 = .ok (.putfield 38, 3) := by decide +kernel
theorem dX2_best_5 : decode cX2_best 5 = .ok (.aload_n 0, 1) := by decide +kernel
theorem dX2_best_6 : decode cX2_best 6 = .ok (.aload_n 0, 1) := by decide +kernel
theorem dX2_best_7 : decode cX2_best 7 = .ok (.getfield 49, 3) := by decide +kernel
theorem dX2_best_10 : decode cX2_best 10 = .ok (.invokevirtual 96, 3) := by decide +kernel
theorem dX2_best_13 : decode cX2_best 13 = .ok (.ifCond .ne 5, 3) := by decide +kernel
theorem dX2_best_16 : decode cX2_best 16 = .ok (.iconst (-1), 1) := by decide +kernel
theorem dX2_best_17 : decode cX2_best 17 = .ok (.ireturn, 1) := by decide +kernel
theorem dX2_best_18 : decode cX2_best 18 = .ok (.iconst 0, 1) := by decide +kernel
theorem dX2_best_19 : decode cX2_best 19 = .ok (.istore_n 1, 1) := by decide +kernel
theorem dX2_best_20 : decode cX2_best 20 = .ok (.aload_n 0, 1) := by decide +kernel
theorem dX2_best_21 : decode cX2_best 21 = .ok (.iconst 0, 1) := by decide +kernel
theorem dX2_best_22 : decode cX2_best 22 = .ok (.invokevirtual 118, 3) := by decide +kernel
theorem dX2_best_25 : decode cX2_best 25 = .ok (.istore_n 2, 1) := by decide +kernel
theorem dX2_best_26 : decode cX2_best 26 = .ok (.iconst 1, 1) := by decide +kernel
theorem dX2_best_27 : decode cX2_best 27 = .ok (.istore_n 3, 1) := by decide +kernel
theorem dX2_best_28 : decode cX2_best 28 = .ok (.iload_n 3, 1) := by decide +kernel
theorem dX2_best_29 : decode cX2_best 29 = .ok (.aload_n 0, 1) := by decide +kernel
theorem dX2_best_30 : decode cX2_best 30 = .ok (.invokevirtual 41, 3) := by decide +kernel
theorem dX2_best_33 : decode cX2_best 33 = .ok (.if_icmp .ge 54, 3) := by decide +kernel
theorem dX2_best_36 : decode cX2_best 36 = .ok (.aload_n 0, 1) := by decide +kernel
theorem dX2_best_37 : decode cX2_best 37 = .ok (.iload_n 3, 1) := by decide +kernel
theorem dX2_best_38 : decode cX2_best 38 = .ok (.invokevirtual 118, 3) := by decide +kernel
theorem dX2_best_41 : decode cX2_best 41 = .ok (.istore 4, 2) := by decide +kernel
theorem dX2_best_43 : decode cX2_best 43 = .ok (.iload 4, 2) := by decide +kernel
theorem dX2_best_45 : decode cX2_best 45 = .ok (.iload_n 2, 1) := by decide +kernel
theorem dX2_best_46 : decode cX2_best 46 = .ok (.if_icmp .gt 35, 3) := by decide +kernel
theorem dX2_best_49 : decode cX2_best 49 = .ok (.iload 4, 2) := by decide +kernel
theorem dX2_best_51 : decode cX2_best 51 = .ok (.iload_n 2, 1) := by decide +kernel
theorem dX2_best_52 : decode cX2_best 52 = .ok (.if_icmp .ne 24, 3) := by decide +kernel
theorem dX2_best_55 : decode cX2_best 55 = .ok (.aload_n 0, 1) := by decide +kernel
theorem dX2_best_56 : decode cX2_best 56 = .ok (.iload_n 3, 1) := by decide +kernel
theorem dX2_best_57 : decode cX2_best 57 = .ok (.invokevirtual 124, 3) := by decide +kernel
theorem dX2_best_60 : decode cX2_best 60 = .ok (.iconst (-1), 1) := by decide +kernel
theorem dX2_best_61 : decode cX2_best 61 = .ok (.if_icmp .eq 20, 3) := by decide +kernel
theorem dX2_best_64 : decode cX2_best 64 = .ok (.aload_n 0, 1) := by decide +kernel
theorem dX2_best_65 : decode cX2_best 65 = .ok (.iload_n 1, 1) := by decide +kernel
theorem dX2_best_66 : decode cX2_best 66 = .ok (.invokevirtual 124, 3) := by decide +kernel
theorem dX2_best_69 : decode cX2_best 69 = .ok (.iconst (-1), 1) := by decide +kernel
theorem dX2_best_70 : decode cX2_best 70 = .ok (.if_icmp .eq 6, 3) := by decide +kernel
theorem dX2_best_73 : decode cX2_best 73 = .ok (.goto 8, 3) := by decide +kernel
theorem dX2_best_76 : decode cX2_best 76 = .ok (.iload_n 3, 1) := by decide +kernel
theorem dX2_best_77 : decode cX2_best 77 = .ok (.istore_n 1, 1) := by decide +kernel
theorem dX2_best_78 : decode cX2_best 78 = .ok (.iload 4, 2) := by decide +kernel
theorem dX2_best_80 : decode cX2_best 80 = .ok (.istore_n 2, 1) := by decide +kernel
theorem dX2_best_81 : decode cX2_best 81 = .ok (.iinc 3 1, 3) := by decide +kernel
theorem dX2_best_84 : decode cX2_best 84 = .ok (.goto (-56), 3) := by decide +kernel
theorem dX2_best_87 : decode cX2_best 87 = .ok (.iload_n 1, 1) := by decide +kernel
theorem dX2_best_88 : decode cX2_best 88 = .ok (.ireturn, 1) := by decide +kernel
theorem dX2_keep_0 : decode cX2_keep 0 = .ok (.iconst 0, 1) := by decide +kernel
theorem dX2_keep_1 : decode cX2_keep 1 = .ok (.istore_n 3, 1) := by decide +kernel
theorem dX2_keep_2 : decode cX2_keep 2 = .ok (.iconst 0, 1) := by decide +kernel
theorem dX2_keep_3 : decode cX2_keep 3 = .ok (.istore 4, 2) := by decide +kernel
theorem dX2_keep_5 : decode cX2_keep 5 = .ok (.iload 4, 2) := by decide +kernel
theorem dX2_keep_7 : decode cX2_keep 7 = .ok (.aload_n 0, 1) := by decide +kernel
theorem dX2_keep_8 : decode cX2_keep 8 = .ok (.getfield 68, 3) := by decide +kernel
theorem dX2_keep_11 : decode cX2_keep 11 = .ok (.if_icmp .ge 44, 3) := by decide +kernel
theorem dX2_keep_14 : decode cX2_keep 14 = .ok (.aload_n 0, 1) := by decide +kernel
theorem dX2_keep_15 : decode cX2_keep 15 = .ok (.iload_n 1, 1) := by decide +kernel
theorem dX2_keep_16 : decode cX2_keep 16 = .ok (.aload_n 0, 1) := by decide +kernel
theorem dX2_keep_17 : decode cX2_keep 17 = .ok (.getfield 26, 3) := by decide +kernel
theorem dX2_keep_20 : decode cX2_keep 20 = .ok (.iload 4, 2) := by decide +kernel
theorem dX2_keep_22 : decode cX2_keep 22 = .ok (.iaload, 1) := by decide +kernel
theorem dX2_keep_23 : decode cX2_keep 23 = .ok (.invokevirtual 65, 3) := by decide +kernel
theorem dX2_keep_26 : decode cX2_keep 26 = .ok (.iload_n 2, 1) := by decide +kernel
theorem dX2_keep_27 : decode cX2_keep 27 = .ok (.if_icmp .eq 6, 3) := by decide +kernel
theorem dX2_keep_30 : decode cX2_keep 30 = .ok (.goto 19, 3) := by decide +kernel
theorem dX2_keep_33 : decode cX2_keep 33 = .ok (.aload_n 0, 1) := by decide +kernel
theorem dX2_keep_34 : decode cX2_keep 34 = .ok (.getfield 26, 3) := by decide +kernel
theorem dX2_keep_37 : decode cX2_keep 37 = .ok (.iload_n 3, 1) := by decide +kernel
theorem dX2_keep_38 : decode cX2_keep 38 = .ok (.aload_n 0, 1) := by decide +kernel
theorem dX2_keep_39 : decode cX2_keep 39 = .ok (.getfield 26, 3) := by decide +kernel
theorem dX2_keep_42 : decode cX2_keep 42 = .ok (.iload 4, 2) := by decide +kernel
theorem dX2_keep_44 : decode cX2_keep 44 = .ok (.iaload, 1) := by decide +kernel
theorem dX2_keep_45 : decode cX2_keep 45 = .ok (.iastore, 1) := by decide +kernel
theorem dX2_keep_46 : decode cX2_keep 46 = .ok (.iinc 3 1, 3) := by decide +kernel
theorem dX2_keep_49 : decode cX2_keep 49 = .ok (.iinc 4 1, 3) := by decide +kernel
theorem dX2_keep_52 : decode cX2_keep 52 = .ok (.goto (-47), 3) := by decide +kernel
theorem dX2_keep_55 : decode cX2_keep 55 = .ok (.aload_n 0, 1) := by decide +kernel
theorem dX2_keep_56 : decode cX2_keep 56 = .ok (.iload_n 3, 1) := by decide +kernel
theorem dX2_keep_57 : decode cX2_keep 57 = .ok (.putfield 68, 3) := by decide +kernel
theorem dX2_keep_60 : decode cX2_keep 60 = .ok (.return_, 1) := by decide +kernel
theorem dX2_ofRow_0 : decode cX2_ofRow 0 = .ok (.iconst (-1), 1) := by decide +kernel
theorem dX2_ofRow_1 : decode cX2_ofRow 1 = .ok (.istore_n 1, 1) := by decide +kernel
theorem dX2_ofRow_2 : decode cX2_ofRow 2 = .ok (.iconst 0, 1) := by decide +kernel
theorem dX2_ofRow_3 : decode cX2_ofRow 3 = .ok (.istore_n 2, 1) := by decide +kernel
theorem dX2_ofRow_4 : decode cX2_ofRow 4 = .ok (.iconst 0, 1) := by decide +kernel
theorem dX2_ofRow_5 : decode cX2_ofRow 5 = .ok (.istore_n 3, 1) := by decide +kernel
theorem dX2_ofRow_6 : decode cX2_ofRow 6 = .ok (.iload_n 3, 1) := by decide +kernel
theorem dX2_ofRow_7 : decode cX2_ofRow 7 = .ok (.aload_n 0, 1) := by decide +kernel
theorem dX2_ofRow_8 : decode cX2_ofRow 8 = .ok (.getfield 68, 3) := by decide +kernel
theorem dX2_ofRow_11 : decode cX2_ofRow 11 = .ok (.if_icmp .ge 45, 3) := by decide +kernel
theorem dX2_ofRow_14 : decode cX2_ofRow 14 = .ok (.aload_n 0, 1) := by decide +kernel
theorem dX2_ofRow_15 : decode cX2_ofRow 15 = .ok (.aload_n 0, 1) := by decide +kernel
theorem dX2_ofRow_16 : decode cX2_ofRow 16 = .ok (.getfield 26, 3) := by decide +kernel
theorem dX2_ofRow_19 : decode cX2_ofRow 19 = .ok (.iload_n 3, 1) := by decide +kernel
theorem dX2_ofRow_20 : decode cX2_ofRow 20 = .ok (.iaload, 1) := by decide +kernel
theorem dX2_ofRow_21 : decode cX2_ofRow 21 = .ok (.invokevirtual 118, 3) := by decide +kernel
theorem dX2_ofRow_24 : decode cX2_ofRow 24 = .ok (.istore 4, 2) := by decide +kernel
theorem dX2_ofRow_26 : decode cX2_ofRow 26 = .ok (.iload_n 1, 1) := by decide +kernel
theorem dX2_ofRow_27 : decode cX2_ofRow 27 = .ok (.iconst (-1), 1) := by decide +kernel
theorem dX2_ofRow_28 : decode cX2_ofRow 28 = .ok (.if_icmp .eq 12, 3) := by decide +kernel
theorem dX2_ofRow_31 : decode cX2_ofRow 31 = .ok (.iload 4, 2) := by decide +kernel
theorem dX2_ofRow_33 : decode cX2_ofRow 33 = .ok (.iload_n 2, 1) := by decide +kernel
theorem dX2_ofRow_34 : decode cX2_ofRow 34 = .ok (.if_icmp .lt 6, 3) := by decide +kernel
theorem dX2_ofRow_37 : decode cX2_ofRow 37 = .ok (.goto 13, 3) := by decide +kernel
theorem dX2_ofRow_40 : decode cX2_ofRow 40 = .ok (.aload_n 0, 1) := by decide +kernel
theorem dX2_ofRow_41 : decode cX2_ofRow 41 = .ok (.getfield 26, 3) := by decide +kernel
theorem dX2_ofRow_44 : decode cX2_ofRow 44 = .ok (.iload_n 3, 1) := by decide +kernel
theorem dX2_ofRow_45 : decode cX2_ofRow 45 = .ok (.iaload, 1) := by decide +kernel
theorem dX2_ofRow_46 : decode cX2_ofRow 46 = .ok (.istore_n 1, 1) := by decide +kernel
theorem dX2_ofRow_47 : decode cX2_ofRow 47 = .ok (.iload 4, 2) := by decide +kernel
theorem dX2_ofRow_49 : decode cX2_ofRow 49 = .ok (.istore_n 2, 1) := by decide +kernel
theorem dX2_ofRow_50 : decode cX2_ofRow 50 = .ok (.iinc 3 1, 3) := by decide +kernel
theorem dX2_ofRow_53 : decode cX2_ofRow 53 = .ok (.goto (-47), 3) := by decide +kernel
theorem dX2_ofRow_56 : decode cX2_ofRow 56 = .ok (.iload_n 1, 1) := by decide +kernel
theorem dX2_ofRow_57 : decode cX2_ofRow 57 = .ok (.ireturn, 1) := by decide +kernel
theorem dX2_takes_0 : decode cX2_takes 0 = .ok (.aload_n 0, 1) := by decide +kernel
theorem dX2_takes_1 : decode cX2_takes 1 = .ok (.iconst 0, 1) := by decide +kernel
theorem dX2_takes_2 : decode cX2_takes 2 = .ok (.putfield 38, 3) := by decide +kernel
theorem dX2_takes_5 : decode cX2_takes 5 = .ok (.aload_n 0, 1) := by decide +kernel
theorem dX2_takes_6 : decode cX2_takes 6 = .ok (.iload_n 1, 1) := by decide +kernel
theorem dX2_takes_7 : decode cX2_takes 7 = .ok (.invokevirtual 85, 3) := by decide +kernel
theorem dX2_takes_10 : decode cX2_takes 10 = .ok (.ifCond .eq 11, 3) := by decide +kernel
theorem dX2_takes_13 : decode cX2_takes 13 = .ok (.aload_n 0, 1) := by decide +kernel
theorem dX2_takes_14 : decode cX2_takes 14 = .ok (.iload_n 2, 1) := by decide +kernel
theorem dX2_takes_15 : decode cX2_takes 15 = .ok (.invokevirtual 85, 3) := by decide +kernel
theorem dX2_takes_18 : decode cX2_takes 18 = .ok (.ifCond .ne 9, 3) := by decide +kernel
theorem dX2_takes_21 : decode cX2_takes 21 = .ok (.aload_n 0, 1) := by decide +kernel
theorem dX2_takes_22 : decode cX2_takes 22 = .ok (.iconst 1, 1) := by decide +kernel
theorem dX2_takes_23 : decode cX2_takes 23 = .ok (.invokevirtual 82, 3) := by decide +kernel
theorem dX2_takes_26 : decode cX2_takes 26 = .ok (.ireturn, 1) := by decide +kernel
theorem dX2_takes_27 : decode cX2_takes 27 = .ok (.aload_n 0, 1) := by decide +kernel
theorem dX2_takes_28 : decode cX2_takes 28 = .ok (.iconst 0, 1) := by decide +kernel
theorem dX2_takes_29 : decode cX2_takes 29 = .ok (.putfield 68, 3) := by decide +kernel
theorem dX2_takes_32 : decode cX2_takes 32 = .ok (.iconst 0, 1) := by decide +kernel
theorem dX2_takes_33 : decode cX2_takes 33 = .ok (.istore_n 3, 1) := by decide +kernel
theorem dX2_takes_34 : decode cX2_takes 34 = .ok (.iload_n 3, 1) := by decide +kernel
theorem dX2_takes_35 : decode cX2_takes 35 = .ok (.aload_n 0, 1) := by decide +kernel
theorem dX2_takes_36 : decode cX2_takes 36 = .ok (.invokevirtual 41, 3) := by decide +kernel
theorem dX2_takes_39 : decode cX2_takes 39 = .ok (.if_icmp .ge 29, 3) := by decide +kernel
theorem dX2_takes_42 : decode cX2_takes 42 = .ok (.aload_n 0, 1) := by decide +kernel
theorem dX2_takes_43 : decode cX2_takes 43 = .ok (.getfield 26, 3) := by decide +kernel
theorem dX2_takes_46 : decode cX2_takes 46 = .ok (.aload_n 0, 1) := by decide +kernel
theorem dX2_takes_47 : decode cX2_takes 47 = .ok (.getfield 68, 3) := by decide +kernel
theorem dX2_takes_50 : decode cX2_takes 50 = .ok (.iload_n 3, 1) := by decide +kernel
theorem dX2_takes_51 : decode cX2_takes 51 = .ok (.iastore, 1) := by decide +kernel
theorem dX2_takes_52 : decode cX2_takes 52 = .ok (.aload_n 0, 1) := by decide +kernel
theorem dX2_takes_53 : decode cX2_takes 53 = .ok (.dup, 1) := by decide +kernel
theorem dX2_takes_54 : decode cX2_takes 54 = .ok (.getfield 68, 3) := by decide +kernel
theorem dX2_takes_57 : decode cX2_takes 57 = .ok (.iconst 1, 1) := by decide +kernel
theorem dX2_takes_58 : decode cX2_takes 58 = .ok (.iadd, 1) := by decide +kernel
theorem dX2_takes_59 : decode cX2_takes 59 = .ok (.putfield 68, 3) := by decide +kernel
theorem dX2_takes_62 : decode cX2_takes 62 = .ok (.iinc 3 1, 3) := by decide +kernel
theorem dX2_takes_65 : decode cX2_takes 65 = .ok (.goto (-31), 3) := by decide +kernel
theorem dX2_takes_68 : decode cX2_takes 68 = .ok (.iload_n 2, 1) := by decide +kernel
theorem dX2_takes_69 : decode cX2_takes 69 = .ok (.istore_n 3, 1) := by decide +kernel
theorem dX2_takes_70 : decode cX2_takes 70 = .ok (.iconst 1, 1) := by decide +kernel
theorem dX2_takes_71 : decode cX2_takes 71 = .ok (.istore 4, 2) := by decide +kernel
theorem dX2_takes_73 : decode cX2_takes 73 = .ok (.iload_n 3, 1) := by decide +kernel
theorem dX2_takes_74 : decode cX2_takes 74 = .ok (.iload_n 1, 1) := by decide +kernel
theorem dX2_takes_75 : decode cX2_takes 75 = .ok (.if_icmp .eq 25, 3) := by decide +kernel
theorem dX2_takes_78 : decode cX2_takes 78 = .ok (.aload_n 0, 1) := by decide +kernel
theorem dX2_takes_79 : decode cX2_takes 79 = .ok (.iload_n 3, 1) := by decide +kernel
theorem dX2_takes_80 : decode cX2_takes 80 = .ok (.aload_n 0, 1) := by decide +kernel
theorem dX2_takes_81 : decode cX2_takes 81 = .ok (.iload_n 3, 1) := by decide +kernel
theorem dX2_takes_82 : decode cX2_takes 82 = .ok (.iload_n 1, 1) := by decide +kernel
theorem dX2_takes_83 : decode cX2_takes 83 = .ok (.invokevirtual 65, 3) := by decide +kernel
theorem dX2_takes_86 : decode cX2_takes 86 = .ok (.invokevirtual 127, 3) := by decide +kernel
theorem dX2_takes_89 : decode cX2_takes 89 = .ok (.aload_n 0, 1) := by decide +kernel
theorem dX2_takes_90 : decode cX2_takes 90 = .ok (.invokevirtual 130, 3) := by decide +kernel
theorem dX2_takes_93 : decode cX2_takes 93 = .ok (.istore_n 3, 1) := by decide +kernel
theorem dX2_takes_94 : decode cX2_takes 94 = .ok (.iinc 4 1, 3) := by decide +kernel
theorem dX2_takes_97 : decode cX2_takes 97 = .ok (.goto (-24), 3) := by decide +kernel
theorem dX2_takes_100 : decode cX2_takes 100 = .ok (.iload 4, 2) := by decide +kernel
theorem dX2_takes_102 : decode cX2_takes 102 = .ok (.ireturn, 1) := by decide +kernel
theorem dX2_mean_0 : decode cX2_mean 0 = .ok (.aload_n 0, 1) := by decide +kernel
theorem dX2_mean_1 : decode cX2_mean 1 = .ok (.iconst 0, 1) := by decide +kernel
theorem dX2_mean_2 : decode cX2_mean 2 = .ok (.putfield 38, 3) := by decide +kernel
theorem dX2_mean_5 : decode cX2_mean 5 = .ok (.iconst 0, 1) := by decide +kernel
theorem dX2_mean_6 : decode cX2_mean 6 = .ok (.istore_n 1, 1) := by decide +kernel
theorem dX2_mean_7 : decode cX2_mean 7 = .ok (.iconst 0, 1) := by decide +kernel
theorem dX2_mean_8 : decode cX2_mean 8 = .ok (.istore_n 2, 1) := by decide +kernel
theorem dX2_mean_9 : decode cX2_mean 9 = .ok (.iload_n 2, 1) := by decide +kernel
theorem dX2_mean_10 : decode cX2_mean 10 = .ok (.aload_n 0, 1) := by decide +kernel
theorem dX2_mean_11 : decode cX2_mean 11 = .ok (.getfield 49, 3) := by decide +kernel
theorem dX2_mean_14 : decode cX2_mean 14 = .ok (.if_icmp .ge 20, 3) := by decide +kernel
theorem dX2_mean_17 : decode cX2_mean 17 = .ok (.iload_n 1, 1) := by decide +kernel
theorem dX2_mean_18 : decode cX2_mean 18 = .ok (.aload_n 0, 1) := by decide +kernel
theorem dX2_mean_19 : decode cX2_mean 19 = .ok (.getfield 20, 3) := by decide +kernel
theorem dX2_mean_22 : decode cX2_mean 22 = .ok (.iload_n 2, 1) := by decide +kernel
theorem dX2_mean_23 : decode cX2_mean 23 = .ok (.iaload, 1) := by decide +kernel
theorem dX2_mean_24 : decode cX2_mean 24 = .ok (.iconst 5, 1) := by decide +kernel
theorem dX2_mean_25 : decode cX2_mean 25 = .ok (.idiv, 1) := by decide +kernel
theorem dX2_mean_26 : decode cX2_mean 26 = .ok (.iadd, 1) := by decide +kernel
theorem dX2_mean_27 : decode cX2_mean 27 = .ok (.istore_n 1, 1) := by decide +kernel
theorem dX2_mean_28 : decode cX2_mean 28 = .ok (.iinc 2 1, 3) := by decide +kernel
theorem dX2_mean_31 : decode cX2_mean 31 = .ok (.goto (-22), 3) := by decide +kernel
theorem dX2_mean_34 : decode cX2_mean 34 = .ok (.aload_n 0, 1) := by decide +kernel
theorem dX2_mean_35 : decode cX2_mean 35 = .ok (.getfield 49, 3) := by decide +kernel
theorem dX2_mean_38 : decode cX2_mean 38 = .ok (.ifCond .ne 7, 3) := by decide +kernel
theorem dX2_mean_41 : decode cX2_mean 41 = .ok (.dconst 0, 1) := by decide +kernel
theorem dX2_mean_42 : decode cX2_mean 42 = .ok (.goto 11, 3) := by decide +kernel
theorem dX2_mean_45 : decode cX2_mean 45 = .ok (.iload_n 1, 1) := by decide +kernel
theorem dX2_mean_46 : decode cX2_mean 46 = .ok (.i2d, 1) := by decide +kernel
theorem dX2_mean_47 : decode cX2_mean 47 = .ok (.aload_n 0, 1) := by decide +kernel
theorem dX2_mean_48 : decode cX2_mean 48 = .ok (.getfield 49, 3) := by decide +kernel
theorem dX2_mean_51 : decode cX2_mean 51 = .ok (.i2d, 1) := by decide +kernel
theorem dX2_mean_52 : decode cX2_mean 52 = .ok (.ddiv, 1) := by decide +kernel
theorem dX2_mean_53 : decode cX2_mean 53 = .ok (.dreturn, 1) := by decide +kernel
theorem dX2_digest_0 : decode cX2_digest 0 = .ok (.aload_n 0, 1) := by decide +kernel
theorem dX2_digest_1 : decode cX2_digest 1 = .ok (.iconst 0, 1) := by decide +kernel
theorem dX2_digest_2 : decode cX2_digest 2 = .ok (.putfield 38, 3) := by decide +kernel
theorem dX2_digest_5 : decode cX2_digest 5 = .ok (.ldc2_w 133, 3) := by decide +kernel
theorem dX2_digest_8 : decode cX2_digest 8 = .ok (.lstore_n 1, 1) := by decide +kernel
theorem dX2_digest_9 : decode cX2_digest 9 = .ok (.iconst 0, 1) := by decide +kernel
theorem dX2_digest_10 : decode cX2_digest 10 = .ok (.istore_n 3, 1) := by decide +kernel
theorem dX2_digest_11 : decode cX2_digest 11 = .ok (.iload_n 3, 1) := by decide +kernel
theorem dX2_digest_12 : decode cX2_digest 12 = .ok (.bipush 7, 2) := by decide +kernel
theorem dX2_digest_14 : decode cX2_digest 14 = .ok (.if_icmp .ge 22, 3) := by decide +kernel
theorem dX2_digest_17 : decode cX2_digest 17 = .ok (.lload_n 1, 1) := by decide +kernel
theorem dX2_digest_18 : decode cX2_digest 18 = .ok (.ldc2_w 135, 3) := by decide +kernel
theorem dX2_digest_21 : decode cX2_digest 21 = .ok (.lmul, 1) := by decide +kernel
theorem dX2_digest_22 : decode cX2_digest 22 = .ok (.aload_n 0, 1) := by decide +kernel
theorem dX2_digest_23 : decode cX2_digest 23 = .ok (.iload_n 3, 1) := by decide +kernel
theorem dX2_digest_24 : decode cX2_digest 24 = .ok (.invokevirtual 108, 3) := by decide +kernel
theorem dX2_digest_27 : decode cX2_digest 27 = .ok (.i2l, 1) := by decide +kernel
theorem dX2_digest_28 : decode cX2_digest 28 = .ok (.ladd, 1) := by decide +kernel
theorem dX2_digest_29 : decode cX2_digest 29 = .ok (.lstore_n 1, 1) := by decide +kernel
theorem dX2_digest_30 : decode cX2_digest 30 = .ok (.iinc 3 1, 3) := by decide +kernel
theorem dX2_digest_33 : decode cX2_digest 33 = .ok (.goto (-22), 3) := by decide +kernel
theorem dX2_digest_36 : decode cX2_digest 36 = .ok (.lload_n 1, 1) := by decide +kernel
theorem dX2_digest_37 : decode cX2_digest 37 = .ok (.ldc2_w 135, 3) := by decide +kernel
theorem dX2_digest_40 : decode cX2_digest 40 = .ok (.lmul, 1) := by decide +kernel
theorem dX2_digest_41 : decode cX2_digest 41 = .ok (.aload_n 0, 1) := by decide +kernel
theorem dX2_digest_42 : decode cX2_digest 42 = .ok (.getfield 13, 3) := by decide +kernel
theorem dX2_digest_45 : decode cX2_digest 45 = .ok (.i2l, 1) := by decide +kernel
theorem dX2_digest_46 : decode cX2_digest 46 = .ok (.ladd, 1) := by decide +kernel
theorem dX2_digest_47 : decode cX2_digest 47 = .ok (.lstore_n 1, 1) := by decide +kernel
theorem dX2_digest_48 : decode cX2_digest 48 = .ok (.iconst 0, 1) := by decide +kernel
theorem dX2_digest_49 : decode cX2_digest 49 = .ok (.istore_n 3, 1) := by decide +kernel
theorem dX2_digest_50 : decode cX2_digest 50 = .ok (.iload_n 3, 1) := by decide +kernel
theorem dX2_digest_51 : decode cX2_digest 51 = .ok (.aload_n 0, 1) := by decide +kernel
theorem dX2_digest_52 : decode cX2_digest 52 = .ok (.getfield 49, 3) := by decide +kernel
theorem dX2_digest_55 : decode cX2_digest 55 = .ok (.if_icmp .ge 40, 3) := by decide +kernel
theorem dX2_digest_58 : decode cX2_digest 58 = .ok (.iconst 0, 1) := by decide +kernel
theorem dX2_digest_59 : decode cX2_digest 59 = .ok (.istore 4, 2) := by decide +kernel
theorem dX2_digest_61 : decode cX2_digest 61 = .ok (.iload 4, 2) := by decide +kernel
theorem dX2_digest_63 : decode cX2_digest 63 = .ok (.bipush 6, 2) := by decide +kernel
theorem dX2_digest_65 : decode cX2_digest 65 = .ok (.if_icmp .ge 24, 3) := by decide +kernel
theorem dX2_digest_68 : decode cX2_digest 68 = .ok (.lload_n 1, 1) := by decide +kernel
theorem dX2_digest_69 : decode cX2_digest 69 = .ok (.ldc2_w 135, 3) := by decide +kernel
theorem dX2_digest_72 : decode cX2_digest 72 = .ok (.lmul, 1) := by decide +kernel
theorem dX2_digest_73 : decode cX2_digest 73 = .ok (.aload_n 0, 1) := by decide +kernel
theorem dX2_digest_74 : decode cX2_digest 74 = .ok (.iload_n 3, 1) := by decide +kernel
theorem dX2_digest_75 : decode cX2_digest 75 = .ok (.iload 4, 2) := by decide +kernel
theorem dX2_digest_77 : decode cX2_digest 77 = .ok (.invokevirtual 105, 3) := by decide +kernel
theorem dX2_digest_80 : decode cX2_digest 80 = .ok (.i2l, 1) := by decide +kernel
theorem dX2_digest_81 : decode cX2_digest 81 = .ok (.ladd, 1) := by decide +kernel
theorem dX2_digest_82 : decode cX2_digest 82 = .ok (.lstore_n 1, 1) := by decide +kernel
theorem dX2_digest_83 : decode cX2_digest 83 = .ok (.iinc 4 1, 3) := by decide +kernel
theorem dX2_digest_86 : decode cX2_digest 86 = .ok (.goto (-25), 3) := by decide +kernel
theorem dX2_digest_89 : decode cX2_digest 89 = .ok (.iinc 3 1, 3) := by decide +kernel
theorem dX2_digest_92 : decode cX2_digest 92 = .ok (.goto (-42), 3) := by decide +kernel
theorem dX2_digest_95 : decode cX2_digest 95 = .ok (.iconst 0, 1) := by decide +kernel
theorem dX2_digest_96 : decode cX2_digest 96 = .ok (.istore_n 3, 1) := by decide +kernel
theorem dX2_digest_97 : decode cX2_digest 97 = .ok (.iload_n 3, 1) := by decide +kernel
theorem dX2_digest_98 : decode cX2_digest 98 = .ok (.iconst 4, 1) := by decide +kernel
theorem dX2_digest_99 : decode cX2_digest 99 = .ok (.if_icmp .ge 63, 3) := by decide +kernel
theorem dX2_digest_102 : decode cX2_digest 102 = .ok (.lload_n 1, 1) := by decide +kernel
theorem dX2_digest_103 : decode cX2_digest 103 = .ok (.ldc2_w 135, 3) := by decide +kernel
theorem dX2_digest_106 : decode cX2_digest 106 = .ok (.lmul, 1) := by decide +kernel
theorem dX2_digest_107 : decode cX2_digest 107 = .ok (.aload_n 0, 1) := by decide +kernel
theorem dX2_digest_108 : decode cX2_digest 108 = .ok (.iload_n 3, 1) := by decide +kernel
theorem dX2_digest_109 : decode cX2_digest 109 = .ok (.invokevirtual 115, 3) := by decide +kernel
theorem dX2_digest_112 : decode cX2_digest 112 = .ok (.i2l, 1) := by decide +kernel
theorem dX2_digest_113 : decode cX2_digest 113 = .ok (.ladd, 1) := by decide +kernel
theorem dX2_digest_114 : decode cX2_digest 114 = .ok (.lstore_n 1, 1) := by decide +kernel
theorem dX2_digest_115 : decode cX2_digest 115 = .ok (.iconst 0, 1) := by decide +kernel
theorem dX2_digest_116 : decode cX2_digest 116 = .ok (.istore 4, 2) := by decide +kernel
theorem dX2_digest_118 : decode cX2_digest 118 = .ok (.iload 4, 2) := by decide +kernel
theorem dX2_digest_120 : decode cX2_digest 120 = .ok (.aload_n 0, 1) := by decide +kernel
theorem dX2_digest_121 : decode cX2_digest 121 = .ok (.getfield 9, 3) := by decide +kernel
theorem dX2_digest_124 : decode cX2_digest 124 = .ok (.if_icmp .ge 32, 3) := by decide +kernel
theorem dX2_digest_127 : decode cX2_digest 127 = .ok (.lload_n 1, 1) := by decide +kernel
theorem dX2_digest_128 : decode cX2_digest 128 = .ok (.ldc2_w 135, 3) := by decide +kernel
theorem dX2_digest_131 : decode cX2_digest 131 = .ok (.lmul, 1) := by decide +kernel
theorem dX2_digest_132 : decode cX2_digest 132 = .ok (.aload_n 0, 1) := by decide +kernel
theorem dX2_digest_133 : decode cX2_digest 133 = .ok (.iload_n 3, 1) := by decide +kernel
theorem dX2_digest_134 : decode cX2_digest 134 = .ok (.iload 4, 2) := by decide +kernel
theorem dX2_digest_136 : decode cX2_digest 136 = .ok (.aload_n 0, 1) := by decide +kernel
theorem dX2_digest_137 : decode cX2_digest 137 = .ok (.aload_n 0, 1) := by decide +kernel
theorem dX2_digest_138 : decode cX2_digest 138 = .ok (.getfield 49, 3) := by decide +kernel
theorem dX2_digest_141 : decode cX2_digest 141 = .ok (.invokevirtual 96, 3) := by decide +kernel
theorem dX2_digest_144 : decode cX2_digest 144 = .ok (.invokevirtual 111, 3) := by decide +kernel
theorem dX2_digest_147 : decode cX2_digest 147 = .ok (.i2l, 1) := by decide +kernel
theorem dX2_digest_148 : decode cX2_digest 148 = .ok (.ladd, 1) := by decide +kernel
theorem dX2_digest_149 : decode cX2_digest 149 = .ok (.lstore_n 1, 1) := by decide +kernel
theorem dX2_digest_150 : decode cX2_digest 150 = .ok (.iinc 4 1, 3) := by decide +kernel
theorem dX2_digest_153 : decode cX2_digest 153 = .ok (.goto (-35), 3) := by decide +kernel
theorem dX2_digest_156 : decode cX2_digest 156 = .ok (.iinc 3 1, 3) := by decide +kernel
theorem dX2_digest_159 : decode cX2_digest 159 = .ok (.goto (-62), 3) := by decide +kernel
theorem dX2_digest_162 : decode cX2_digest 162 = .ok (.aload_n 0, 1) := by decide +kernel
theorem dX2_digest_163 : decode cX2_digest 163 = .ok (.aload_n 0, 1) := by decide +kernel
theorem dX2_digest_164 : decode cX2_digest 164 = .ok (.getfield 49, 3) := by decide +kernel
theorem dX2_digest_167 : decode cX2_digest 167 = .ok (.invokevirtual 96, 3) := by decide +kernel
theorem dX2_digest_170 : decode cX2_digest 170 = .ok (.pop, 1) := by decide +kernel
theorem dX2_digest_171 : decode cX2_digest 171 = .ok (.iconst 0, 1) := by decide +kernel
theorem dX2_digest_172 : decode cX2_digest 172 = .ok (.istore_n 3, 1) := by decide +kernel
theorem dX2_digest_173 : decode cX2_digest 173 = .ok (.iload_n 3, 1) := by decide +kernel
theorem dX2_digest_174 : decode cX2_digest 174 = .ok (.aload_n 0, 1) := by decide +kernel
theorem dX2_digest_175 : decode cX2_digest 175 = .ok (.getfield 68, 3) := by decide +kernel
theorem dX2_digest_178 : decode cX2_digest 178 = .ok (.if_icmp .ge 23, 3) := by decide +kernel
theorem dX2_digest_181 : decode cX2_digest 181 = .ok (.lload_n 1, 1) := by decide +kernel
theorem dX2_digest_182 : decode cX2_digest 182 = .ok (.ldc2_w 135, 3) := by decide +kernel
theorem dX2_digest_185 : decode cX2_digest 185 = .ok (.lmul, 1) := by decide +kernel
theorem dX2_digest_186 : decode cX2_digest 186 = .ok (.aload_n 0, 1) := by decide +kernel
theorem dX2_digest_187 : decode cX2_digest 187 = .ok (.getfield 26, 3) := by decide +kernel
theorem dX2_digest_190 : decode cX2_digest 190 = .ok (.iload_n 3, 1) := by decide +kernel
theorem dX2_digest_191 : decode cX2_digest 191 = .ok (.iaload, 1) := by decide +kernel
theorem dX2_digest_192 : decode cX2_digest 192 = .ok (.i2l, 1) := by decide +kernel
theorem dX2_digest_193 : decode cX2_digest 193 = .ok (.ladd, 1) := by decide +kernel
theorem dX2_digest_194 : decode cX2_digest 194 = .ok (.lstore_n 1, 1) := by decide +kernel
theorem dX2_digest_195 : decode cX2_digest 195 = .ok (.iinc 3 1, 3) := by decide +kernel
theorem dX2_digest_198 : decode cX2_digest 198 = .ok (.goto (-25), 3) := by decide +kernel
theorem dX2_digest_201 : decode cX2_digest 201 = .ok (.lload_n 1, 1) := by decide +kernel
theorem dX2_digest_202 : decode cX2_digest 202 = .ok (.lreturn, 1) := by decide +kernel
