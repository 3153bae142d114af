theorem dX0_init_0 : decode cX0_init 0 = .ok (.aload_n 0, 1) := by decide +kernel
theorem dX0_init_1 : decode cX0_init 1 = .ok (.invokespecial 3, 3) := by decide +kernel
theorem dX0_init_4 : decode cX0_init 4 = .ok (.aload_n 0, 1) := by decide +kernel
theorem dX0_init_5 : decode cX0_init 5 = .ok (.iload_n 1, 1) := by decide +kernel
theorem dX0_init_6 : decode cX0_init 6 = .ok (.iconst 2, 1) := by decide +kernel
theorem dX0_init_7 : decode cX0_init 7 = .ok (.if_icmp .ne 7, 3) := by decide +kernel
theorem dX0_init_10 : decode cX0_init 10 = .ok (.iconst 2, 1) := by decide +kernel
theorem dX0_init_11 : decode cX0_init 11 = .ok (.goto 4, 3) := by decide +kernel
theorem dX0_init_14 : decode cX0_init 14 = .ok (.iconst 3, 1) := by decide +kernel
theorem dX0_init_15 : decode cX0_init 15 = .ok (.putfield 9, 3) := by decide +kernel
theorem dX0_init_18 : decode cX0_init 18 = .ok (.aload_n 0, 1) := by decide +kernel
theorem dX0_init_19 : decode cX0_init 19 = .ok (.aload_n 0, 1) := by decide +kernel
theorem dX0_init_20 : decode cX0_init 20 = .ok (.getfield 9, 3) := by decide +kernel
theorem dX0_init_23 : decode cX0_init 23 = .ok (.aload_n 0, 1) := by decide +kernel
theorem dX0_init_24 : decode cX0_init 24 = .ok (.getfield 9, 3) := by decide +kernel
theorem dX0_init_27 : decode cX0_init 27 = .ok (.imul, 1) := by decide +kernel
theorem dX0_init_28 : decode cX0_init 28 = .ok (.aload_n 0, 1) := by decide +kernel
theorem dX0_init_29 : decode cX0_init 29 = .ok (.getfield 9, 3) := by decide +kernel
theorem dX0_init_32 : decode cX0_init 32 = .ok (.imul, 1) := by decide +kernel
theorem dX0_init_33 : decode cX0_init 33 = .ok (.aload_n 0, 1) := by decide +kernel
theorem dX0_init_34 : decode cX0_init 34 = .ok (.getfield 9, 3) := by decide +kernel
theorem dX0_init_37 : decode cX0_init 37 = .ok (.imul, 1) := by decide +kernel
theorem dX0_init_38 : decode cX0_init 38 = .ok (.putfield 15, 3) := by decide +kernel
theorem dX0_init_41 : decode cX0_init 41 = .ok (.aload_n 0, 1) := by decide +kernel
theorem dX0_init_42 : decode cX0_init 42 = .ok (.aload_n 0, 1) := by decide +kernel
theorem dX0_init_43 : decode cX0_init 43 = .ok (.getfield 15, 3) := by decide +kernel
theorem dX0_init_46 : decode cX0_init 46 = .ok (.iconst 4, 1) := by decide +kernel
theorem dX0_init_47 : decode cX0_init 47 = .ok (.multianewarray 18 2, 4) := by decide +kernel
theorem dX0_init_51 : decode cX0_init 51 = .ok (.putfield 20, 3) := by decide +kernel
theorem dX0_init_54 : decode cX0_init 54 = .ok (.aload_n 0, 1) := by decide +kernel
theorem dX0_init_55 : decode cX0_init 55 = .ok (.aload_n 0, 1) := by decide +kernel
theorem dX0_init_56 : decode cX0_init 56 = .ok (.getfield 15, 3) := by decide +kernel
theorem dX0_init_59 : decode cX0_init 59 = .ok (.aload_n 0, 1) := by decide +kernel
theorem dX0_init_60 : decode cX0_init 60 = .ok (.getfield 15, 3) := by decide +kernel
theorem dX0_init_63 : decode cX0_init 63 = .ok (.multianewarray 18 2, 4) := by decide +kernel
theorem dX0_init_67 : decode cX0_init 67 = .ok (.putfield 23, 3) := by decide +kernel
theorem dX0_init_70 : decode cX0_init 70 = .ok (.aload_n 0, 1) := by decide +kernel
theorem dX0_init_71 : decode cX0_init 71 = .ok (.invokevirtual 26, 3) := by decide +kernel
theorem dX0_init_74 : decode cX0_init 74 = .ok (.aload_n 0, 1) := by decide +kernel
theorem dX0_init_75 : decode cX0_init 75 = .ok (.aload_n 0, 1) := by decide +kernel
theorem dX0_init_76 : decode cX0_init 76 = .ok (.invokevirtual 29, 3) := by decide +kernel
theorem dX0_init_79 : decode cX0_init 79 = .ok (.invokevirtual 33, 3) := by decide +kernel
theorem dX0_init_82 : decode cX0_init 82 = .ok (.return_, 1) := by decide +kernel
theorem dX0_lightCandles_0 : decode cX0_lightCandles 0 = .ok (.iconst 0, 1) := by decide +kernel
theorem dX0_lightCandles_1 : decode cX0_lightCandles 1 = .ok (.istore_n 1, 1) := by decide +kernel
theorem dX0_lightCandles_2 : decode cX0_lightCandles 2 = .ok (.iload_n 1, 1) := by decide +kernel
theorem dX0_lightCandles_3 : decode cX0_lightCandles 3 = .ok (.aload_n 0, 1) := by decide +kernel
theorem dX0_lightCandles_4 : decode cX0_lightCandles 4 = .ok (.getfield 20, 3) := by decide +kernel
theorem dX0_lightCandles_7 : decode cX0_lightCandles 7 = .ok (.arraylength, 1) := by decide +kernel
theorem dX0_lightCandles_8 : decode cX0_lightCandles 8 = .ok (.if_icmp .ge 44, 3) := by decide +kernel
theorem dX0_lightCandles_11 : decode cX0_lightCandles 11 = .ok (.iload_n 1, 1) := by decide +kernel
theorem dX0_lightCandles_12 : decode cX0_lightCandles 12 = .ok (.istore_n 2, 1) := by decide +kernel
theorem dX0_lightCandles_13 : decode cX0_lightCandles 13 = .ok (.iconst 3, 1) := by decide +kernel
theorem dX0_lightCandles_14 : decode cX0_lightCandles 14 = .ok (.istore_n 3, 1) := by decide +kernel
theorem dX0_lightCandles_15 : decode cX0_lightCandles 15 = .ok (.iload_n 3, 1) := by decide +kernel
theorem dX0_lightCandles_16 : decode cX0_lightCandles 16 = .ok (.ifCond .lt 30, 3) := by decide +kernel
theorem dX0_lightCandles_19 : decode cX0_lightCandles 19 = .ok (.aload_n 0, 1) := by decide +kernel
theorem dX0_lightCandles_20 : decode cX0_lightCandles 20 = .ok (.getfield 20, 3) := by decide +kernel
theorem dX0_lightCandles_23 : decode cX0_lightCandles 23 = .ok (.iload_n 1, 1) := by decide +kernel
theorem dX0_lightCandles_24 : decode cX0_lightCandles 24 = .ok (.aaload, 1) := by decide +kernel
theorem dX0_lightCandles_25 : decode cX0_lightCandles 25 = .ok (.iload_n 3, 1) := by decide +kernel
theorem dX0_lightCandles_26 : decode cX0_lightCandles 26 = .ok (.iload_n 2, 1) := by decide +kernel
theorem dX0_lightCandles_27 : decode cX0_lightCandles 27 = .ok (.aload_n 0, 1) := by decide +kernel
theorem dX0_lightCandles_28 : decode cX0_lightCandles 28 = .ok (.getfield 9, 3) := by decide +kernel
theorem dX0_lightCandles_31 : decode cX0_lightCandles 31 = .ok (.irem, 1) := by decide +kernel
theorem dX0_lightCandles_32 : decode cX0_lightCandles 32 = .ok (.iastore, 1) := by decide +kernel
theorem dX0_lightCandles_33 : decode cX0_lightCandles 33 = .ok (.iload_n 2, 1) := by decide +kernel
theorem dX0_lightCandles_34 : decode cX0_lightCandles 34 = .ok (.aload_n 0, 1) := by decide +kernel
theorem dX0_lightCandles_35 : decode cX0_lightCandles 35 = .ok (.getfield 9, 3) := by decide +kernel
theorem dX0_lightCandles_38 : decode cX0_lightCandles 38 = .ok (.idiv, 1) := by decide +kernel
theorem dX0_lightCandles_39 : decode cX0_lightCandles 39 = .ok (.istore_n 2, 1) := by decide +kernel
theorem dX0_lightCandles_40 : decode cX0_lightCandles 40 = .ok (.iinc 3 (-1), 3) := by decide +kernel
theorem dX0_lightCandles_43 : decode cX0_lightCandles 43 = .ok (.goto (-28), 3) := by decide +kernel
theorem dX0_lightCandles_46 : decode cX0_lightCandles 46 = .ok (.iinc 1 1, 3) := by decide +kernel
theorem dX0_lightCandles_49 : decode cX0_lightCandles 49 = .ok (.goto (-47), 3) := by decide +kernel
theorem dX0_lightCandles_52 : decode cX0_lightCandles 52 = .ok (.return_, 1) := by decide +kernel
theorem dX0_tallies_0 : decode cX0_tallies 0 = .ok (.aload_n 0, 1) := by decide +kernel
theorem dX0_tallies_1 : decode cX0_tallies 1 = .ok (.getfield 15, 3) := by decide +kernel
theorem dX0_tallies_4 : decode cX0_tallies 4 = .ok (.aload_n 0, 1) := by decide +kernel
theorem dX0_tallies_5 : decode cX0_tallies 5 = .ok (.getfield 9, 3) := by decide +kernel
theorem dX0_tallies_8 : decode cX0_tallies 8 = .ok (.multianewarray 18 2, 4) := by decide +kernel
theorem dX0_tallies_12 : decode cX0_tallies 12 = .ok (.astore_n 1, 1) := by decide +kernel
theorem dX0_tallies_13 : decode cX0_tallies 13 = .ok (.iconst 0, 1) := by decide +kernel
theorem dX0_tallies_14 : decode cX0_tallies 14 = .ok (.istore_n 2, 1) := by decide +kernel
theorem dX0_tallies_15 : decode cX0_tallies 15 = .ok (.iload_n 2, 1) := by decide +kernel
theorem dX0_tallies_16 : decode cX0_tallies 16 = .ok (.aload_n 0, 1) := by decide +kernel
theorem dX0_tallies_17 : decode cX0_tallies 17 = .ok (.getfield 15, 3) := by decide +kernel
theorem dX0_tallies_20 : decode cX0_tallies 20 = .ok (.if_icmp .ge 56, 3) := by decide +kernel
theorem dX0_tallies_23 : decode cX0_tallies 23 = .ok (.iconst 0, 1) := by decide +kernel
theorem dX0_tallies_24 : decode cX0_tallies 24 = .ok (.istore_n 3, 1) := by decide +kernel
theorem dX0_tallies_25 : decode cX0_tallies 25 = .ok (.iload_n 3, 1) := by decide +kernel
theorem dX0_tallies_26 : decode cX0_tallies 26 = .ok (.iconst 4, 1) := by decide +kernel
theorem dX0_tallies_27 : decode cX0_tallies 27 = .ok (.if_icmp .ge 43, 3) := by decide +kernel
theorem dX0_tallies_30 : decode cX0_tallies 30 = .ok (.aload_n 0, 1) := by decide +kernel
theorem dX0_tallies_31 : decode cX0_tallies 31 = .ok (.getfield 20, 3) := by decide +kernel
theorem dX0_tallies_34 : decode cX0_tallies 34 = .ok (.iload_n 2, 1) := by decide +kernel
theorem dX0_tallies_35 : decode cX0_tallies 35 = .ok (.aaload, 1) := by decide +kernel
theorem dX0_tallies_36 : decode cX0_tallies 36 = .ok (.iload_n 3, 1) := by decide +kernel
theorem dX0_tallies_37 : decode cX0_tallies 37 = .ok (.iaload, 1) := by decide +kernel
theorem dX0_tallies_38 : decode cX0_tallies 38 = .ok (.istore 4, 2) := by decide +kernel
theorem dX0_tallies_40 : decode cX0_tallies 40 = .ok (.iload 4, 2) := by decide +kernel
theorem dX0_tallies_42 : decode cX0_tallies 42 = .ok (.ifCond .lt 22, 3) := by decide +kernel
theorem dX0_tallies_45 : decode cX0_tallies 45 = .ok (.iload 4, 2) := by decide +kernel
theorem dX0_tallies_47 : decode cX0_tallies 47 = .ok (.aload_n 0, 1) := by decide +kernel
theorem dX0_tallies_48 : decode cX0_tallies 48 = .ok (.getfield 9, 3) := by decide +kernel
theorem dX0_tallies_51 : decode cX0_tallies 51 = .ok (.if_icmp .ge 13, 3) := by decide +kernel
theorem dX0_tallies_54 : decode cX0_tallies 54 = .ok (.aload_n 1, 1) := by decide +kernel
theorem dX0_tallies_55 : decode cX0_tallies 55 = .ok (.iload_n 2, 1) := by decide +kernel
theorem dX0_tallies_56 : decode cX0_tallies 56 = .ok (.aaload, 1) := by decide +kernel
theorem dX0_tallies_57 : decode cX0_tallies 57 = .ok (.iload 4, 2) := by decide +kernel
theorem dX0_tallies_59 : decode cX0_tallies 59 = .ok (.dup2, 1) := by decide +kernel
theorem dX0_tallies_60 : decode cX0_tallies 60 = .ok (.iaload, 1) := by decide +kernel
theorem dX0_tallies_61 : decode cX0_tallies 61 = .ok (.iconst 1, 1) := by decide +kernel
theorem dX0_tallies_62 : decode cX0_tallies 62 = .ok (.iadd, 1) := by decide +kernel
theorem dX0_tallies_63 : decode cX0_tallies 63 = .ok (.iastore, 1) := by decide +kernel
theorem dX0_tallies_64 : decode cX0_tallies 64 = .ok (.iinc 3 1, 3) := by decide +kernel
theorem dX0_tallies_67 : decode cX0_tallies 67 = .ok (.goto (-42), 3) := by decide +kernel
theorem dX0_tallies_70 : decode cX0_tallies 70 = .ok (.iinc 2 1, 3) := by decide +kernel
theorem dX0_tallies_73 : decode cX0_tallies 73 = .ok (.goto (-58), 3) := by decide +kernel
theorem dX0_tallies_76 : decode cX0_tallies 76 = .ok (.aload_n 1, 1) := by decide +kernel
theorem dX0_tallies_77 : decode cX0_tallies 77 = .ok (.areturn, 1) := by decide +kernel
theorem dX0_fillTable_0 : decode cX0_fillTable 0 = .ok (.iconst 0, 1) := by decide +kernel
theorem dX0_fillTable_1 : decode cX0_fillTable 1 = .ok (.istore_n 2, 1) := by decide +kernel
theorem dX0_fillTable_2 : decode cX0_fillTable 2 = .ok (.iload_n 2, 1) := by decide +kernel
theorem dX0_fillTable_3 : decode cX0_fillTable 3 = .ok (.aload_n 0, 1) := by decide +kernel
theorem dX0_fillTable_4 : decode cX0_fillTable 4 = .ok (.getfield 15, 3) := by decide +kernel
theorem dX0_fillTable_7 : decode cX0_fillTable 7 = .ok (.if_icmp .ge 82, 3) := by decide +kernel
theorem dX0_fillTable_10 : decode cX0_fillTable 10 = .ok (.iconst 0, 1) := by decide +kernel
theorem dX0_fillTable_11 : decode cX0_fillTable 11 = .ok (.istore_n 3, 1) := by decide +kernel
theorem dX0_fillTable_12 : decode cX0_fillTable 12 = .ok (.iload_n 3, 1) := by decide +kernel
theorem dX0_fillTable_13 : decode cX0_fillTable 13 = .ok (.iload_n 2, 1) := by decide +kernel
theorem dX0_fillTable_14 : decode cX0_fillTable 14 = .ok (.if_icmp .gt 69, 3) := by decide +kernel
theorem dX0_fillTable_17 : decode cX0_fillTable 17 = .ok (.aload_n 0, 1) := by decide +kernel
theorem dX0_fillTable_18 : decode cX0_fillTable 18 = .ok (.getfield 20, 3) := by decide +kernel
theorem dX0_fillTable_21 : decode cX0_fillTable 21 = .ok (.iload_n 2, 1) := by decide +kernel
theorem dX0_fillTable_22 : decode cX0_fillTable 22 = .ok (.aaload, 1) := by decide +kernel
theorem dX0_fillTable_23 : decode cX0_fillTable 23 = .ok (.aload_n 0, 1) := by decide +kernel
theorem dX0_fillTable_24 : decode cX0_fillTable 24 = .ok (.getfield 20, 3) := by decide +kernel
theorem dX0_fillTable_27 : decode cX0_fillTable 27 = .ok (.iload_n 3, 1) := by decide +kernel
theorem dX0_fillTable_28 : decode cX0_fillTable 28 = .ok (.aaload, 1) := by decide +kernel
theorem dX0_fillTable_29 : decode cX0_fillTable 29 = .ok (.invokestatic 37, 3) := by decide +kernel
theorem dX0_fillTable_32 : decode cX0_fillTable 32 = .ok (.istore 4, 2) := by decide +kernel
theorem dX0_fillTable_34 : decode cX0_fillTable 34 = .ok (.aload_n 1, 1) := by decide +kernel
theorem dX0_fillTable_35 : decode cX0_fillTable 35 = .ok (.iload_n 2, 1) := by decide +kernel
theorem dX0_fillTable_36 : decode cX0_fillTable 36 = .ok (.aaload, 1) := by decide +kernel
theorem dX0_fillTable_37 : decode cX0_fillTable 37 = .ok (.aload_n 1, 1) := by decide +kernel
theorem dX0_fillTable_38 : decode cX0_fillTable 38 = .ok (.iload_n 3, 1) := by decide +kernel
theorem dX0_fillTable_39 : decode cX0_fillTable 39 = .ok (.aaload, 1) := by decide +kernel
theorem dX0_fillTable_40 : decode cX0_fillTable 40 = .ok (.invokestatic 41, 3) := by decide +kernel
theorem dX0_fillTable_43 : decode cX0_fillTable 43 = .ok (.istore 5, 2) := by decide +kernel
theorem dX0_fillTable_45 : decode cX0_fillTable 45 = .ok (.iconst 5, 1) := by decide +kernel
theorem dX0_fillTable_46 : decode cX0_fillTable 46 = .ok (.iload 4, 2) := by decide +kernel
theorem dX0_fillTable_48 : decode cX0_fillTable 48 = .ok (.imul, 1) := by decide +kernel
theorem dX0_fillTable_49 : decode cX0_fillTable 49 = .ok (.iload 5, 2) := by decide +kernel
theorem dX0_fillTable_51 : decode cX0_fillTable 51 = .ok (.iadd, 1) := by decide +kernel
theorem dX0_fillTable_52 : decode cX0_fillTable 52 = .ok (.iload 4, 2) := by decide +kernel
theorem dX0_fillTable_54 : decode cX0_fillTable 54 = .ok (.isub, 1) := by decide +kernel
theorem dX0_fillTable_55 : decode cX0_fillTable 55 = .ok (.istore 6, 2) := by decide +kernel
theorem dX0_fillTable_57 : decode cX0_fillTable 57 = .ok (.aload_n 0, 1) := by decide +kernel
theorem dX0_fillTable_58 : decode cX0_fillTable 58 = .ok (.getfield 23, 3) := by decide +kernel
theorem dX0_fillTable_61 : decode cX0_fillTable 61 = .ok (.iload_n 2, 1) := by decide +kernel
theorem dX0_fillTable_62 : decode cX0_fillTable 62 = .ok (.aaload, 1) := by decide +kernel
theorem dX0_fillTable_63 : decode cX0_fillTable 63 = .ok (.iload_n 3, 1) := by decide +kernel
theorem dX0_fillTable_64 : decode cX0_fillTable 64 = .ok (.iload 6, 2) := by decide +kernel
theorem dX0_fillTable_66 : decode cX0_fillTable 66 = .ok (.iastore, 1) := by decide +kernel
theorem dX0_fillTable_67 : decode cX0_fillTable 67 = .ok (.aload_n 0, 1) := by decide +kernel
theorem dX0_fillTable_68 : decode cX0_fillTable 68 = .ok (.getfield 23, 3) := by decide +kernel
theorem dX0_fillTable_71 : decode cX0_fillTable 71 = .ok (.iload_n 3, 1) := by decide +kernel
theorem dX0_fillTable_72 : decode cX0_fillTable 72 = .ok (.aaload, 1) := by decide +kernel
theorem dX0_fillTable_73 : decode cX0_fillTable 73 = .ok (.iload_n 2, 1) := by decide +kernel
theorem dX0_fillTable_74 : decode cX0_fillTable 74 = .ok (.iload 6, 2) := by decide +kernel
theorem dX0_fillTable_76 : decode cX0_fillTable 76 = .ok (.iastore, 1) := by decide +kernel
theorem dX0_fillTable_77 : decode cX0_fillTable 77 = .ok (.iinc 3 1, 3) := by decide +kernel
theorem dX0_fillTable_80 : decode cX0_fillTable 80 = .ok (.goto (-68), 3) := by decide +kernel
theorem dX0_fillTable_83 : decode cX0_fillTable 83 = .ok (.iinc 2 1, 3) := by decide +kernel
theorem dX0_fillTable_86 : decode cX0_fillTable 86 = .ok (.goto (-84), 3) := by decide +kernel
theorem dX0_fillTable_89 : decode cX0_fillTable 89 = .ok (.return_, 1) := by decide +kernel
theorem dX0_countSame_0 : decode cX0_countSame 0 = .ok (.iconst 0, 1) := by decide +kernel
theorem dX0_countSame_1 : decode cX0_countSame 1 = .ok (.istore_n 2, 1) := by decide +kernel
theorem dX0_countSame_2 : decode cX0_countSame 2 = .ok (.iconst 0, 1) := by decide +kernel
theorem dX0_countSame_3 : decode cX0_countSame 3 = .ok (.istore_n 3, 1) := by decide +kernel
theorem dX0_countSame_4 : decode cX0_countSame 4 = .ok (.iload_n 3, 1) := by decide +kernel
theorem dX0_countSame_5 : decode cX0_countSame 5 = .ok (.aload_n 0, 1) := by decide +kernel
theorem dX0_countSame_6 : decode cX0_countSame 6 = .ok (.arraylength, 1) := by decide +kernel
theorem dX0_countSame_7 : decode cX0_countSame 7 = .ok (.if_icmp .ge 27, 3) := by decide +kernel
theorem dX0_countSame_10 : decode cX0_countSame 10 = .ok (.iload_n 3, 1) := by decide +kernel
theorem dX0_countSame_11 : decode cX0_countSame 11 = .ok (.aload_n 1, 1) := by decide +kernel
theorem dX0_countSame_12 : decode cX0_countSame 12 = .ok (.arraylength, 1) := by decide +kernel
theorem dX0_countSame_13 : decode cX0_countSame 13 = .ok (.if_icmp .ge 21, 3) := by decide +kernel
theorem dX0_countSame_16 : decode cX0_countSame 16 = .ok (.aload_n 0, 1) := by decide +kernel
theorem dX0_countSame_17 : decode cX0_countSame 17 = .ok (.iload_n 3, 1) := by decide +kernel
theorem dX0_countSame_18 : decode cX0_countSame 18 = .ok (.iaload, 1) := by decide +kernel
theorem dX0_countSame_19 : decode cX0_countSame 19 = .ok (.aload_n 1, 1) := by decide +kernel
theorem dX0_countSame_20 : decode cX0_countSame 20 = .ok (.iload_n 3, 1) := by decide +kernel
theorem dX0_countSame_21 : decode cX0_countSame 21 = .ok (.iaload, 1) := by decide +kernel
theorem dX0_countSame_22 : decode cX0_countSame 22 = .ok (.if_icmp .ne 6, 3) := by decide +kernel
theorem dX0_countSame_25 : decode cX0_countSame 25 = .ok (.iinc 2 1, 3) := by decide +kernel
theorem dX0_countSame_28 : decode cX0_countSame 28 = .ok (.iinc 3 1, 3) := by decide +kernel
theorem dX0_countSame_31 : decode cX0_countSame 31 = .ok (.goto (-27), 3) := by decide +kernel
theorem dX0_countSame_34 : decode cX0_countSame 34 = .ok (.iload_n 2, 1) := by decide +kernel
theorem dX0_countSame_35 : decode cX0_countSame 35 = .ok (.ireturn, 1) := by decide +kernel
theorem dX0_countShared_0 : decode cX0_countShared 0 = .ok (.iconst 0, 1) := by decide +kernel
theorem dX0_countShared_1 : decode cX0_countShared 1 = .ok (.istore_n 2, 1) := by decide +kernel
theorem dX0_countShared_2 : decode cX0_countShared 2 = .ok (.iconst 0, 1) := by decide +kernel
theorem dX0_countShared_3 : decode cX0_countShared 3 = .ok (.istore_n 3, 1) := by decide +kernel
theorem dX0_countShared_4 : decode cX0_countShared 4 = .ok (.iload_n 3, 1) := by decide +kernel
theorem dX0_countShared_5 : decode cX0_countShared 5 = .ok (.aload_n 0, 1) := by decide +kernel
theorem dX0_countShared_6 : decode cX0_countShared 6 = .ok (.arraylength, 1) := by decide +kernel
theorem dX0_countShared_7 : decode cX0_countShared 7 = .ok (.if_icmp .ge 27, 3) := by decide +kernel
theorem dX0_countShared_10 : decode cX0_countShared 10 = .ok (.iload_n 3, 1) := by decide +kernel
theorem dX0_countShared_11 : decode cX0_countShared 11 = .ok (.aload_n 1, 1) := by decide +kernel
theorem dX0_countShared_12 : decode cX0_countShared 12 = .ok (.arraylength, 1) := by decide +kernel
theorem dX0_countShared_13 : decode cX0_countShared 13 = .ok (.if_icmp .ge 21, 3) := by decide +kernel
theorem dX0_countShared_16 : decode cX0_countShared 16 = .ok (.iload_n 2, 1) := by decide +kernel
theorem dX0_countShared_17 : decode cX0_countShared 17 = .ok (.aload_n 0, 1) := by decide +kernel
theorem dX0_countShared_18 : decode cX0_countShared 18 = .ok (.iload_n 3, 1) := by decide +kernel
theorem dX0_countShared_19 : decode cX0_countShared 19 = .ok (.iaload, 1) := by decide +kernel
theorem dX0_countShared_20 : decode cX0_countShared 20 = .ok (.aload_n 1, 1) := by decide +kernel
theorem dX0_countShared_21 : decode cX0_countShared 21 = .ok (.iload_n 3, 1) := by decide +kernel
theorem dX0_countShared_22 : decode cX0_countShared 22 = .ok (.iaload, 1) := by decide +kernel
theorem dX0_countShared_23 : decode cX0_countShared 23 = .ok (.invokestatic 44, 3) := by decide +kernel
theorem dX0_countShared_26 : decode cX0_countShared 26 = .ok (.iadd, 1) := by decide +kernel
theorem dX0_countShared_27 : decode cX0_countShared 27 = .ok (.istore_n 2, 1) := by decide +kernel
theorem dX0_countShared_28 : decode cX0_countShared 28 = .ok (.iinc 3 1, 3) := by decide +kernel
theorem dX0_countShared_31 : decode cX0_countShared 31 = .ok (.goto (-27), 3) := by decide +kernel
theorem dX0_countShared_34 : decode cX0_countShared 34 = .ok (.iload_n 2, 1) := by decide +kernel
theorem dX0_countShared_35 : decode cX0_countShared 35 = .ok (.ireturn, 1) := by decide +kernel
theorem dX0_hasCode_0 : decode cX0_hasCode 0 = .ok (.iload_n 1, 1) := by decide +kernel
theorem dX0_hasCode_1 : decode cX0_hasCode 1 = .ok (.ifCond .lt 15, 3) := by decide +kernel
theorem dX0_hasCode_4 : decode cX0_hasCode 4 = .ok (.iload_n 1, 1) := by decide +kernel
theorem dX0_hasCode_5 : decode cX0_hasCode 5 = .ok (.aload_n 0, 1) := by decide +kernel
theorem dX0_hasCode_6 : decode cX0_hasCode 6 = .ok (.getfield 15, 3) := by decide +kernel
theorem dX0_hasCode_9 : decode cX0_hasCode 9 = .ok (.if_icmp .ge 7, 3) := by decide +kernel
theorem dX0_hasCode_12 : decode cX0_hasCode 12 = .ok (.iconst 1, 1) := by decide +kernel
theorem dX0_hasCode_13 : decode cX0_hasCode 13 = .ok (.goto 4, 3) := by decide +kernel
theorem dX0_hasCode_16 : decode cX0_hasCode 16 = .ok (.iconst 0, 1) := by decide +kernel
theorem dX0_hasCode_17 : decode cX0_hasCode 17 = .ok (.ireturn, 1) := by decide +kernel
theorem dX0_colourOf_0 : decode cX0_colourOf 0 = .ok (.aload_n 0, 1) := by decide +kernel
theorem dX0_colourOf_1 : decode cX0_colourOf 1 = .ok (.iload_n 1, 1) := by decide +kernel
theorem dX0_colourOf_2 : decode cX0_colourOf 2 = .ok (.invokevirtual 50, 3) := by decide +kernel
theorem dX0_colourOf_5 : decode cX0_colourOf 5 = .ok (.ifCond .eq 23, 3) := by decide +kernel
theorem dX0_colourOf_8 : decode cX0_colourOf 8 = .ok (.iload_n 2, 1) := by decide +kernel
theorem dX0_colourOf_9 : decode cX0_colourOf 9 = .ok (.ifCond .lt 19, 3) := by decide +kernel
theorem dX0_colourOf_12 : decode cX0_colourOf 12 = .ok (.iload_n 2, 1) := by decide +kernel
theorem dX0_colourOf_13 : decode cX0_colourOf 13 = .ok (.iconst 4, 1) := by decide +kernel
theorem dX0_colourOf_14 : decode cX0_colourOf 14 = .ok (.if_icmp .ge 14, 3) := by decide +kernel
theorem dX0_colourOf_17 : decode cX0_colourOf 17 = .ok (.aload_n 0, 1) := by decide +kernel
theorem dX0_colourOf_18 : decode cX0_colourOf 18 = .ok (.getfield 20, 3) := by decide +kernel
theorem dX0_colourOf_21 : decode cX0_colourOf 21 = .ok (.iload_n 1, 1) := by decide +kernel
theorem dX0_colourOf_22 : decode cX0_colourOf 22 = .ok (.aaload, 1) := by decide +kernel
theorem dX0_colourOf_23 : decode cX0_colourOf 23 = .ok (.iload_n 2, 1) := by decide +kernel
theorem dX0_colourOf_24 : decode cX0_colourOf 24 = .ok (.iaload, 1) := by decide +kernel
theorem dX0_colourOf_25 : decode cX0_colourOf 25 = .ok (.goto 4, 3) := by decide +kernel
theorem dX0_colourOf_28 : decode cX0_colourOf 28 = .ok (.iconst (-1), 1) := by decide +kernel
theorem dX0_colourOf_29 : decode cX0_colourOf 29 = .ok (.ireturn, 1) := by decide +kernel
theorem dX0_answerTo_0 : decode cX0_answerTo 0 = .ok (.aload_n 0, 1) := by decide +kernel
theorem dX0_answerTo_1 : decode cX0_answerTo 1 = .ok (.iload_n 1, 1) := by decide +kernel
theorem dX0_answerTo_2 : decode cX0_answerTo 2 = .ok (.invokevirtual 50, 3) := by decide +kernel
theorem dX0_answerTo_5 : decode cX0_answerTo 5 = .ok (.ifCond .eq 22, 3) := by decide +kernel
theorem dX0_answerTo_8 : decode cX0_answerTo 8 = .ok (.aload_n 0, 1) := by decide +kernel
theorem dX0_answerTo_9 : decode cX0_answerTo 9 = .ok (.iload_n 2, 1) := by decide +kernel
theorem dX0_answerTo_10 : decode cX0_answerTo 10 = .ok (.invokevirtual 50, 3) := by decide +kernel
theorem dX0_answerTo_13 : decode cX0_answerTo 13 = .ok (.ifCond .eq 14, 3) := by decide +kernel
theorem dX0_answerTo_16 : decode cX0_answerTo 16 = .ok (.aload_n 0, 1) := by decide +kernel
theorem dX0_answerTo_17 : decode cX0_answerTo 17 = .ok (.getfield 23, 3) := by decide +kernel
theorem dX0_answerTo_20 : decode cX0_answerTo 20 = .ok (.iload_n 1, 1) := by decide +kernel
theorem dX0_answerTo_21 : decode cX0_answerTo 21 = .ok (.aaload, 1) := by decide +kernel
theorem dX0_answerTo_22 : decode cX0_answerTo 22 = .ok (.iload_n 2, 1) := by decide +kernel
theorem dX0_answerTo_23 : decode cX0_answerTo 23 = .ok (.iaload, 1) := by decide +kernel
theorem dX0_answerTo_24 : decode cX0_answerTo 24 = .ok (.goto 4, 3) := by decide +kernel
theorem dX0_answerTo_27 : decode cX0_answerTo 27 = .ok (.iconst (-1), 1) := by decide +kernel
theorem dX0_answerTo_28 : decode cX0_answerTo 28 = .ok (.ireturn, 1) := by decide +kernel
theorem dJ9_max_7cf53_0 : decode cJ9_max_7cf53 0 = .ok (.iload_n 0, 1) := by decide +kernel
theorem dJ9_max_7cf53_1 : decode cJ9_max_7cf53 1 = .ok (.iload_n 1, 1) := by decide +kernel
theorem dJ9_max_7cf53_2 : decode cJ9_max_7cf53 2 = .ok (.if_icmp .lt 7, 3) := by decide +kernel
theorem dJ9_max_7cf53_5 : decode cJ9_max_7cf53 5 = .ok (.iload_n 0, 1) := by decide +kernel
theorem dJ9_max_7cf53_6 : decode cJ9_max_7cf53 6 = .ok (.goto 4, 3) := by decide +kernel
theorem dJ9_max_7cf53_9 : decode cJ9_max_7cf53 9 = .ok (.iload_n 1, 1) := by decide +kernel
theorem dJ9_max_7cf53_10 : decode cJ9_max_7cf53 10 = .ok (.ireturn, 1) := by decide +kernel
theorem dJ9_min_7cf53_0 : decode cJ9_min_7cf53 0 = .ok (.iload_n 0, 1) := by decide +kernel
theorem dJ9_min_7cf53_1 : decode cJ9_min_7cf53 1 = .ok (.iload_n 1, 1) := by decide +kernel
theorem dJ9_min_7cf53_2 : decode cJ9_min_7cf53 2 = .ok (.if_icmp .gt 7, 3) := by decide +kernel
theorem dJ9_min_7cf53_5 : decode cJ9_min_7cf53 5 = .ok (.iload_n 0, 1) := by decide +kernel
theorem dJ9_min_7cf53_6 : decode cJ9_min_7cf53 6 = .ok (.goto 4, 3) := by decide +kernel
theorem dJ9_min_7cf53_9 : decode cJ9_min_7cf53 9 = .ok (.iload_n 1, 1) := by decide +kernel
theorem dJ9_min_7cf53_10 : decode cJ9_min_7cf53 10 = .ok (.ireturn, 1) := by decide +kernel
theorem dJ7_fill_53178_0 : decode cJ7_fill_53178 0 = .ok (.iconst 0, 1) := by decide +kernel
theorem dJ7_fill_53178_1 : decode cJ7_fill_53178 1 = .ok (.istore_n 2, 1) := by decide +kernel
theorem dJ7_fill_53178_2 : decode cJ7_fill_53178 2 = .ok (.aload_n 0, 1) := by decide +kernel
theorem dJ7_fill_53178_3 : decode cJ7_fill_53178 3 = .ok (.arraylength, 1) := by decide +kernel
theorem dJ7_fill_53178_4 : decode cJ7_fill_53178 4 = .ok (.istore_n 3, 1) := by decide +kernel
theorem dJ7_fill_53178_5 : decode cJ7_fill_53178 5 = .ok (.iload_n 2, 1) := by decide +kernel
theorem dJ7_fill_53178_6 : decode cJ7_fill_53178 6 = .ok (.iload_n 3, 1) := by decide +kernel
theorem dJ7_fill_53178_7 : decode cJ7_fill_53178 7 = .ok (.if_icmp .ge 13, 3) := by decide +kernel
theorem dJ7_fill_53178_10 : decode cJ7_fill_53178 10 = .ok (.aload_n 0, 1) := by decide +kernel
theorem dJ7_fill_53178_11 : decode cJ7_fill_53178 11 = .ok (.iload_n 2, 1) := by decide +kernel
theorem dJ7_fill_53178_12 : decode cJ7_fill_53178 12 = .ok (.iload_n 1, 1) := by decide +kernel
theorem dJ7_fill_53178_13 : decode cJ7_fill_53178 13 = .ok (.iastore, 1) := by decide +kernel
theorem dJ7_fill_53178_14 : decode cJ7_fill_53178 14 = .ok (.iinc 2 1, 3) := by decide +kernel
theorem dJ7_fill_53178_17 : decode cJ7_fill_53178 17 = .ok (.goto (-12), 3) := by decide +kernel
theorem dJ7_fill_53178_20 : decode cJ7_fill_53178 20 = .ok (.return_, 1) := by decide +kernel
