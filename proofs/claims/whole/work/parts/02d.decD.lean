theorem dX8_count_75 : decode cX8_count 75 = .ok (.ireturn, 1) := by decide +kernel
theorem dX8_count_76 : decode cX8_count 76 = .ok (.aload_n 0, 1) := by decide +kernel
theorem dX8_count_77 : decode cX8_count 77 = .ok (.getfield 26, 3) := by decide +kernel
theorem dX8_count_80 : decode cX8_count 80 = .ok (.getfield 91, 3) := by decide +kernel
theorem dX8_count_83 : decode cX8_count 83 = .ok (.ireturn, 1) := by decide +kernel
theorem dX8_count_84 : decode cX8_count 84 = .ok (.aload_n 0, 1) := by decide +kernel
theorem dX8_count_85 : decode cX8_count 85 = .ok (.getfield 26, 3) := by decide +kernel
theorem dX8_count_88 : decode cX8_count 88 = .ok (.getfield 91, 3) := by decide +kernel
theorem dX8_count_91 : decode cX8_count 91 = .ok (.aload_n 0, 1) := by decide +kernel
theorem dX8_count_92 : decode cX8_count 92 = .ok (.getfield 26, 3) := by decide +kernel
theorem dX8_count_95 : decode cX8_count 95 = .ok (.invokevirtual 249, 3) := by decide +kernel
theorem dX8_count_98 : decode cX8_count 98 = .ok (.isub, 1) := by decide +kernel
theorem dX8_count_99 : decode cX8_count 99 = .ok (.ireturn, 1) := by decide +kernel
theorem dX8_count_100 : decode cX8_count 100 = .ok (.aload_n 0, 1) := by decide +kernel
theorem dX8_count_101 : decode cX8_count 101 = .ok (.invokevirtual 252, 3) := by decide +kernel
theorem dX8_count_104 : decode cX8_count 104 = .ok (.ireturn, 1) := by decide +kernel
theorem dX8_count_105 : decode cX8_count 105 = .ok (.iconst (-1), 1) := by decide +kernel
theorem dX8_count_106 : decode cX8_count 106 = .ok (.ireturn, 1) := by decide +kernel
theorem dX8_isPlace_0 : decode cX8_isPlace 0 = .ok (.iload_n 1, 1) := by decide +kernel
theorem dX8_isPlace_1 : decode cX8_isPlace 1 = .ok (.ifCond .eq 14, 3) := by decide +kernel
theorem dX8_isPlace_4 : decode cX8_isPlace 4 = .ok (.aload_n 0, 1) := by decide +kernel
theorem dX8_isPlace_5 : decode cX8_isPlace 5 = .ok (.getfield 26, 3) := by decide +kernel
theorem dX8_isPlace_8 : decode cX8_isPlace 8 = .ok (.iload_n 1, 1) := by decide +kernel
theorem dX8_isPlace_9 : decode cX8_isPlace 9 = .ok (.invokevirtual 134, 3) := by decide +kernel
theorem dX8_isPlace_12 : decode cX8_isPlace 12 = .ok (.ifCond .eq 7, 3) := by decide +kernel
theorem dX8_isPlace_15 : decode cX8_isPlace 15 = .ok (.iconst 1, 1) := by decide +kernel
theorem dX8_isPlace_16 : decode cX8_isPlace 16 = .ok (.goto 4, 3) := by decide +kernel
theorem dX8_isPlace_19 : decode cX8_isPlace 19 = .ok (.iconst 0, 1) := by decide +kernel
theorem dX8_isPlace_20 : decode cX8_isPlace 20 = .ok (.ireturn, 1) := by decide +kernel
theorem dX8_areTwoFarms_0 : decode cX8_areTwoFarms 0 = .ok (.aload_n 0, 1) := by decide +kernel
theorem dX8_areTwoFarms_1 : decode cX8_areTwoFarms 1 = .ok (.getfield 26, 3) := by decide +kernel
theorem dX8_areTwoFarms_4 : decode cX8_areTwoFarms 4 = .ok (.iload_n 1, 1) := by decide +kernel
theorem dX8_areTwoFarms_5 : decode cX8_areTwoFarms 5 = .ok (.invokevirtual 134, 3) := by decide +kernel
theorem dX8_areTwoFarms_8 : decode cX8_areTwoFarms 8 = .ok (.ifCond .eq 23, 3) := by decide +kernel
theorem dX8_areTwoFarms_11 : decode cX8_areTwoFarms 11 = .ok (.aload_n 0, 1) := by decide +kernel
theorem dX8_areTwoFarms_12 : decode cX8_areTwoFarms 12 = .ok (.getfield 26, 3) := by decide +kernel
theorem dX8_areTwoFarms_15 : decode cX8_areTwoFarms 15 = .ok (.iload_n 2, 1) := by decide +kernel
theorem dX8_areTwoFarms_16 : decode cX8_areTwoFarms 16 = .ok (.invokevirtual 134, 3) := by decide +kernel
theorem dX8_areTwoFarms_19 : decode cX8_areTwoFarms 19 = .ok (.ifCond .eq 12, 3) := by decide +kernel
theorem dX8_areTwoFarms_22 : decode cX8_areTwoFarms 22 = .ok (.iload_n 1, 1) := by decide +kernel
theorem dX8_areTwoFarms_23 : decode cX8_areTwoFarms 23 = .ok (.iload_n 2, 1) := by decide +kernel
theorem dX8_areTwoFarms_24 : decode cX8_areTwoFarms 24 = .ok (.if_icmp .eq 7, 3) := by decide +kernel
theorem dX8_areTwoFarms_27 : decode cX8_areTwoFarms 27 = .ok (.iconst 1, 1) := by decide +kernel
theorem dX8_areTwoFarms_28 : decode cX8_areTwoFarms 28 = .ok (.goto 4, 3) := by decide +kernel
theorem dX8_areTwoFarms_31 : decode cX8_areTwoFarms 31 = .ok (.iconst 0, 1) := by decide +kernel
theorem dX8_areTwoFarms_32 : decode cX8_areTwoFarms 32 = .ok (.ireturn, 1) := by decide +kernel
theorem dX8_prepareSearch_0 : decode cX8_prepareSearch 0 = .ok (.aload_n 0, 1) := by decide +kernel
theorem dX8_prepareSearch_1 : decode cX8_prepareSearch 1 = .ok (.getfield 47, 3) := by decide +kernel
theorem dX8_prepareSearch_4 : decode cX8_prepareSearch 4 = .ok (.aload_n 0, 1) := by decide +kernel
theorem dX8_prepareSearch_5 : decode cX8_prepareSearch 5 = .ok (.getfield 19, 3) := by decide +kernel
theorem dX8_prepareSearch_8 : decode cX8_prepareSearch 8 = .ok (.iconst 3, 1) := by decide +kernel
theorem dX8_prepareSearch_9 : decode cX8_prepareSearch 9 = .ok (.invokevirtual 255, 3) := by decide +kernel
theorem dX8_prepareSearch_12 : decode cX8_prepareSearch 12 = .ok (.invokevirtual 258, 3) := by decide +kernel
theorem dX8_prepareSearch_15 : decode cX8_prepareSearch 15 = .ok (.iconst 1, 1) := by decide +kernel
theorem dX8_prepareSearch_16 : decode cX8_prepareSearch 16 = .ok (.istore_n 1, 1) := by decide +kernel
theorem dX8_prepareSearch_17 : decode cX8_prepareSearch 17 = .ok (.iload_n 1, 1) := by decide +kernel
theorem dX8_prepareSearch_18 : decode cX8_prepareSearch 18 = .ok (.aload_n 0, 1) := by decide +kernel
theorem dX8_prepareSearch_19 : decode cX8_prepareSearch 19 = .ok (.getfield 26, 3) := by decide +kernel
theorem dX8_prepareSearch_22 : decode cX8_prepareSearch 22 = .ok (.getfield 91, 3) := by decide +kernel
theorem dX8_prepareSearch_25 : decode cX8_prepareSearch 25 = .ok (.if_icmp .gt 71, 3) := by decide +kernel
theorem dX8_prepareSearch_28 : decode cX8_prepareSearch 28 = .ok (.aload_n 0, 1) := by decide +kernel
theorem dX8_prepareSearch_29 : decode cX8_prepareSearch 29 = .ok (.getfield 26, 3) := by decide +kernel
theorem dX8_prepareSearch_32 : decode cX8_prepareSearch 32 = .ok (.iload_n 1, 1) := by decide +kernel
theorem dX8_prepareSearch_33 : decode cX8_prepareSearch 33 = .ok (.invokevirtual 261, 3) := by decide +kernel
theorem dX8_prepareSearch_36 : decode cX8_prepareSearch 36 = .ok (.ifCond .eq 54, 3) := by decide +kernel
theorem dX8_prepareSearch_39 : decode cX8_prepareSearch 39 = .ok (.aload_n 0, 1) := by decide +kernel
theorem dX8_prepareSearch_40 : decode cX8_prepareSearch 40 = .ok (.getfield 26, 3) := by decide +kernel
theorem dX8_prepareSearch_43 : decode cX8_prepareSearch 43 = .ok (.getfield 106, 3) := by decide +kernel
theorem dX8_prepareSearch_46 : decode cX8_prepareSearch 46 = .ok (.iload_n 1, 1) := by decide +kernel
theorem dX8_prepareSearch_47 : decode cX8_prepareSearch 47 = .ok (.invokestatic 174, 3) := by decide +kernel
theorem dX8_prepareSearch_50 : decode cX8_prepareSearch 50 = .ok (.aload_n 0, 1) := by decide +kernel
theorem dX8_prepareSearch_51 : decode cX8_prepareSearch 51 = .ok (.iload_n 1, 1) := by decide +kernel
theorem dX8_prepareSearch_52 : decode cX8_prepareSearch 52 = .ok (.invokevirtual 227, 3) := by decide +kernel
theorem dX8_prepareSearch_55 : decode cX8_prepareSearch 55 = .ok (.invokestatic 264, 3) := by decide +kernel
theorem dX8_prepareSearch_58 : decode cX8_prepareSearch 58 = .ok (.istore_n 2, 1) := by decide +kernel
theorem dX8_prepareSearch_59 : decode cX8_prepareSearch 59 = .ok (.aload_n 0, 1) := by decide +kernel
theorem dX8_prepareSearch_60 : decode cX8_prepareSearch 60 = .ok (.getfield 47, 3) := by decide +kernel
theorem dX8_prepareSearch_63 : decode cX8_prepareSearch 63 = .ok (.iload_n 1, 1) := by decide +kernel
theorem dX8_prepareSearch_64 : decode cX8_prepareSearch 64 = .ok (.aload_n 0, 1) := by decide +kernel
theorem dX8_prepareSearch_65 : decode cX8_prepareSearch 65 = .ok (.getfield 26, 3) := by decide +kernel
theorem dX8_prepareSearch_68 : decode cX8_prepareSearch 68 = .ok (.getfield 118, 3) := by decide +kernel
theorem dX8_prepareSearch_71 : decode cX8_prepareSearch 71 = .ok (.iload_n 1, 1) := by decide +kernel
theorem dX8_prepareSearch_72 : decode cX8_prepareSearch 72 = .ok (.invokestatic 174, 3) := by decide +kernel
theorem dX8_prepareSearch_75 : decode cX8_prepareSearch 75 = .ok (.aload_n 0, 1) := by decide +kernel
theorem dX8_prepareSearch_76 : decode cX8_prepareSearch 76 = .ok (.getfield 26, 3) := by decide +kernel
theorem dX8_prepareSearch_79 : decode cX8_prepareSearch 79 = .ok (.getfield 121, 3) := by decide +kernel
theorem dX8_prepareSearch_82 : decode cX8_prepareSearch 82 = .ok (.iload_n 1, 1) := by decide +kernel
theorem dX8_prepareSearch_83 : decode cX8_prepareSearch 83 = .ok (.invokestatic 174, 3) := by decide +kernel
theorem dX8_prepareSearch_86 : decode cX8_prepareSearch 86 = .ok (.iload_n 2, 1) := by decide +kernel
theorem dX8_prepareSearch_87 : decode cX8_prepareSearch 87 = .ok (.invokevirtual 267, 3) := by decide +kernel
theorem dX8_prepareSearch_90 : decode cX8_prepareSearch 90 = .ok (.iinc 1 1, 3) := by decide +kernel
theorem dX8_prepareSearch_93 : decode cX8_prepareSearch 93 = .ok (.goto (-76), 3) := by decide +kernel
theorem dX8_prepareSearch_96 : decode cX8_prepareSearch 96 = .ok (.aload_n 0, 1) := by decide +kernel
theorem dX8_prepareSearch_97 : decode cX8_prepareSearch 97 = .ok (.getfield 47, 3) := by decide +kernel
theorem dX8_prepareSearch_100 : decode cX8_prepareSearch 100 = .ok (.aload_n 0, 1) := by decide +kernel
theorem dX8_prepareSearch_101 : decode cX8_prepareSearch 101 = .ok (.getfield 61, 3) := by decide +kernel
theorem dX8_prepareSearch_104 : decode cX8_prepareSearch 104 = .ok (.getfield 149, 3) := by decide +kernel
theorem dX8_prepareSearch_107 : decode cX8_prepareSearch 107 = .ok (.invokevirtual 270, 3) := by decide +kernel
theorem dX8_prepareSearch_110 : decode cX8_prepareSearch 110 = .ok (.aload_n 0, 1) := by decide +kernel
theorem dX8_prepareSearch_111 : decode cX8_prepareSearch 111 = .ok (.getfield 47, 3) := by decide +kernel
theorem dX8_prepareSearch_114 : decode cX8_prepareSearch 114 = .ok (.aload_n 0, 1) := by decide +kernel
theorem dX8_prepareSearch_115 : decode cX8_prepareSearch 115 = .ok (.getfield 19, 3) := by decide +kernel
theorem dX8_prepareSearch_118 : decode cX8_prepareSearch 118 = .ok (.iconst 4, 1) := by decide +kernel
theorem dX8_prepareSearch_119 : decode cX8_prepareSearch 119 = .ok (.invokevirtual 255, 3) := by decide +kernel
theorem dX8_prepareSearch_122 : decode cX8_prepareSearch 122 = .ok (.invokevirtual 270, 3) := by decide +kernel
theorem dX8_prepareSearch_125 : decode cX8_prepareSearch 125 = .ok (.return_, 1) := by decide +kernel
theorem dX8_gangOf_0 : decode cX8_gangOf 0 = .ok (.aload_n 0, 1) := by decide +kernel
theorem dX8_gangOf_1 : decode cX8_gangOf 1 = .ok (.getfield 40, 3) := by decide +kernel
theorem dX8_gangOf_4 : decode cX8_gangOf 4 = .ok (.aload_n 0, 1) := by decide +kernel
theorem dX8_gangOf_5 : decode cX8_gangOf 5 = .ok (.getfield 26, 3) := by decide +kernel
theorem dX8_gangOf_8 : decode cX8_gangOf 8 = .ok (.iload_n 1, 1) := by decide +kernel
theorem dX8_gangOf_9 : decode cX8_gangOf 9 = .ok (.aload_n 0, 1) := by decide +kernel
theorem dX8_gangOf_10 : decode cX8_gangOf 10 = .ok (.getfield 19, 3) := by decide +kernel
theorem dX8_gangOf_13 : decode cX8_gangOf 13 = .ok (.iconst 0, 1) := by decide +kernel
theorem dX8_gangOf_14 : decode cX8_gangOf 14 = .ok (.invokevirtual 255, 3) := by decide +kernel
theorem dX8_gangOf_17 : decode cX8_gangOf 17 = .ok (.invokevirtual 273, 3) := by decide +kernel
theorem dX8_gangOf_20 : decode cX8_gangOf 20 = .ok (.ireturn, 1) := by decide +kernel
theorem dX8_speedOf_0 : decode cX8_speedOf 0 = .ok (.aload_n 0, 1) := by decide +kernel
theorem dX8_speedOf_1 : decode cX8_speedOf 1 = .ok (.getfield 19, 3) := by decide +kernel
theorem dX8_speedOf_4 : decode cX8_speedOf 4 = .ok (.iconst 0, 1) := by decide +kernel
theorem dX8_speedOf_5 : decode cX8_speedOf 5 = .ok (.invokevirtual 255, 3) := by decide +kernel
theorem dX8_speedOf_8 : decode cX8_speedOf 8 = .ok (.istore_n 2, 1) := by decide +kernel
theorem dX8_speedOf_9 : decode cX8_speedOf 9 = .ok (.aload_n 0, 1) := by decide +kernel
theorem dX8_speedOf_10 : decode cX8_speedOf 10 = .ok (.getfield 40, 3) := by decide +kernel
theorem dX8_speedOf_13 : decode cX8_speedOf 13 = .ok (.aload_n 0, 1) := by decide +kernel
theorem dX8_speedOf_14 : decode cX8_speedOf 14 = .ok (.getfield 26, 3) := by decide +kernel
theorem dX8_speedOf_17 : decode cX8_speedOf 17 = .ok (.iload_n 1, 1) := by decide +kernel
theorem dX8_speedOf_18 : decode cX8_speedOf 18 = .ok (.iload_n 2, 1) := by decide +kernel
theorem dX8_speedOf_19 : decode cX8_speedOf 19 = .ok (.invokevirtual 273, 3) := by decide +kernel
theorem dX8_speedOf_22 : decode cX8_speedOf 22 = .ok (.istore_n 3, 1) := by decide +kernel
theorem dX8_speedOf_23 : decode cX8_speedOf 23 = .ok (.aload_n 0, 1) := by decide +kernel
theorem dX8_speedOf_24 : decode cX8_speedOf 24 = .ok (.getfield 19, 3) := by decide +kernel
theorem dX8_speedOf_27 : decode cX8_speedOf 27 = .ok (.iconst 1, 1) := by decide +kernel
theorem dX8_speedOf_28 : decode cX8_speedOf 28 = .ok (.invokevirtual 255, 3) := by decide +kernel
theorem dX8_speedOf_31 : decode cX8_speedOf 31 = .ok (.iload_n 3, 1) := by decide +kernel
theorem dX8_speedOf_32 : decode cX8_speedOf 32 = .ok (.imul, 1) := by decide +kernel
theorem dX8_speedOf_33 : decode cX8_speedOf 33 = .ok (.iload_n 2, 1) := by decide +kernel
theorem dX8_speedOf_34 : decode cX8_speedOf 34 = .ok (.invokestatic 277, 3) := by decide +kernel
theorem dX8_speedOf_37 : decode cX8_speedOf 37 = .ok (.iconst 1, 1) := by decide +kernel
theorem dX8_speedOf_38 : decode cX8_speedOf 38 = .ok (.invokestatic 280, 3) := by decide +kernel
theorem dX8_speedOf_41 : decode cX8_speedOf 41 = .ok (.ireturn, 1) := by decide +kernel
theorem dX8_sacksOf_0 : decode cX8_sacksOf 0 = .ok (.aload_n 0, 1) := by decide +kernel
theorem dX8_sacksOf_1 : decode cX8_sacksOf 1 = .ok (.getfield 26, 3) := by decide +kernel
theorem dX8_sacksOf_4 : decode cX8_sacksOf 4 = .ok (.getfield 98, 3) := by decide +kernel
theorem dX8_sacksOf_7 : decode cX8_sacksOf 7 = .ok (.iload_n 1, 1) := by decide +kernel
theorem dX8_sacksOf_8 : decode cX8_sacksOf 8 = .ok (.invokestatic 174, 3) := by decide +kernel
theorem dX8_sacksOf_11 : decode cX8_sacksOf 11 = .ok (.aload_n 0, 1) := by decide +kernel
theorem dX8_sacksOf_12 : decode cX8_sacksOf 12 = .ok (.getfield 26, 3) := by decide +kernel
theorem dX8_sacksOf_15 : decode cX8_sacksOf 15 = .ok (.getfield 106, 3) := by decide +kernel
theorem dX8_sacksOf_18 : decode cX8_sacksOf 18 = .ok (.iload_n 1, 1) := by decide +kernel
theorem dX8_sacksOf_19 : decode cX8_sacksOf 19 = .ok (.invokestatic 174, 3) := by decide +kernel
theorem dX8_sacksOf_22 : decode cX8_sacksOf 22 = .ok (.isub, 1) := by decide +kernel
theorem dX8_sacksOf_23 : decode cX8_sacksOf 23 = .ok (.istore_n 2, 1) := by decide +kernel
theorem dX8_sacksOf_24 : decode cX8_sacksOf 24 = .ok (.bipush 100, 2) := by decide +kernel
theorem dX8_sacksOf_26 : decode cX8_sacksOf 26 = .ok (.aload_n 0, 1) := by decide +kernel
theorem dX8_sacksOf_27 : decode cX8_sacksOf 27 = .ok (.getfield 19, 3) := by decide +kernel
theorem dX8_sacksOf_30 : decode cX8_sacksOf 30 = .ok (.iconst 5, 1) := by decide +kernel
theorem dX8_sacksOf_31 : decode cX8_sacksOf 31 = .ok (.invokevirtual 255, 3) := by decide +kernel
theorem dX8_sacksOf_34 : decode cX8_sacksOf 34 = .ok (.aload_n 0, 1) := by decide +kernel
theorem dX8_sacksOf_35 : decode cX8_sacksOf 35 = .ok (.getfield 26, 3) := by decide +kernel
theorem dX8_sacksOf_38 : decode cX8_sacksOf 38 = .ok (.getfield 109, 3) := by decide +kernel
theorem dX8_sacksOf_41 : decode cX8_sacksOf 41 = .ok (.iload_n 1, 1) := by decide +kernel
theorem dX8_sacksOf_42 : decode cX8_sacksOf 42 = .ok (.invokestatic 174, 3) := by decide +kernel
theorem dX8_sacksOf_45 : decode cX8_sacksOf 45 = .ok (.imul, 1) := by decide +kernel
theorem dX8_sacksOf_46 : decode cX8_sacksOf 46 = .ok (.isub, 1) := by decide +kernel
theorem dX8_sacksOf_47 : decode cX8_sacksOf 47 = .ok (.istore_n 3, 1) := by decide +kernel
theorem dX8_sacksOf_48 : decode cX8_sacksOf 48 = .ok (.iload_n 2, 1) := by decide +kernel
theorem dX8_sacksOf_49 : decode cX8_sacksOf 49 = .ok (.iload_n 3, 1) := by decide +kernel
theorem dX8_sacksOf_50 : decode cX8_sacksOf 50 = .ok (.imul, 1) := by decide +kernel
theorem dX8_sacksOf_51 : decode cX8_sacksOf 51 = .ok (.bipush 100, 2) := by decide +kernel
theorem dX8_sacksOf_53 : decode cX8_sacksOf 53 = .ok (.aload_n 0, 1) := by decide +kernel
theorem dX8_sacksOf_54 : decode cX8_sacksOf 54 = .ok (.getfield 19, 3) := by decide +kernel
theorem dX8_sacksOf_57 : decode cX8_sacksOf 57 = .ok (.iconst 2, 1) := by decide +kernel
theorem dX8_sacksOf_58 : decode cX8_sacksOf 58 = .ok (.invokevirtual 255, 3) := by decide +kernel
theorem dX8_sacksOf_61 : decode cX8_sacksOf 61 = .ok (.imul, 1) := by decide +kernel
theorem dX8_sacksOf_62 : decode cX8_sacksOf 62 = .ok (.invokestatic 277, 3) := by decide +kernel
theorem dX8_sacksOf_65 : decode cX8_sacksOf 65 = .ok (.ireturn, 1) := by decide +kernel
theorem dX8_priceOf_0 : decode cX8_priceOf 0 = .ok (.aload_n 0, 1) := by decide +kernel
theorem dX8_priceOf_1 : decode cX8_priceOf 1 = .ok (.getfield 26, 3) := by decide +kernel
theorem dX8_priceOf_4 : decode cX8_priceOf 4 = .ok (.getfield 137, 3) := by decide +kernel
theorem dX8_priceOf_7 : decode cX8_priceOf 7 = .ok (.iload_n 1, 1) := by decide +kernel
theorem dX8_priceOf_8 : decode cX8_priceOf 8 = .ok (.invokestatic 174, 3) := by decide +kernel
theorem dX8_priceOf_11 : decode cX8_priceOf 11 = .ok (.iconst 1, 1) := by decide +kernel
theorem dX8_priceOf_12 : decode cX8_priceOf 12 = .ok (.if_icmp .ne 11, 3) := by decide +kernel
theorem dX8_priceOf_15 : decode cX8_priceOf 15 = .ok (.aload_n 0, 1) := by decide +kernel
theorem dX8_priceOf_16 : decode cX8_priceOf 16 = .ok (.iload_n 1, 1) := by decide +kernel
theorem dX8_priceOf_17 : decode cX8_priceOf 17 = .ok (.invokevirtual 212, 3) := by decide +kernel
theorem dX8_priceOf_20 : decode cX8_priceOf 20 = .ok (.goto 14, 3) := by decide +kernel
theorem dX8_priceOf_23 : decode cX8_priceOf 23 = .ok (.aload_n 0, 1) := by decide +kernel
theorem dX8_priceOf_24 : decode cX8_priceOf 24 = .ok (.getfield 26, 3) := by decide +kernel
theorem dX8_priceOf_27 : decode cX8_priceOf 27 = .ok (.getfield 216, 3) := by decide +kernel
theorem dX8_priceOf_30 : decode cX8_priceOf 30 = .ok (.iload_n 1, 1) := by decide +kernel
theorem dX8_priceOf_31 : decode cX8_priceOf 31 = .ok (.invokestatic 174, 3) := by decide +kernel
theorem dX8_priceOf_34 : decode cX8_priceOf 34 = .ok (.istore_n 2, 1) := by decide +kernel
theorem dX8_priceOf_35 : decode cX8_priceOf 35 = .ok (.iload_n 2, 1) := by decide +kernel
theorem dX8_priceOf_36 : decode cX8_priceOf 36 = .ok (.aload_n 0, 1) := by decide +kernel
theorem dX8_priceOf_37 : decode cX8_priceOf 37 = .ok (.getfield 26, 3) := by decide +kernel
theorem dX8_priceOf_40 : decode cX8_priceOf 40 = .ok (.getfield 140, 3) := by decide +kernel
theorem dX8_priceOf_43 : decode cX8_priceOf 43 = .ok (.iload_n 1, 1) := by decide +kernel
theorem dX8_priceOf_44 : decode cX8_priceOf 44 = .ok (.invokestatic 174, 3) := by decide +kernel
theorem dX8_priceOf_47 : decode cX8_priceOf 47 = .ok (.imul, 1) := by decide +kernel
theorem dX8_priceOf_48 : decode cX8_priceOf 48 = .ok (.ireturn, 1) := by decide +kernel
theorem dX8_lossOf_0 : decode cX8_lossOf 0 = .ok (.aload_n 0, 1) := by decide +kernel
theorem dX8_lossOf_1 : decode cX8_lossOf 1 = .ok (.getfield 26, 3) := by decide +kernel
theorem dX8_lossOf_4 : decode cX8_lossOf 4 = .ok (.iload_n 1, 1) := by decide +kernel
theorem dX8_lossOf_5 : decode cX8_lossOf 5 = .ok (.invokevirtual 261, 3) := by decide +kernel
theorem dX8_lossOf_8 : decode cX8_lossOf 8 = .ok (.ifCond .eq 5, 3) := by decide +kernel
theorem dX8_lossOf_11 : decode cX8_lossOf 11 = .ok (.iconst 0, 1) := by decide +kernel
theorem dX8_lossOf_12 : decode cX8_lossOf 12 = .ok (.ireturn, 1) := by decide +kernel
theorem dX8_lossOf_13 : decode cX8_lossOf 13 = .ok (.aload_n 0, 1) := by decide +kernel
theorem dX8_lossOf_14 : decode cX8_lossOf 14 = .ok (.getfield 26, 3) := by decide +kernel
theorem dX8_lossOf_17 : decode cX8_lossOf 17 = .ok (.getfield 218, 3) := by decide +kernel
theorem dX8_lossOf_20 : decode cX8_lossOf 20 = .ok (.iload_n 1, 1) := by decide +kernel
theorem dX8_lossOf_21 : decode cX8_lossOf 21 = .ok (.invokestatic 174, 3) := by decide +kernel
theorem dX8_lossOf_24 : decode cX8_lossOf 24 = .ok (.aload_n 0, 1) := by decide +kernel
theorem dX8_lossOf_25 : decode cX8_lossOf 25 = .ok (.getfield 26, 3) := by decide +kernel
theorem dX8_lossOf_28 : decode cX8_lossOf 28 = .ok (.getfield 121, 3) := by decide +kernel
theorem dX8_lossOf_31 : decode cX8_lossOf 31 = .ok (.iload_n 1, 1) := by decide +kernel
theorem dX8_lossOf_32 : decode cX8_lossOf 32 = .ok (.invokestatic 174, 3) := by decide +kernel
theorem dX8_lossOf_35 : decode cX8_lossOf 35 = .ok (.isub, 1) := by decide +kernel
theorem dX8_lossOf_36 : decode cX8_lossOf 36 = .ok (.istore_n 2, 1) := by decide +kernel
theorem dX8_lossOf_37 : decode cX8_lossOf 37 = .ok (.aload_n 0, 1) := by decide +kernel
theorem dX8_lossOf_38 : decode cX8_lossOf 38 = .ok (.getfield 19, 3) := by decide +kernel
theorem dX8_lossOf_41 : decode cX8_lossOf 41 = .ok (.iconst 3, 1) := by decide +kernel
theorem dX8_lossOf_42 : decode cX8_lossOf 42 = .ok (.invokevirtual 255, 3) := by decide +kernel
theorem dX8_lossOf_45 : decode cX8_lossOf 45 = .ok (.iload_n 2, 1) := by decide +kernel
theorem dX8_lossOf_46 : decode cX8_lossOf 46 = .ok (.iconst 0, 1) := by decide +kernel
theorem dX8_lossOf_47 : decode cX8_lossOf 47 = .ok (.invokestatic 280, 3) := by decide +kernel
theorem dX8_lossOf_50 : decode cX8_lossOf 50 = .ok (.imul, 1) := by decide +kernel
theorem dX8_lossOf_51 : decode cX8_lossOf 51 = .ok (.ireturn, 1) := by decide +kernel
theorem dX8_howItIs_0 : decode cX8_howItIs 0 = .ok (.aload_n 0, 1) := by decide +kernel
theorem dX8_howItIs_1 : decode cX8_howItIs 1 = .ok (.getfield 61, 3) := by decide +kernel
theorem dX8_howItIs_4 : decode cX8_howItIs 4 = .ok (.getfield 163, 3) := by decide +kernel
theorem dX8_howItIs_7 : decode cX8_howItIs 7 = .ok (.ifCond .ne 5, 3) := by decide +kernel
theorem dX8_howItIs_10 : decode cX8_howItIs 10 = .ok (.iconst 0, 1) := by decide +kernel
theorem dX8_howItIs_11 : decode cX8_howItIs 11 = .ok (.ireturn, 1) := by decide +kernel
theorem dX8_howItIs_12 : decode cX8_howItIs 12 = .ok (.aload_n 0, 1) := by decide +kernel
theorem dX8_howItIs_13 : decode cX8_howItIs 13 = .ok (.getfield 61, 3) := by decide +kernel
theorem dX8_howItIs_16 : decode cX8_howItIs 16 = .ok (.getfield 143, 3) := by decide +kernel
theorem dX8_howItIs_19 : decode cX8_howItIs 19 = .ok (.ifCond .le 5, 3) := by decide +kernel
theorem dX8_howItIs_22 : decode cX8_howItIs 22 = .ok (.iconst 1, 1) := by decide +kernel
theorem dX8_howItIs_23 : decode cX8_howItIs 23 = .ok (.ireturn, 1) := by decide +kernel
theorem dX8_howItIs_24 : decode cX8_howItIs 24 = .ok (.aload_n 0, 1) := by decide +kernel
theorem dX8_howItIs_25 : decode cX8_howItIs 25 = .ok (.invokevirtual 285, 3) := by decide +kernel
theorem dX8_howItIs_28 : decode cX8_howItIs 28 = .ok (.ifCond .eq 7, 3) := by decide +kernel
theorem dX8_howItIs_31 : decode cX8_howItIs 31 = .ok (.iconst 2, 1) := by decide +kernel
theorem dX8_howItIs_32 : decode cX8_howItIs 32 = .ok (.goto 4, 3) := by decide +kernel
theorem dX8_howItIs_35 : decode cX8_howItIs 35 = .ok (.iconst 3, 1) := by decide +kernel
theorem dX8_howItIs_36 : decode cX8_howItIs 36 = .ok (.ireturn, 1) := by decide +kernel
theorem dX8_isAheadOfFrom_0 : decode cX8_isAheadOfFrom 0 = .ok (.aload_n 0, 1) := by decide +kernel
theorem dX8_isAheadOfFrom_1 : decode cX8_isAheadOfFrom 1 = .ok (.getfield 61, 3) := by decide +kernel
theorem dX8_isAheadOfFrom_4 : decode cX8_isAheadOfFrom 4 = .ok (.getfield 152, 3) := by decide +kernel
theorem dX8_isAheadOfFrom_7 : decode cX8_isAheadOfFrom 7 = .ok (.aload_n 0, 1) := by decide +kernel
theorem dX8_isAheadOfFrom_8 : decode cX8_isAheadOfFrom 8 = .ok (.getfield 26, 3) := by decide +kernel
theorem dX8_isAheadOfFrom_11 : decode cX8_isAheadOfFrom 11 = .ok (.getfield 118, 3) := by decide +kernel
theorem dX8_isAheadOfFrom_14 : decode cX8_isAheadOfFrom 14 = .ok (.aload_n 0, 1) := by decide +kernel
theorem dX8_isAheadOfFrom_15 : decode cX8_isAheadOfFrom 15 = .ok (.getfield 61, 3) := by decide +kernel
theorem dX8_isAheadOfFrom_18 : decode cX8_isAheadOfFrom 18 = .ok (.getfield 149, 3) := by decide +kernel
theorem dX8_isAheadOfFrom_21 : decode cX8_isAheadOfFrom 21 = .ok (.invokestatic 174, 3) := by decide +kernel
theorem dX8_isAheadOfFrom_24 : decode cX8_isAheadOfFrom 24 = .ok (.if_icmp .ge 7, 3) := by decide +kernel
theorem dX8_isAheadOfFrom_27 : decode cX8_isAheadOfFrom 27 = .ok (.iconst 1, 1) := by decide +kernel
theorem dX8_isAheadOfFrom_28 : decode cX8_isAheadOfFrom 28 = .ok (.goto 4, 3) := by decide +kernel
theorem dX8_isAheadOfFrom_31 : decode cX8_isAheadOfFrom 31 = .ok (.iconst 0, 1) := by decide +kernel
theorem dX8_isAheadOfFrom_32 : decode cX8_isAheadOfFrom 32 = .ok (.ireturn, 1) := by decide +kernel
theorem dX8_passDay_0 : decode cX8_passDay 0 = .ok (.aload_n 0, 1) := by decide +kernel
theorem dX8_passDay_1 : decode cX8_passDay 1 = .ok (.getfield 61, 3) := by decide +kernel
theorem dX8_passDay_4 : decode cX8_passDay 4 = .ok (.getfield 206, 3) := by decide +kernel
theorem dX8_passDay_7 : decode cX8_passDay 7 = .ok (.ifCond .le 19, 3) := by decide +kernel
theorem dX8_passDay_10 : decode cX8_passDay 10 = .ok (.aload_n 0, 1) := by decide +kernel
theorem dX8_passDay_11 : decode cX8_passDay 11 = .ok (.getfield 61, 3) := by decide +kernel
theorem dX8_passDay_14 : decode cX8_passDay 14 = .ok (.dup, 1) := by decide +kernel
theorem dX8_passDay_15 : decode cX8_passDay 15 = .ok (.getfield 206, 3) := by decide +kernel
theorem dX8_passDay_18 : decode cX8_passDay 18 = .ok (.iconst 1, 1) := by decide +kernel
theorem dX8_passDay_19 : decode cX8_passDay 19 = .ok (.isub, 1) := by decide +kernel
theorem dX8_passDay_20 : decode cX8_passDay 20 = .ok (.putfield 206, 3) := by decide +kernel
theorem dX8_passDay_23 : decode cX8_passDay 23 = .ok (.goto 67, 3) := by decide +kernel
theorem dX8_passDay_26 : decode cX8_passDay 26 = .ok (.aload_n 0, 1) := by decide +kernel
theorem dX8_passDay_27 : decode cX8_passDay 27 = .ok (.getfield 61, 3) := by decide +kernel
theorem dX8_passDay_30 : decode cX8_passDay 30 = .ok (.getfield 163, 3) := by decide +kernel
theorem dX8_passDay_33 : decode cX8_passDay 33 = .ok (.ifCond .eq 29, 3) := by decide +kernel
theorem dX8_passDay_36 : decode cX8_passDay 36 = .ok (.aload_n 0, 1) := by decide +kernel
theorem dX8_passDay_37 : decode cX8_passDay 37 = .ok (.getfield 61, 3) := by decide +kernel
theorem dX8_passDay_40 : decode cX8_passDay 40 = .ok (.getfield 143, 3) := by decide +kernel
theorem dX8_passDay_43 : decode cX8_passDay 43 = .ok (.ifCond .le 19, 3) := by decide +kernel
theorem dX8_passDay_46 : decode cX8_passDay 46 = .ok (.aload_n 0, 1) := by decide +kernel
theorem dX8_passDay_47 : decode cX8_passDay 47 = .ok (.getfield 61, 3) := by decide +kernel
theorem dX8_passDay_50 : decode cX8_passDay 50 = .ok (.dup, 1) := by decide +kernel
theorem dX8_passDay_51 : decode cX8_passDay 51 = .ok (.getfield 143, 3) := by decide +kernel
theorem dX8_passDay_54 : decode cX8_passDay 54 = .ok (.iconst 1, 1) := by decide +kernel
theorem dX8_passDay_55 : decode cX8_passDay 55 = .ok (.isub, 1) := by decide +kernel
theorem dX8_passDay_56 : decode cX8_passDay 56 = .ok (.putfield 143, 3) := by decide +kernel
theorem dX8_passDay_59 : decode cX8_passDay 59 = .ok (.goto 31, 3) := by decide +kernel
theorem dX8_passDay_62 : decode cX8_passDay 62 = .ok (.aload_n 0, 1) := by decide +kernel
theorem dX8_passDay_63 : decode cX8_passDay 63 = .ok (.getfield 61, 3) := by decide +kernel
theorem dX8_passDay_66 : decode cX8_passDay 66 = .ok (.getfield 163, 3) := by decide +kernel
theorem dX8_passDay_69 : decode cX8_passDay 69 = .ok (.ifCond .eq 21, 3) := by decide +kernel
theorem dX8_passDay_72 : decode cX8_passDay 72 = .ok (.aload_n 0, 1) := by decide +kernel
theorem dX8_passDay_73 : decode cX8_passDay 73 = .ok (.invokevirtual 285, 3) := by decide +kernel
theorem dX8_passDay_76 : decode cX8_passDay 76 = .ok (.ifCond .ne 14, 3) := by decide +kernel
theorem dX8_passDay_79 : decode cX8_passDay 79 = .ok (.aload_n 0, 1) := by decide +kernel
theorem dX8_passDay_80 : decode cX8_passDay 80 = .ok (.aload_n 0, 1) := by decide +kernel
theorem dX8_passDay_81 : decode cX8_passDay 81 = .ok (.getfield 61, 3) := by decide +kernel
theorem dX8_passDay_84 : decode cX8_passDay 84 = .ok (.getfield 149, 3) := by decide +kernel
theorem dX8_passDay_87 : decode cX8_passDay 87 = .ok (.invokevirtual 289, 3) := by decide +kernel
theorem dX8_passDay_90 : decode cX8_passDay 90 = .ok (.aload_n 0, 1) := by decide +kernel
theorem dX8_passDay_91 : decode cX8_passDay 91 = .ok (.getfield 61, 3) := by decide +kernel
theorem dX8_passDay_94 : decode cX8_passDay 94 = .ok (.dup, 1) := by decide +kernel
theorem dX8_passDay_95 : decode cX8_passDay 95 = .ok (.getfield 152, 3) := by decide +kernel
theorem dX8_passDay_98 : decode cX8_passDay 98 = .ok (.iconst 1, 1) := by decide +kernel
theorem dX8_passDay_99 : decode cX8_passDay 99 = .ok (.iadd, 1) := by decide +kernel
theorem dX8_passDay_100 : decode cX8_passDay 100 = .ok (.putfield 152, 3) := by decide +kernel
theorem dX8_passDay_103 : decode cX8_passDay 103 = .ok (.return_, 1) := by decide +kernel
theorem dX8_thresh_0 : decode cX8_thresh 0 = .ok (.aload_n 0, 1) := by decide +kernel
theorem dX8_thresh_1 : decode cX8_thresh 1 = .ok (.iload_n 1, 1) := by decide +kernel
theorem dX8_thresh_2 : decode cX8_thresh 2 = .ok (.invokevirtual 227, 3) := by decide +kernel
theorem dX8_thresh_5 : decode cX8_thresh 5 = .ok (.aload_n 0, 1) := by decide +kernel
theorem dX8_thresh_6 : decode cX8_thresh 6 = .ok (.getfield 26, 3) := by decide +kernel
theorem dX8_thresh_9 : decode cX8_thresh 9 = .ok (.getfield 106, 3) := by decide +kernel
theorem dX8_thresh_12 : decode cX8_thresh 12 = .ok (.iload_n 1, 1) := by decide +kernel
theorem dX8_thresh_13 : decode cX8_thresh 13 = .ok (.invokestatic 174, 3) := by decide +kernel
theorem dX8_thresh_16 : decode cX8_thresh 16 = .ok (.invokestatic 292, 3) := by decide +kernel
theorem dX8_thresh_19 : decode cX8_thresh 19 = .ok (.istore_n 2, 1) := by decide +kernel
theorem dX8_thresh_20 : decode cX8_thresh 20 = .ok (.aload_n 0, 1) := by decide +kernel
theorem dX8_thresh_21 : decode cX8_thresh 21 = .ok (.getfield 26, 3) := by decide +kernel
theorem dX8_thresh_24 : decode cX8_thresh 24 = .ok (.getfield 106, 3) := by decide +kernel
theorem dX8_thresh_27 : decode cX8_thresh 27 = .ok (.iload_n 1, 1) := by decide +kernel
theorem dX8_thresh_28 : decode cX8_thresh 28 = .ok (.aload_n 0, 1) := by decide +kernel
theorem dX8_thresh_29 : decode cX8_thresh 29 = .ok (.getfield 26, 3) := by decide +kernel
theorem dX8_thresh_32 : decode cX8_thresh 32 = .ok (.getfield 106, 3) := by decide +kernel
theorem dX8_thresh_35 : decode cX8_thresh 35 = .ok (.iload_n 1, 1) := by decide +kernel
theorem dX8_thresh_36 : decode cX8_thresh 36 = .ok (.invokestatic 174, 3) := by decide +kernel
theorem dX8_thresh_39 : decode cX8_thresh 39 = .ok (.iload_n 2, 1) := by decide +kernel
theorem dX8_thresh_40 : decode cX8_thresh 40 = .ok (.isub, 1) := by decide +kernel
theorem dX8_thresh_41 : decode cX8_thresh 41 = .ok (.invokestatic 102, 3) := by decide +kernel
theorem dX8_thresh_44 : decode cX8_thresh 44 = .ok (.aload_n 0, 1) := by decide +kernel
theorem dX8_thresh_45 : decode cX8_thresh 45 = .ok (.getfield 26, 3) := by decide +kernel
theorem dX8_thresh_48 : decode cX8_thresh 48 = .ok (.getfield 216, 3) := by decide +kernel
theorem dX8_thresh_51 : decode cX8_thresh 51 = .ok (.iload_n 1, 1) := by decide +kernel
theorem dX8_thresh_52 : decode cX8_thresh 52 = .ok (.aload_n 0, 1) := by decide +kernel
theorem dX8_thresh_53 : decode cX8_thresh 53 = .ok (.getfield 26, 3) := by decide +kernel
theorem dX8_thresh_56 : decode cX8_thresh 56 = .ok (.getfield 216, 3) := by decide +kernel
theorem dX8_thresh_59 : decode cX8_thresh 59 = .ok (.iload_n 1, 1) := by decide +kernel
theorem dX8_thresh_60 : decode cX8_thresh 60 = .ok (.invokestatic 174, 3) := by decide +kernel
theorem dX8_thresh_63 : decode cX8_thresh 63 = .ok (.iconst 1, 1) := by decide +kernel
theorem dX8_thresh_64 : decode cX8_thresh 64 = .ok (.iadd, 1) := by decide +kernel
theorem dX8_thresh_65 : decode cX8_thresh 65 = .ok (.invokestatic 102, 3) := by decide +kernel
theorem dX8_thresh_68 : decode cX8_thresh 68 = .ok (.aload_n 0, 1) := by decide +kernel
theorem dX8_thresh_69 : decode cX8_thresh 69 = .ok (.getfield 40, 3) := by decide +kernel
theorem dX8_thresh_72 : decode cX8_thresh 72 = .ok (.aload_n 0, 1) := by decide +kernel
theorem dX8_thresh_73 : decode cX8_thresh 73 = .ok (.getfield 26, 3) := by decide +kernel
theorem dX8_thresh_76 : decode cX8_thresh 76 = .ok (.getfield 91, 3) := by decide +kernel
theorem dX8_thresh_79 : decode cX8_thresh 79 = .ok (.iload_n 1, 1) := by decide +kernel
theorem dX8_thresh_80 : decode cX8_thresh 80 = .ok (.invokevirtual 295, 3) := by decide +kernel
theorem dX8_thresh_83 : decode cX8_thresh 83 = .ok (.aload_n 0, 1) := by decide +kernel
theorem dX8_thresh_84 : decode cX8_thresh 84 = .ok (.getfield 26, 3) := by decide +kernel
theorem dX8_thresh_87 : decode cX8_thresh 87 = .ok (.iload_n 1, 1) := by decide +kernel
theorem dX8_thresh_88 : decode cX8_thresh 88 = .ok (.invokevirtual 261, 3) := by decide +kernel
theorem dX8_thresh_91 : decode cX8_thresh 91 = .ok (.ifCond .ne 25, 3) := by decide +kernel
theorem dX8_thresh_94 : decode cX8_thresh 94 = .ok (.aload_n 0, 1) := by decide +kernel
theorem dX8_thresh_95 : decode cX8_thresh 95 = .ok (.getfield 26, 3) := by decide +kernel
theorem dX8_thresh_98 : decode cX8_thresh 98 = .ok (.getfield 218, 3) := by decide +kernel
theorem dX8_thresh_101 : decode cX8_thresh 101 = .ok (.iload_n 1, 1) := by decide +kernel
theorem dX8_thresh_102 : decode cX8_thresh 102 = .ok (.aload_n 0, 1) := by decide +kernel
theorem dX8_thresh_103 : decode cX8_thresh 103 = .ok (.getfield 61, 3) := by decide +kernel
theorem dX8_thresh_106 : decode cX8_thresh 106 = .ok (.getfield 152, 3) := by decide +kernel
theorem dX8_thresh_109 : decode cX8_thresh 109 = .ok (.invokestatic 102, 3) := by decide +kernel
theorem dX8_thresh_112 : decode cX8_thresh 112 = .ok (.aload_n 0, 1) := by decide +kernel
theorem dX8_thresh_113 : decode cX8_thresh 113 = .ok (.invokevirtual 299, 3) := by decide +kernel
theorem dX8_thresh_116 : decode cX8_thresh 116 = .ok (.return_, 1) := by decide +kernel
theorem dX8_goOn_0 : decode cX8_goOn 0 = .ok (.aload_n 0, 1) := by decide +kernel
theorem dX8_goOn_1 : decode cX8_goOn 1 = .ok (.getfield 61, 3) := by decide +kernel
theorem dX8_goOn_4 : decode cX8_goOn 4 = .ok (.dup, 1) := by decide +kernel
theorem dX8_goOn_5 : decode cX8_goOn 5 = .ok (.getfield 200, 3) := by decide +kernel
theorem dX8_goOn_8 : decode cX8_goOn 8 = .ok (.iconst 1, 1) := by decide +kernel
theorem dX8_goOn_9 : decode cX8_goOn 9 = .ok (.iadd, 1) := by decide +kernel
theorem dX8_goOn_10 : decode cX8_goOn 10 = .ok (.putfield 200, 3) := by decide +kernel
theorem dX8_goOn_13 : decode cX8_goOn 13 = .ok (.aload_n 0, 1) := by decide +kernel
theorem dX8_goOn_14 : decode cX8_goOn 14 = .ok (.getfield 61, 3) := by decide +kernel
theorem dX8_goOn_17 : decode cX8_goOn 17 = .ok (.getfield 200, 3) := by decide +kernel
theorem dX8_goOn_20 : decode cX8_goOn 20 = .ok (.aload_n 0, 1) := by decide +kernel
theorem dX8_goOn_21 : decode cX8_goOn 21 = .ok (.getfield 54, 3) := by decide +kernel
theorem dX8_goOn_24 : decode cX8_goOn 24 = .ok (.getfield 170, 3) := by decide +kernel
theorem dX8_goOn_27 : decode cX8_goOn 27 = .ok (.if_icmp .ge 7, 3) := by decide +kernel
theorem dX8_goOn_30 : decode cX8_goOn 30 = .ok (.iconst 1, 1) := by decide +kernel
theorem dX8_goOn_31 : decode cX8_goOn 31 = .ok (.goto 4, 3) := by decide +kernel
theorem dX8_goOn_34 : decode cX8_goOn 34 = .ok (.iconst 0, 1) := by decide +kernel
theorem dX8_goOn_35 : decode cX8_goOn 35 = .ok (.istore_n 1, 1) := by decide +kernel
theorem dX8_goOn_36 : decode cX8_goOn 36 = .ok (.iload_n 1, 1) := by decide +kernel
theorem dX8_goOn_37 : decode cX8_goOn 37 = .ok (.ifCond .eq 23, 3) := by decide +kernel
theorem dX8_goOn_40 : decode cX8_goOn 40 = .ok (.aload_n 0, 1) := by decide +kernel
theorem dX8_goOn_41 : decode cX8_goOn 41 = .ok (.getfield 54, 3) := by decide +kernel
theorem dX8_goOn_44 : decode cX8_goOn 44 = .ok (.getfield 171, 3) := by decide +kernel
theorem dX8_goOn_47 : decode cX8_goOn 47 = .ok (.aload_n 0, 1) := by decide +kernel
theorem dX8_goOn_48 : decode cX8_goOn 48 = .ok (.getfield 61, 3) := by decide +kernel
theorem dX8_goOn_51 : decode cX8_goOn 51 = .ok (.getfield 200, 3) := by decide +kernel
theorem dX8_goOn_54 : decode cX8_goOn 54 = .ok (.invokestatic 174, 3) := by decide +kernel
theorem dX8_goOn_57 : decode cX8_goOn 57 = .ok (.goto 10, 3) := by decide +kernel
theorem dX8_goOn_60 : decode cX8_goOn 60 = .ok (.aload_n 0, 1) := by decide +kernel
theorem dX8_goOn_61 : decode cX8_goOn 61 = .ok (.getfield 61, 3) := by decide +kernel
theorem dX8_goOn_64 : decode cX8_goOn 64 = .ok (.getfield 149, 3) := by decide +kernel
theorem dX8_goOn_67 : decode cX8_goOn 67 = .ok (.istore_n 2, 1) := by decide +kernel
theorem dX8_goOn_68 : decode cX8_goOn 68 = .ok (.iload_n 1, 1) := by decide +kernel
theorem dX8_goOn_69 : decode cX8_goOn 69 = .ok (.ifCond .eq 30, 3) := by decide +kernel
theorem dX8_goOn_72 : decode cX8_goOn 72 = .ok (.aload_n 0, 1) := by decide +kernel
theorem dX8_goOn_73 : decode cX8_goOn 73 = .ok (.getfield 33, 3) := by decide +kernel
theorem dX8_goOn_76 : decode cX8_goOn 76 = .ok (.aload_n 0, 1) := by decide +kernel
theorem dX8_goOn_77 : decode cX8_goOn 77 = .ok (.getfield 61, 3) := by decide +kernel
theorem dX8_goOn_80 : decode cX8_goOn 80 = .ok (.getfield 149, 3) := by decide +kernel
theorem dX8_goOn_83 : decode cX8_goOn 83 = .ok (.iload_n 2, 1) := by decide +kernel
theorem dX8_goOn_84 : decode cX8_goOn 84 = .ok (.invokevirtual 196, 3) := by decide +kernel
theorem dX8_goOn_87 : decode cX8_goOn 87 = .ok (.iconst (-1), 1) := by decide +kernel
theorem dX8_goOn_88 : decode cX8_goOn 88 = .ok (.if_icmp .eq 11, 3) := by decide +kernel
theorem dX8_goOn_91 : decode cX8_goOn 91 = .ok (.aload_n 0, 1) := by decide +kernel
theorem dX8_goOn_92 : decode cX8_goOn 92 = .ok (.iload_n 2, 1) := by decide +kernel
theorem dX8_goOn_93 : decode cX8_goOn 93 = .ok (.invokevirtual 203, 3) := by decide +kernel
theorem dX8_goOn_96 : decode cX8_goOn 96 = .ok (.goto 11, 3) := by decide +kernel
theorem dX8_goOn_99 : decode cX8_goOn 99 = .ok (.aload_n 0, 1) := by decide +kernel
theorem dX8_goOn_100 : decode cX8_goOn 100 = .ok (.getfield 61, 3) := by decide +kernel
theorem dX8_goOn_103 : decode cX8_goOn 103 = .ok (.iconst 0, 1) := by decide +kernel
theorem dX8_goOn_104 : decode cX8_goOn 104 = .ok (.putfield 163, 3) := by decide +kernel
theorem dX8_goOn_107 : decode cX8_goOn 107 = .ok (.return_, 1) := by decide +kernel
theorem dX8_setOutFor_0 : decode cX8_setOutFor 0 = .ok (.aload_n 0, 1) := by decide +kernel
theorem dX8_setOutFor_1 : decode cX8_setOutFor 1 = .ok (.getfield 61, 3) := by decide +kernel
theorem dX8_setOutFor_4 : decode cX8_setOutFor 4 = .ok (.aload_n 0, 1) := by decide +kernel
theorem dX8_setOutFor_5 : decode cX8_setOutFor 5 = .ok (.getfield 33, 3) := by decide +kernel
theorem dX8_setOutFor_8 : decode cX8_setOutFor 8 = .ok (.aload_n 0, 1) := by decide +kernel
theorem dX8_setOutFor_9 : decode cX8_setOutFor 9 = .ok (.getfield 61, 3) := by decide +kernel
theorem dX8_setOutFor_12 : decode cX8_setOutFor 12 = .ok (.getfield 149, 3) := by decide +kernel
theorem dX8_setOutFor_15 : decode cX8_setOutFor 15 = .ok (.iload_n 1, 1) := by decide +kernel
theorem dX8_setOutFor_16 : decode cX8_setOutFor 16 = .ok (.invokevirtual 196, 3) := by decide +kernel
theorem dX8_setOutFor_19 : decode cX8_setOutFor 19 = .ok (.putfield 143, 3) := by decide +kernel
theorem dX8_setOutFor_22 : decode cX8_setOutFor 22 = .ok (.aload_n 0, 1) := by decide +kernel
theorem dX8_setOutFor_23 : decode cX8_setOutFor 23 = .ok (.getfield 61, 3) := by decide +kernel
theorem dX8_setOutFor_26 : decode cX8_setOutFor 26 = .ok (.iload_n 1, 1) := by decide +kernel
theorem dX8_setOutFor_27 : decode cX8_setOutFor 27 = .ok (.putfield 149, 3) := by decide +kernel
theorem dX8_setOutFor_30 : decode cX8_setOutFor 30 = .ok (.return_, 1) := by decide +kernel
theorem dX8_within_0 : decode cX8_within 0 = .ok (.iload_n 0, 1) := by decide +kernel
theorem dX8_within_1 : decode cX8_within 1 = .ok (.iload_n 1, 1) := by decide +kernel
theorem dX8_within_2 : decode cX8_within 2 = .ok (.if_icmp .lt 12, 3) := by decide +kernel
theorem dX8_within_5 : decode cX8_within 5 = .ok (.iload_n 0, 1) := by decide +kernel
theorem dX8_within_6 : decode cX8_within 6 = .ok (.iload_n 2, 1) := by decide +kernel
theorem dX8_within_7 : decode cX8_within 7 = .ok (.if_icmp .gt 7, 3) := by decide +kernel
theorem dX8_within_10 : decode cX8_within 10 = .ok (.iconst 1, 1) := by decide +kernel
theorem dX8_within_11 : decode cX8_within 11 = .ok (.goto 4, 3) := by decide +kernel
theorem dX8_within_14 : decode cX8_within 14 = .ok (.iconst 0, 1) := by decide +kernel
theorem dX8_within_15 : decode cX8_within 15 = .ok (.ireturn, 1) := by decide +kernel
theorem dX8_at_0 : decode cX8_at 0 = .ok (.iload_n 1, 1) := by decide +kernel
theorem dX8_at_1 : decode cX8_at 1 = .ok (.ifCond .lt 15, 3) := by decide +kernel
theorem dX8_at_4 : decode cX8_at 4 = .ok (.iload_n 1, 1) := by decide +kernel
theorem dX8_at_5 : decode cX8_at 5 = .ok (.aload_n 0, 1) := by decide +kernel
theorem dX8_at_6 : decode cX8_at 6 = .ok (.arraylength, 1) := by decide +kernel
theorem dX8_at_7 : decode cX8_at 7 = .ok (.if_icmp .ge 9, 3) := by decide +kernel
theorem dX8_at_10 : decode cX8_at 10 = .ok (.aload_n 0, 1) := by decide +kernel
theorem dX8_at_11 : decode cX8_at 11 = .ok (.iload_n 1, 1) := by decide +kernel
theorem dX8_at_12 : decode cX8_at 12 = .ok (.iaload, 1) := by decide +kernel
theorem dX8_at_13 : decode cX8_at 13 = .ok (.goto 4, 3) := by decide +kernel
theorem dX8_at_16 : decode cX8_at 16 = .ok (.iconst (-1), 1) := by decide +kernel
theorem dX8_at_17 : decode cX8_at 17 = .ok (.ireturn, 1) := by decide +kernel
theorem dX8_put_0 : decode cX8_put 0 = .ok (.iload_n 1, 1) := by decide +kernel
theorem dX8_put_1 : decode cX8_put 1 = .ok (.ifCond .lt 13, 3) := by decide +kernel
theorem dX8_put_4 : decode cX8_put 4 = .ok (.iload_n 1, 1) := by decide +kernel
theorem dX8_put_5 : decode cX8_put 5 = .ok (.aload_n 0, 1) := by decide +kernel
theorem dX8_put_6 : decode cX8_put 6 = .ok (.arraylength, 1) := by decide +kernel
theorem dX8_put_7 : decode cX8_put 7 = .ok (.if_icmp .ge 7, 3) := by decide +kernel
theorem dX8_put_10 : decode cX8_put 10 = .ok (.aload_n 0, 1) := by decide +kernel
theorem dX8_put_11 : decode cX8_put 11 = .ok (.iload_n 1, 1) := by decide +kernel
theorem dX8_put_12 : decode cX8_put 12 = .ok (.iload_n 2, 1) := by decide +kernel
theorem dX8_put_13 : decode cX8_put 13 = .ok (.iastore, 1) := by decide +kernel
theorem dX8_put_14 : decode cX8_put 14 = .ok (.return_, 1) := by decide +kernel
theorem dX8_at__0 : decode cX8_at_ 0 = .ok (.iload_n 1, 1) := by decide +kernel
theorem dX8_at__1 : decode cX8_at_ 1 = .ok (.ifCond .lt 29, 3) := by decide +kernel
theorem dX8_at__4 : decode cX8_at_ 4 = .ok (.iload_n 1, 1) := by decide +kernel
theorem dX8_at__5 : decode cX8_at_ 5 = .ok (.aload_n 0, 1) := by decide +kernel
theorem dX8_at__6 : decode cX8_at_ 6 = .ok (.arraylength, 1) := by decide +kernel
theorem dX8_at__7 : decode cX8_at_ 7 = .ok (.if_icmp .ge 23, 3) := by decide +kernel
theorem dX8_at__10 : decode cX8_at_ 10 = .ok (.iload_n 2, 1) := by decide +kernel
theorem dX8_at__11 : decode cX8_at_ 11 = .ok (.ifCond .lt 19, 3) := by decide +kernel
theorem dX8_at__14 : decode cX8_at_ 14 = .ok (.iload_n 2, 1) := by decide +kernel
theorem dX8_at__15 : decode cX8_at_ 15 = .ok (.aload_n 0, 1) := by decide +kernel
theorem dX8_at__16 : decode cX8_at_ 16 = .ok (.iload_n 1, 1) := by decide +kernel
theorem dX8_at__17 : decode cX8_at_ 17 = .ok (.aaload, 1) := by decide +kernel
theorem dX8_at__18 : decode cX8_at_ 18 = .ok (.arraylength, 1) := by decide +kernel
theorem dX8_at__19 : decode cX8_at_ 19 = .ok (.if_icmp .ge 11, 3) := by decide +kernel
theorem dX8_at__22 : decode cX8_at_ 22 = .ok (.aload_n 0, 1) := by decide +kernel
theorem dX8_at__23 : decode cX8_at_ 23 = .ok (.iload_n 1, 1) := by decide +kernel
theorem dX8_at__24 : decode cX8_at_ 24 = .ok (.aaload, 1) := by decide +kernel
theorem dX8_at__25 : decode cX8_at_ 25 = .ok (.iload_n 2, 1) := by decide +kernel
theorem dX8_at__26 : decode cX8_at_ 26 = .ok (.iaload, 1) := by decide +kernel
theorem dX8_at__27 : decode cX8_at_ 27 = .ok (.goto 4, 3) := by decide +kernel
theorem dX8_at__30 : decode cX8_at_ 30 = .ok (.iconst (-1), 1) := by decide +kernel
theorem dX8_at__31 : decode cX8_at_ 31 = .ok (.ireturn, 1) := by decide +kernel
theorem dX8_put__0 : decode cX8_put_ 0 = .ok (.iload_n 1, 1) := by decide +kernel
theorem dX8_put__1 : decode cX8_put_ 1 = .ok (.ifCond .lt 27, 3) := by decide +kernel
theorem dX8_put__4 : decode cX8_put_ 4 = .ok (.iload_n 1, 1) := by decide +kernel
theorem dX8_put__5 : decode cX8_put_ 5 = .ok (.aload_n 0, 1) := by decide +kernel
theorem dX8_put__6 : decode cX8_put_ 6 = .ok (.arraylength, 1) := by decide +kernel
theorem dX8_put__7 : decode cX8_put_ 7 = .ok (.if_icmp .ge 21, 3) := by decide +kernel
theorem dX8_put__10 : decode cX8_put_ 10 = .ok (.iload_n 2, 1) := by decide +kernel
theorem dX8_put__11 : decode cX8_put_ 11 = .ok (.ifCond .lt 17, 3) := by decide +kernel
theorem dX8_put__14 : decode cX8_put_ 14 = .ok (.iload_n 2, 1) := by decide +kernel
theorem dX8_put__15 : decode cX8_put_ 15 = .ok (.aload_n 0, 1) := by decide +kernel
theorem dX8_put__16 : decode cX8_put_ 16 = .ok (.iload_n 1, 1) := by decide +kernel
theorem dX8_put__17 : decode cX8_put_ 17 = .ok (.aaload, 1) := by decide +kernel
theorem dX8_put__18 : decode cX8_put_ 18 = .ok (.arraylength, 1) := by decide +kernel
theorem dX8_put__19 : decode cX8_put_ 19 = .ok (.if_icmp .ge 9, 3) := by decide +kernel
theorem dX8_put__22 : decode cX8_put_ 22 = .ok (.aload_n 0, 1) := by decide +kernel
theorem dX8_put__23 : decode cX8_put_ 23 = .ok (.iload_n 1, 1) := by decide +kernel
theorem dX8_put__24 : decode cX8_put_ 24 = .ok (.aaload, 1) := by decide +kernel
theorem dX8_put__25 : decode cX8_put_ 25 = .ok (.iload_n 2, 1) := by decide +kernel
theorem dX8_put__26 : decode cX8_put_ 26 = .ok (.iload_n 3, 1) := by decide +kernel
theorem dX8_put__27 : decode cX8_put_ 27 = .ok (.iastore, 1) := by decide +kernel
theorem dX8_put__28 : decode cX8_put_ 28 = .ok (.return_, 1) := by decide +kernel
theorem dX8_cut_0 : decode cX8_cut 0 = .ok (.iload_n 1, 1) := by decide +kernel
theorem dX8_cut_1 : decode cX8_cut 1 = .ok (.ifCond .le 9, 3) := by decide +kernel
theorem dX8_cut_4 : decode cX8_cut 4 = .ok (.iload_n 0, 1) := by decide +kernel
theorem dX8_cut_5 : decode cX8_cut 5 = .ok (.iload_n 1, 1) := by decide +kernel
theorem dX8_cut_6 : decode cX8_cut 6 = .ok (.idiv, 1) := by decide +kernel
theorem dX8_cut_7 : decode cX8_cut 7 = .ok (.goto 4, 3) := by decide +kernel
theorem dX8_cut_10 : decode cX8_cut 10 = .ok (.iconst 0, 1) := by decide +kernel
theorem dX8_cut_11 : decode cX8_cut 11 = .ok (.ireturn, 1) := by decide +kernel
theorem dX8_upwards_0 : decode cX8_upwards 0 = .ok (.iload_n 1, 1) := by decide +kernel
theorem dX8_upwards_1 : decode cX8_upwards 1 = .ok (.ifCond .le 13, 3) := by decide +kernel
theorem dX8_upwards_4 : decode cX8_upwards 4 = .ok (.iload_n 0, 1) := by decide +kernel
theorem dX8_upwards_5 : decode cX8_upwards 5 = .ok (.iload_n 1, 1) := by decide +kernel
theorem dX8_upwards_6 : decode cX8_upwards 6 = .ok (.iadd, 1) := by decide +kernel
theorem dX8_upwards_7 : decode cX8_upwards 7 = .ok (.iconst 1, 1) := by decide +kernel
theorem dX8_upwards_8 : decode cX8_upwards 8 = .ok (.isub, 1) := by decide +kernel
theorem dX8_upwards_9 : decode cX8_upwards 9 = .ok (.iload_n 1, 1) := by decide +kernel
theorem dX8_upwards_10 : decode cX8_upwards 10 = .ok (.idiv, 1) := by decide +kernel
theorem dX8_upwards_11 : decode cX8_upwards 11 = .ok (.goto 4, 3) := by decide +kernel
theorem dX8_upwards_14 : decode cX8_upwards 14 = .ok (.iconst 0, 1) := by decide +kernel
theorem dX8_upwards_15 : decode cX8_upwards 15 = .ok (.ireturn, 1) := by decide +kernel
theorem dL_law_0 : decode cL_law 0 = .ok (.new 7, 3) := by decide +kernel
theorem dL_law_3 : decode cL_law 3 = .ok (.dup, 1) := by decide +kernel
theorem dL_law_4 : decode cL_law 4 = .ok (.invokespecial 9, 3) := by decide +kernel
theorem dL_law_7 : decode cL_law 7 = .ok (.astore_n 1, 1) := by decide +kernel
theorem dL_law_8 : decode cL_law 8 = .ok (.new 10, 3) := by decide +kernel
theorem dL_law_11 : decode cL_law 11 = .ok (.dup, 1) := by decide +kernel
theorem dL_law_12 : decode cL_law 12 = .ok (.invokespecial 12, 3) := by decide +kernel
theorem dL_law_15 : decode cL_law 15 = .ok (.astore_n 2, 1) := by decide +kernel
theorem dL_law_16 : decode cL_law 16 = .ok (.iconst 0, 1) := by decide +kernel
theorem dL_law_17 : decode cL_law 17 = .ok (.istore_n 3, 1) := by decide +kernel
theorem dL_law_18 : decode cL_law 18 = .ok (.iload_n 3, 1) := by decide +kernel
theorem dL_law_19 : decode cL_law 19 = .ok (.aload_n 0, 1) := by decide +kernel
theorem dL_law_20 : decode cL_law 20 = .ok (.arraylength, 1) := by decide +kernel
theorem dL_law_21 : decode cL_law 21 = .ok (.bipush 7, 2) := by decide +kernel
theorem dL_law_23 : decode cL_law 23 = .ok (.isub, 1) := by decide +kernel
theorem dL_law_24 : decode cL_law 24 = .ok (.if_icmp .gt 587, 3) := by decide +kernel
theorem dL_law_27 : decode cL_law 27 = .ok (.aload_n 0, 1) := by decide +kernel
theorem dL_law_28 : decode cL_law 28 = .ok (.iload_n 3, 1) := by decide +kernel
theorem dL_law_29 : decode cL_law 29 = .ok (.iaload, 1) := by decide +kernel
theorem dL_law_30 : decode cL_law 30 = .ok (.bipush 15, 2) := by decide +kernel
theorem dL_law_32 : decode cL_law 32 = .ok (.iand, 1) := by decide +kernel
theorem dL_law_33 : decode cL_law 33 = .ok (.tableswitch 572 0 14 #[75, 138, 161, 184, 259, 302, 345, 358, 391, 404, 427, 450, 483, 516, 549], 75) := by decide +kernel
theorem dL_law_108 : decode cL_law 108 = .ok (.aload_n 1, 1) := by decide +kernel
theorem dL_law_109 : decode cL_law 109 = .ok (.aload_n 0, 1) := by decide +kernel
theorem dL_law_110 : decode cL_law 110 = .ok (.iload_n 3, 1) := by decide +kernel
theorem dL_law_111 : decode cL_law 111 = .ok (.iconst 1, 1) := by decide +kernel
theorem dL_law_112 : decode cL_law 112 = .ok (.iadd, 1) := by decide +kernel
theorem dL_law_113 : decode cL_law 113 = .ok (.iaload, 1) := by decide +kernel
theorem dL_law_114 : decode cL_law 114 = .ok (.aload_n 0, 1) := by decide +kernel
theorem dL_law_115 : decode cL_law 115 = .ok (.iload_n 3, 1) := by decide +kernel
theorem dL_law_116 : decode cL_law 116 = .ok (.iconst 2, 1) := by decide +kernel
theorem dL_law_117 : decode cL_law 117 = .ok (.iadd, 1) := by decide +kernel
theorem dL_law_118 : decode cL_law 118 = .ok (.iaload, 1) := by decide +kernel
theorem dL_law_119 : decode cL_law 119 = .ok (.aload_n 0, 1) := by decide +kernel
theorem dL_law_120 : decode cL_law 120 = .ok (.iload_n 3, 1) := by decide +kernel
theorem dL_law_121 : decode cL_law 121 = .ok (.iconst 3, 1) := by decide +kernel
theorem dL_law_122 : decode cL_law 122 = .ok (.iadd, 1) := by decide +kernel
theorem dL_law_123 : decode cL_law 123 = .ok (.iaload, 1) := by decide +kernel
theorem dL_law_124 : decode cL_law 124 = .ok (.aload_n 0, 1) := by decide +kernel
theorem dL_law_125 : decode cL_law 125 = .ok (.iload_n 3, 1) := by decide +kernel
theorem dL_law_126 : decode cL_law 126 = .ok (.iconst 4, 1) := by decide +kernel
theorem dL_law_127 : decode cL_law 127 = .ok (.iadd, 1) := by decide +kernel
theorem dL_law_128 : decode cL_law 128 = .ok (.iaload, 1) := by decide +kernel
theorem dL_law_129 : decode cL_law 129 = .ok (.aload_n 0, 1) := by decide +kernel
theorem dL_law_130 : decode cL_law 130 = .ok (.iload_n 3, 1) := by decide +kernel
theorem dL_law_131 : decode cL_law 131 = .ok (.iconst 5, 1) := by decide +kernel
theorem dL_law_132 : decode cL_law 132 = .ok (.iadd, 1) := by decide +kernel
theorem dL_law_133 : decode cL_law 133 = .ok (.iaload, 1) := by decide +kernel
theorem dL_law_134 : decode cL_law 134 = .ok (.invokevirtual 13, 3) := by decide +kernel
theorem dL_law_137 : decode cL_law 137 = .ok (.aload_n 2, 1) := by decide +kernel
theorem dL_law_138 : decode cL_law 138 = .ok (.aload_n 0, 1) := by decide +kernel
theorem dL_law_139 : decode cL_law 139 = .ok (.iload_n 3, 1) := by decide +kernel
theorem dL_law_140 : decode cL_law 140 = .ok (.iconst 1, 1) := by decide +kernel
theorem dL_law_141 : decode cL_law 141 = .ok (.iadd, 1) := by decide +kernel
theorem dL_law_142 : decode cL_law 142 = .ok (.iaload, 1) := by decide +kernel
theorem dL_law_143 : decode cL_law 143 = .ok (.aload_n 0, 1) := by decide +kernel
theorem dL_law_144 : decode cL_law 144 = .ok (.iload_n 3, 1) := by decide +kernel
theorem dL_law_145 : decode cL_law 145 = .ok (.iconst 2, 1) := by decide +kernel
theorem dL_law_146 : decode cL_law 146 = .ok (.iadd, 1) := by decide +kernel
theorem dL_law_147 : decode cL_law 147 = .ok (.iaload, 1) := by decide +kernel
theorem dL_law_148 : decode cL_law 148 = .ok (.aload_n 0, 1) := by decide +kernel
theorem dL_law_149 : decode cL_law 149 = .ok (.iload_n 3, 1) := by decide +kernel
theorem dL_law_150 : decode cL_law 150 = .ok (.iconst 3, 1) := by decide +kernel
theorem dL_law_151 : decode cL_law 151 = .ok (.iadd, 1) := by decide +kernel
theorem dL_law_152 : decode cL_law 152 = .ok (.iaload, 1) := by decide +kernel
theorem dL_law_153 : decode cL_law 153 = .ok (.aload_n 0, 1) := by decide +kernel
theorem dL_law_154 : decode cL_law 154 = .ok (.iload_n 3, 1) := by decide +kernel
theorem dL_law_155 : decode cL_law 155 = .ok (.iconst 4, 1) := by decide +kernel
theorem dL_law_156 : decode cL_law 156 = .ok (.iadd, 1) := by decide +kernel
theorem dL_law_157 : decode cL_law 157 = .ok (.iaload, 1) := by decide +kernel
theorem dL_law_158 : decode cL_law 158 = .ok (.aload_n 0, 1) := by decide +kernel
theorem dL_law_159 : decode cL_law 159 = .ok (.iload_n 3, 1) := by decide +kernel
theorem dL_law_160 : decode cL_law 160 = .ok (.iconst 5, 1) := by decide +kernel
theorem dL_law_161 : decode cL_law 161 = .ok (.iadd, 1) := by decide +kernel
theorem dL_law_162 : decode cL_law 162 = .ok (.iaload, 1) := by decide +kernel
theorem dL_law_163 : decode cL_law 163 = .ok (.invokevirtual 17, 3) := by decide +kernel
theorem dL_law_166 : decode cL_law 166 = .ok (.if_icmp .eq 439, 3) := by decide +kernel
theorem dL_law_169 : decode cL_law 169 = .ok (.iconst 0, 1) := by decide +kernel
theorem dL_law_170 : decode cL_law 170 = .ok (.ireturn, 1) := by decide +kernel
theorem dL_law_171 : decode cL_law 171 = .ok (.aload_n 1, 1) := by decide +kernel
theorem dL_law_172 : decode cL_law 172 = .ok (.aload_n 0, 1) := by decide +kernel
theorem dL_law_173 : decode cL_law 173 = .ok (.iload_n 3, 1) := by decide +kernel
theorem dL_law_174 : decode cL_law 174 = .ok (.iconst 1, 1) := by decide +kernel
theorem dL_law_175 : decode cL_law 175 = .ok (.iadd, 1) := by decide +kernel
theorem dL_law_176 : decode cL_law 176 = .ok (.iaload, 1) := by decide +kernel
theorem dL_law_177 : decode cL_law 177 = .ok (.invokevirtual 18, 3) := by decide +kernel
theorem dL_law_180 : decode cL_law 180 = .ok (.aload_n 2, 1) := by decide +kernel
theorem dL_law_181 : decode cL_law 181 = .ok (.aload_n 0, 1) := by decide +kernel
theorem dL_law_182 : decode cL_law 182 = .ok (.iload_n 3, 1) := by decide +kernel
theorem dL_law_183 : decode cL_law 183 = .ok (.iconst 1, 1) := by decide +kernel
theorem dL_law_184 : decode cL_law 184 = .ok (.iadd, 1) := by decide +kernel
theorem dL_law_185 : decode cL_law 185 = .ok (.iaload, 1) := by decide +kernel
theorem dL_law_186 : decode cL_law 186 = .ok (.invokevirtual 22, 3) := by decide +kernel
theorem dL_law_189 : decode cL_law 189 = .ok (.if_icmp .eq 416, 3) := by decide +kernel
theorem dL_law_192 : decode cL_law 192 = .ok (.iconst 0, 1) := by decide +kernel
theorem dL_law_193 : decode cL_law 193 = .ok (.ireturn, 1) := by decide +kernel
theorem dL_law_194 : decode cL_law 194 = .ok (.aload_n 1, 1) := by decide +kernel
theorem dL_law_195 : decode cL_law 195 = .ok (.aload_n 0, 1) := by decide +kernel
theorem dL_law_196 : decode cL_law 196 = .ok (.iload_n 3, 1) := by decide +kernel
theorem dL_law_197 : decode cL_law 197 = .ok (.iconst 1, 1) := by decide +kernel
theorem dL_law_198 : decode cL_law 198 = .ok (.iadd, 1) := by decide +kernel
theorem dL_law_199 : decode cL_law 199 = .ok (.iaload, 1) := by decide +kernel
theorem dL_law_200 : decode cL_law 200 = .ok (.invokevirtual 23, 3) := by decide +kernel
theorem dL_law_203 : decode cL_law 203 = .ok (.aload_n 2, 1) := by decide +kernel
theorem dL_law_204 : decode cL_law 204 = .ok (.aload_n 0, 1) := by decide +kernel
theorem dL_law_205 : decode cL_law 205 = .ok (.iload_n 3, 1) := by decide +kernel
theorem dL_law_206 : decode cL_law 206 = .ok (.iconst 1, 1) := by decide +kernel
theorem dL_law_207 : decode cL_law 207 = .ok (.iadd, 1) := by decide +kernel
theorem dL_law_208 : decode cL_law 208 = .ok (.iaload, 1) := by decide +kernel
theorem dL_law_209 : decode cL_law 209 = .ok (.invokevirtual 26, 3) := by decide +kernel
theorem dL_law_212 : decode cL_law 212 = .ok (.if_icmp .eq 393, 3) := by decide +kernel
theorem dL_law_215 : decode cL_law 215 = .ok (.iconst 0, 1) := by decide +kernel
theorem dL_law_216 : decode cL_law 216 = .ok (.ireturn, 1) := by decide +kernel
theorem dL_law_217 : decode cL_law 217 = .ok (.aload_n 1, 1) := by decide +kernel
theorem dL_law_218 : decode cL_law 218 = .ok (.aload_n 0, 1) := by decide +kernel
theorem dL_law_219 : decode cL_law 219 = .ok (.iload_n 3, 1) := by decide +kernel
theorem dL_law_220 : decode cL_law 220 = .ok (.iconst 1, 1) := by decide +kernel
theorem dL_law_221 : decode cL_law 221 = .ok (.iadd, 1) := by decide +kernel
theorem dL_law_222 : decode cL_law 222 = .ok (.iaload, 1) := by decide +kernel
theorem dL_law_223 : decode cL_law 223 = .ok (.aload_n 0, 1) := by decide +kernel
theorem dL_law_224 : decode cL_law 224 = .ok (.iload_n 3, 1) := by decide +kernel
theorem dL_law_225 : decode cL_law 225 = .ok (.iconst 2, 1) := by decide +kernel
theorem dL_law_226 : decode cL_law 226 = .ok (.iadd, 1) := by decide +kernel
theorem dL_law_227 : decode cL_law 227 = .ok (.iaload, 1) := by decide +kernel
theorem dL_law_228 : decode cL_law 228 = .ok (.aload_n 0, 1) := by decide +kernel
theorem dL_law_229 : decode cL_law 229 = .ok (.iload_n 3, 1) := by decide +kernel
theorem dL_law_230 : decode cL_law 230 = .ok (.iconst 3, 1) := by decide +kernel
theorem dL_law_231 : decode cL_law 231 = .ok (.iadd, 1) := by decide +kernel
theorem dL_law_232 : decode cL_law 232 = .ok (.iaload, 1) := by decide +kernel
theorem dL_law_233 : decode cL_law 233 = .ok (.aload_n 0, 1) := by decide +kernel
theorem dL_law_234 : decode cL_law 234 = .ok (.iload_n 3, 1) := by decide +kernel
theorem dL_law_235 : decode cL_law 235 = .ok (.iconst 4, 1) := by decide +kernel
theorem dL_law_236 : decode cL_law 236 = .ok (.iadd, 1) := by decide +kernel
theorem dL_law_237 : decode cL_law 237 = .ok (.iaload, 1) := by decide +kernel
theorem dL_law_238 : decode cL_law 238 = .ok (.aload_n 0, 1) := by decide +kernel
theorem dL_law_239 : decode cL_law 239 = .ok (.iload_n 3, 1) := by decide +kernel
theorem dL_law_240 : decode cL_law 240 = .ok (.iconst 5, 1) := by decide +kernel
theorem dL_law_241 : decode cL_law 241 = .ok (.iadd, 1) := by decide +kernel
theorem dL_law_242 : decode cL_law 242 = .ok (.iaload, 1) := by decide +kernel
theorem dL_law_243 : decode cL_law 243 = .ok (.aload_n 0, 1) := by decide +kernel
theorem dL_law_244 : decode cL_law 244 = .ok (.iload_n 3, 1) := by decide +kernel
theorem dL_law_245 : decode cL_law 245 = .ok (.bipush 6, 2) := by decide +kernel
theorem dL_law_247 : decode cL_law 247 = .ok (.iadd, 1) := by decide +kernel
theorem dL_law_248 : decode cL_law 248 = .ok (.iaload, 1) := by decide +kernel
theorem dL_law_249 : decode cL_law 249 = .ok (.invokevirtual 27, 3) := by decide +kernel
theorem dL_law_252 : decode cL_law 252 = .ok (.aload_n 2, 1) := by decide +kernel
theorem dL_law_253 : decode cL_law 253 = .ok (.aload_n 0, 1) := by decide +kernel
theorem dL_law_254 : decode cL_law 254 = .ok (.iload_n 3, 1) := by decide +kernel
theorem dL_law_255 : decode cL_law 255 = .ok (.iconst 1, 1) := by decide +kernel
theorem dL_law_256 : decode cL_law 256 = .ok (.iadd, 1) := by decide +kernel
theorem dL_law_257 : decode cL_law 257 = .ok (.iaload, 1) := by decide +kernel
theorem dL_law_258 : decode cL_law 258 = .ok (.aload_n 0, 1) := by decide +kernel
theorem dL_law_259 : decode cL_law 259 = .ok (.iload_n 3, 1) := by decide +kernel
theorem dL_law_260 : decode cL_law 260 = .ok (.iconst 2, 1) := by decide +kernel
theorem dL_law_261 : decode cL_law 261 = .ok (.iadd, 1) := by decide +kernel
theorem dL_law_262 : decode cL_law 262 = .ok (.iaload, 1) := by decide +kernel
theorem dL_law_263 : decode cL_law 263 = .ok (.aload_n 0, 1) := by decide +kernel
theorem dL_law_264 : decode cL_law 264 = .ok (.iload_n 3, 1) := by decide +kernel
theorem dL_law_265 : decode cL_law 265 = .ok (.iconst 3, 1) := by decide +kernel
theorem dL_law_266 : decode cL_law 266 = .ok (.iadd, 1) := by decide +kernel
theorem dL_law_267 : decode cL_law 267 = .ok (.iaload, 1) := by decide +kernel
theorem dL_law_268 : decode cL_law 268 = .ok (.aload_n 0, 1) := by decide +kernel
theorem dL_law_269 : decode cL_law 269 = .ok (.iload_n 3, 1) := by decide +kernel
theorem dL_law_270 : decode cL_law 270 = .ok (.iconst 4, 1) := by decide +kernel
theorem dL_law_271 : decode cL_law 271 = .ok (.iadd, 1) := by decide +kernel
theorem dL_law_272 : decode cL_law 272 = .ok (.iaload, 1) := by decide +kernel
theorem dL_law_273 : decode cL_law 273 = .ok (.aload_n 0, 1) := by decide +kernel
theorem dL_law_274 : decode cL_law 274 = .ok (.iload_n 3, 1) := by decide +kernel
theorem dL_law_275 : decode cL_law 275 = .ok (.iconst 5, 1) := by decide +kernel
theorem dL_law_276 : decode cL_law 276 = .ok (.iadd, 1) := by decide +kernel
theorem dL_law_277 : decode cL_law 277 = .ok (.iaload, 1) := by decide +kernel
theorem dL_law_278 : decode cL_law 278 = .ok (.aload_n 0, 1) := by decide +kernel
theorem dL_law_279 : decode cL_law 279 = .ok (.iload_n 3, 1) := by decide +kernel
theorem dL_law_280 : decode cL_law 280 = .ok (.bipush 6, 2) := by decide +kernel
theorem dL_law_282 : decode cL_law 282 = .ok (.iadd, 1) := by decide +kernel
theorem dL_law_283 : decode cL_law 283 = .ok (.iaload, 1) := by decide +kernel
theorem dL_law_284 : decode cL_law 284 = .ok (.invokevirtual 31, 3) := by decide +kernel
theorem dL_law_287 : decode cL_law 287 = .ok (.if_icmp .eq 318, 3) := by decide +kernel
theorem dL_law_290 : decode cL_law 290 = .ok (.iconst 0, 1) := by decide +kernel
theorem dL_law_291 : decode cL_law 291 = .ok (.ireturn, 1) := by decide +kernel
theorem dL_law_292 : decode cL_law 292 = .ok (.aload_n 1, 1) := by decide +kernel
theorem dL_law_293 : decode cL_law 293 = .ok (.aload_n 0, 1) := by decide +kernel
theorem dL_law_294 : decode cL_law 294 = .ok (.iload_n 3, 1) := by decide +kernel
theorem dL_law_295 : decode cL_law 295 = .ok (.iconst 1, 1) := by decide +kernel
theorem dL_law_296 : decode cL_law 296 = .ok (.iadd, 1) := by decide +kernel
theorem dL_law_297 : decode cL_law 297 = .ok (.iaload, 1) := by decide +kernel
theorem dL_law_298 : decode cL_law 298 = .ok (.aload_n 0, 1) := by decide +kernel
theorem dL_law_299 : decode cL_law 299 = .ok (.iload_n 3, 1) := by decide +kernel
theorem dL_law_300 : decode cL_law 300 = .ok (.iconst 2, 1) := by decide +kernel
theorem dL_law_301 : decode cL_law 301 = .ok (.iadd, 1) := by decide +kernel
theorem dL_law_302 : decode cL_law 302 = .ok (.iaload, 1) := by decide +kernel
theorem dL_law_303 : decode cL_law 303 = .ok (.aload_n 0, 1) := by decide +kernel
theorem dL_law_304 : decode cL_law 304 = .ok (.iload_n 3, 1) := by decide +kernel
theorem dL_law_305 : decode cL_law 305 = .ok (.iconst 3, 1) := by decide +kernel
theorem dL_law_306 : decode cL_law 306 = .ok (.iadd, 1) := by decide +kernel
theorem dL_law_307 : decode cL_law 307 = .ok (.iaload, 1) := by decide +kernel
theorem dL_law_308 : decode cL_law 308 = .ok (.invokevirtual 32, 3) := by decide +kernel
theorem dL_law_311 : decode cL_law 311 = .ok (.aload_n 2, 1) := by decide +kernel
theorem dL_law_312 : decode cL_law 312 = .ok (.aload_n 0, 1) := by decide +kernel
theorem dL_law_313 : decode cL_law 313 = .ok (.iload_n 3, 1) := by decide +kernel
theorem dL_law_314 : decode cL_law 314 = .ok (.iconst 1, 1) := by decide +kernel
theorem dL_law_315 : decode cL_law 315 = .ok (.iadd, 1) := by decide +kernel
theorem dL_law_316 : decode cL_law 316 = .ok (.iaload, 1) := by decide +kernel
theorem dL_law_317 : decode cL_law 317 = .ok (.aload_n 0, 1) := by decide +kernel
theorem dL_law_318 : decode cL_law 318 = .ok (.iload_n 3, 1) := by decide +kernel
theorem dL_law_319 : decode cL_law 319 = .ok (.iconst 2, 1) := by decide +kernel
theorem dL_law_320 : decode cL_law 320 = .ok (.iadd, 1) := by decide +kernel
theorem dL_law_321 : decode cL_law 321 = .ok (.iaload, 1) := by decide +kernel
theorem dL_law_322 : decode cL_law 322 = .ok (.aload_n 0, 1) := by decide +kernel
theorem dL_law_323 : decode cL_law 323 = .ok (.iload_n 3, 1) := by decide +kernel
theorem dL_law_324 : decode cL_law 324 = .ok (.iconst 3, 1) := by decide +kernel
theorem dL_law_325 : decode cL_law 325 = .ok (.iadd, 1) := by decide +kernel
theorem dL_law_326 : decode cL_law 326 = .ok (.iaload, 1) := by decide +kernel
theorem dL_law_327 : decode cL_law 327 = .ok (.invokevirtual 36, 3) := by decide +kernel
theorem dL_law_330 : decode cL_law 330 = .ok (.if_icmp .eq 275, 3) := by decide +kernel
theorem dL_law_333 : decode cL_law 333 = .ok (.iconst 0, 1) := by decide +kernel
theorem dL_law_334 : decode cL_law 334 = .ok (.ireturn, 1) := by decide +kernel
theorem dL_law_335 : decode cL_law 335 = .ok (.aload_n 1, 1) := by decide +kernel
theorem dL_law_336 : decode cL_law 336 = .ok (.aload_n 0, 1) := by decide +kernel
theorem dL_law_337 : decode cL_law 337 = .ok (.iload_n 3, 1) := by decide +kernel
theorem dL_law_338 : decode cL_law 338 = .ok (.iconst 1, 1) := by decide +kernel
theorem dL_law_339 : decode cL_law 339 = .ok (.iadd, 1) := by decide +kernel
theorem dL_law_340 : decode cL_law 340 = .ok (.iaload, 1) := by decide +kernel
theorem dL_law_341 : decode cL_law 341 = .ok (.aload_n 0, 1) := by decide +kernel
theorem dL_law_342 : decode cL_law 342 = .ok (.iload_n 3, 1) := by decide +kernel
theorem dL_law_343 : decode cL_law 343 = .ok (.iconst 2, 1) := by decide +kernel
theorem dL_law_344 : decode cL_law 344 = .ok (.iadd, 1) := by decide +kernel
theorem dL_law_345 : decode cL_law 345 = .ok (.iaload, 1) := by decide +kernel
theorem dL_law_346 : decode cL_law 346 = .ok (.aload_n 0, 1) := by decide +kernel
theorem dL_law_347 : decode cL_law 347 = .ok (.iload_n 3, 1) := by decide +kernel
theorem dL_law_348 : decode cL_law 348 = .ok (.iconst 3, 1) := by decide +kernel
theorem dL_law_349 : decode cL_law 349 = .ok (.iadd, 1) := by decide +kernel
theorem dL_law_350 : decode cL_law 350 = .ok (.iaload, 1) := by decide +kernel
theorem dL_law_351 : decode cL_law 351 = .ok (.invokevirtual 37, 3) := by decide +kernel
theorem dL_law_354 : decode cL_law 354 = .ok (.aload_n 2, 1) := by decide +kernel
theorem dL_law_355 : decode cL_law 355 = .ok (.aload_n 0, 1) := by decide +kernel
theorem dL_law_356 : decode cL_law 356 = .ok (.iload_n 3, 1) := by decide +kernel
theorem dL_law_357 : decode cL_law 357 = .ok (.iconst 1, 1) := by decide +kernel
theorem dL_law_358 : decode cL_law 358 = .ok (.iadd, 1) := by decide +kernel
theorem dL_law_359 : decode cL_law 359 = .ok (.iaload, 1) := by decide +kernel
theorem dL_law_360 : decode cL_law 360 = .ok (.aload_n 0, 1) := by decide +kernel
theorem dL_law_361 : decode cL_law 361 = .ok (.iload_n 3, 1) := by decide +kernel
theorem dL_law_362 : decode cL_law 362 = .ok (.iconst 2, 1) := by decide +kernel
theorem dL_law_363 : decode cL_law 363 = .ok (.iadd, 1) := by decide +kernel
theorem dL_law_364 : decode cL_law 364 = .ok (.iaload, 1) := by decide +kernel
theorem dL_law_365 : decode cL_law 365 = .ok (.aload_n 0, 1) := by decide +kernel
theorem dL_law_366 : decode cL_law 366 = .ok (.iload_n 3, 1) := by decide +kernel
theorem dL_law_367 : decode cL_law 367 = .ok (.iconst 3, 1) := by decide +kernel
theorem dL_law_368 : decode cL_law 368 = .ok (.iadd, 1) := by decide +kernel
theorem dL_law_369 : decode cL_law 369 = .ok (.iaload, 1) := by decide +kernel
theorem dL_law_370 : decode cL_law 370 = .ok (.invokevirtual 40, 3) := by decide +kernel
theorem dL_law_373 : decode cL_law 373 = .ok (.if_icmp .eq 232, 3) := by decide +kernel
theorem dL_law_376 : decode cL_law 376 = .ok (.iconst 0, 1) := by decide +kernel
theorem dL_law_377 : decode cL_law 377 = .ok (.ireturn, 1) := by decide +kernel
theorem dL_law_378 : decode cL_law 378 = .ok (.aload_n 1, 1) := by decide +kernel
theorem dL_law_379 : decode cL_law 379 = .ok (.invokevirtual 41, 3) := by decide +kernel
theorem dL_law_382 : decode cL_law 382 = .ok (.aload_n 2, 1) := by decide +kernel
theorem dL_law_383 : decode cL_law 383 = .ok (.invokevirtual 45, 3) := by decide +kernel
theorem dL_law_386 : decode cL_law 386 = .ok (.if_icmp .eq 219, 3) := by decide +kernel
theorem dL_law_389 : decode cL_law 389 = .ok (.iconst 0, 1) := by decide +kernel
theorem dL_law_390 : decode cL_law 390 = .ok (.ireturn, 1) := by decide +kernel
theorem dL_law_391 : decode cL_law 391 = .ok (.aload_n 1, 1) := by decide +kernel
theorem dL_law_392 : decode cL_law 392 = .ok (.aload_n 0, 1) := by decide +kernel
theorem dL_law_393 : decode cL_law 393 = .ok (.iload_n 3, 1) := by decide +kernel
theorem dL_law_394 : decode cL_law 394 = .ok (.iconst 1, 1) := by decide +kernel
theorem dL_law_395 : decode cL_law 395 = .ok (.iadd, 1) := by decide +kernel
theorem dL_law_396 : decode cL_law 396 = .ok (.iaload, 1) := by decide +kernel
theorem dL_law_397 : decode cL_law 397 = .ok (.aload_n 0, 1) := by decide +kernel
theorem dL_law_398 : decode cL_law 398 = .ok (.iload_n 3, 1) := by decide +kernel
theorem dL_law_399 : decode cL_law 399 = .ok (.iconst 2, 1) := by decide +kernel
theorem dL_law_400 : decode cL_law 400 = .ok (.iadd, 1) := by decide +kernel
theorem dL_law_401 : decode cL_law 401 = .ok (.iaload, 1) := by decide +kernel
theorem dL_law_402 : decode cL_law 402 = .ok (.invokevirtual 46, 3) := by decide +kernel
theorem dL_law_405 : decode cL_law 405 = .ok (.aload_n 2, 1) := by decide +kernel
theorem dL_law_406 : decode cL_law 406 = .ok (.aload_n 0, 1) := by decide +kernel
theorem dL_law_407 : decode cL_law 407 = .ok (.iload_n 3, 1) := by decide +kernel
theorem dL_law_408 : decode cL_law 408 = .ok (.iconst 1, 1) := by decide +kernel
theorem dL_law_409 : decode cL_law 409 = .ok (.iadd, 1) := by decide +kernel
theorem dL_law_410 : decode cL_law 410 = .ok (.iaload, 1) := by decide +kernel
theorem dL_law_411 : decode cL_law 411 = .ok (.aload_n 0, 1) := by decide +kernel
theorem dL_law_412 : decode cL_law 412 = .ok (.iload_n 3, 1) := by decide +kernel
theorem dL_law_413 : decode cL_law 413 = .ok (.iconst 2, 1) := by decide +kernel
theorem dL_law_414 : decode cL_law 414 = .ok (.iadd, 1) := by decide +kernel
theorem dL_law_415 : decode cL_law 415 = .ok (.iaload, 1) := by decide +kernel
theorem dL_law_416 : decode cL_law 416 = .ok (.invokevirtual 50, 3) := by decide +kernel
theorem dL_law_419 : decode cL_law 419 = .ok (.if_icmp .eq 186, 3) := by decide +kernel
theorem dL_law_422 : decode cL_law 422 = .ok (.iconst 0, 1) := by decide +kernel
theorem dL_law_423 : decode cL_law 423 = .ok (.ireturn, 1) := by decide +kernel
theorem dL_law_424 : decode cL_law 424 = .ok (.aload_n 1, 1) := by decide +kernel
theorem dL_law_425 : decode cL_law 425 = .ok (.invokevirtual 51, 3) := by decide +kernel
theorem dL_law_428 : decode cL_law 428 = .ok (.aload_n 2, 1) := by decide +kernel
theorem dL_law_429 : decode cL_law 429 = .ok (.invokevirtual 55, 3) := by decide +kernel
theorem dL_law_432 : decode cL_law 432 = .ok (.if_icmp .eq 173, 3) := by decide +kernel
theorem dL_law_435 : decode cL_law 435 = .ok (.iconst 0, 1) := by decide +kernel
theorem dL_law_436 : decode cL_law 436 = .ok (.ireturn, 1) := by decide +kernel
theorem dL_law_437 : decode cL_law 437 = .ok (.aload_n 1, 1) := by decide +kernel
theorem dL_law_438 : decode cL_law 438 = .ok (.aload_n 0, 1) := by decide +kernel
theorem dL_law_439 : decode cL_law 439 = .ok (.iload_n 3, 1) := by decide +kernel
theorem dL_law_440 : decode cL_law 440 = .ok (.iconst 1, 1) := by decide +kernel
theorem dL_law_441 : decode cL_law 441 = .ok (.iadd, 1) := by decide +kernel
theorem dL_law_442 : decode cL_law 442 = .ok (.iaload, 1) := by decide +kernel
theorem dL_law_443 : decode cL_law 443 = .ok (.invokevirtual 56, 3) := by decide +kernel
theorem dL_law_446 : decode cL_law 446 = .ok (.aload_n 2, 1) := by decide +kernel
theorem dL_law_447 : decode cL_law 447 = .ok (.aload_n 0, 1) := by decide +kernel
theorem dL_law_448 : decode cL_law 448 = .ok (.iload_n 3, 1) := by decide +kernel
theorem dL_law_449 : decode cL_law 449 = .ok (.iconst 1, 1) := by decide +kernel
theorem dL_law_450 : decode cL_law 450 = .ok (.iadd, 1) := by decide +kernel
theorem dL_law_451 : decode cL_law 451 = .ok (.iaload, 1) := by decide +kernel
theorem dL_law_452 : decode cL_law 452 = .ok (.invokevirtual 60, 3) := by decide +kernel
theorem dL_law_455 : decode cL_law 455 = .ok (.if_icmp .eq 150, 3) := by decide +kernel
theorem dL_law_458 : decode cL_law 458 = .ok (.iconst 0, 1) := by decide +kernel
theorem dL_law_459 : decode cL_law 459 = .ok (.ireturn, 1) := by decide +kernel
theorem dL_law_460 : decode cL_law 460 = .ok (.aload_n 1, 1) := by decide +kernel
theorem dL_law_461 : decode cL_law 461 = .ok (.aload_n 0, 1) := by decide +kernel
theorem dL_law_462 : decode cL_law 462 = .ok (.iload_n 3, 1) := by decide +kernel
theorem dL_law_463 : decode cL_law 463 = .ok (.iconst 1, 1) := by decide +kernel
theorem dL_law_464 : decode cL_law 464 = .ok (.iadd, 1) := by decide +kernel
theorem dL_law_465 : decode cL_law 465 = .ok (.iaload, 1) := by decide +kernel
theorem dL_law_466 : decode cL_law 466 = .ok (.invokevirtual 61, 3) := by decide +kernel
theorem dL_law_469 : decode cL_law 469 = .ok (.aload_n 2, 1) := by decide +kernel
theorem dL_law_470 : decode cL_law 470 = .ok (.aload_n 0, 1) := by decide +kernel
theorem dL_law_471 : decode cL_law 471 = .ok (.iload_n 3, 1) := by decide +kernel
theorem dL_law_472 : decode cL_law 472 = .ok (.iconst 1, 1) := by decide +kernel
theorem dL_law_473 : decode cL_law 473 = .ok (.iadd, 1) := by decide +kernel
theorem dL_law_474 : decode cL_law 474 = .ok (.iaload, 1) := by decide +kernel
theorem dL_law_475 : decode cL_law 475 = .ok (.invokevirtual 64, 3) := by decide +kernel
theorem dL_law_478 : decode cL_law 478 = .ok (.if_icmp .eq 127, 3) := by decide +kernel
theorem dL_law_481 : decode cL_law 481 = .ok (.iconst 0, 1) := by decide +kernel
theorem dL_law_482 : decode cL_law 482 = .ok (.ireturn, 1) := by decide +kernel
theorem dL_law_483 : decode cL_law 483 = .ok (.aload_n 1, 1) := by decide +kernel
theorem dL_law_484 : decode cL_law 484 = .ok (.aload_n 0, 1) := by decide +kernel
theorem dL_law_485 : decode cL_law 485 = .ok (.iload_n 3, 1) := by decide +kernel
theorem dL_law_486 : decode cL_law 486 = .ok (.iconst 1, 1) := by decide +kernel
theorem dL_law_487 : decode cL_law 487 = .ok (.iadd, 1) := by decide +kernel
theorem dL_law_488 : decode cL_law 488 = .ok (.iaload, 1) := by decide +kernel
theorem dL_law_489 : decode cL_law 489 = .ok (.aload_n 0, 1) := by decide +kernel
theorem dL_law_490 : decode cL_law 490 = .ok (.iload_n 3, 1) := by decide +kernel
theorem dL_law_491 : decode cL_law 491 = .ok (.iconst 2, 1) := by decide +kernel
theorem dL_law_492 : decode cL_law 492 = .ok (.iadd, 1) := by decide +kernel
theorem dL_law_493 : decode cL_law 493 = .ok (.iaload, 1) := by decide +kernel
theorem dL_law_494 : decode cL_law 494 = .ok (.invokevirtual 65, 3) := by decide +kernel
theorem dL_law_497 : decode cL_law 497 = .ok (.aload_n 2, 1) := by decide +kernel
theorem dL_law_498 : decode cL_law 498 = .ok (.aload_n 0, 1) := by decide +kernel
theorem dL_law_499 : decode cL_law 499 = .ok (.iload_n 3, 1) := by decide +kernel
theorem dL_law_500 : decode cL_law 500 = .ok (.iconst 1, 1) := by decide +kernel
theorem dL_law_501 : decode cL_law 501 = .ok (.iadd, 1) := by decide +kernel
theorem dL_law_502 : decode cL_law 502 = .ok (.iaload, 1) := by decide +kernel
theorem dL_law_503 : decode cL_law 503 = .ok (.aload_n 0, 1) := by decide +kernel
theorem dL_law_504 : decode cL_law 504 = .ok (.iload_n 3, 1) := by decide +kernel
theorem dL_law_505 : decode cL_law 505 = .ok (.iconst 2, 1) := by decide +kernel
theorem dL_law_506 : decode cL_law 506 = .ok (.iadd, 1) := by decide +kernel
theorem dL_law_507 : decode cL_law 507 = .ok (.iaload, 1) := by decide +kernel
theorem dL_law_508 : decode cL_law 508 = .ok (.invokevirtual 68, 3) := by decide +kernel
theorem dL_law_511 : decode cL_law 511 = .ok (.if_icmp .eq 94, 3) := by decide +kernel
theorem dL_law_514 : decode cL_law 514 = .ok (.iconst 0, 1) := by decide +kernel
theorem dL_law_515 : decode cL_law 515 = .ok (.ireturn, 1) := by decide +kernel
theorem dL_law_516 : decode cL_law 516 = .ok (.aload_n 1, 1) := by decide +kernel
theorem dL_law_517 : decode cL_law 517 = .ok (.aload_n 0, 1) := by decide +kernel
theorem dL_law_518 : decode cL_law 518 = .ok (.iload_n 3, 1) := by decide +kernel
theorem dL_law_519 : decode cL_law 519 = .ok (.iconst 1, 1) := by decide +kernel
theorem dL_law_520 : decode cL_law 520 = .ok (.iadd, 1) := by decide +kernel
theorem dL_law_521 : decode cL_law 521 = .ok (.iaload, 1) := by decide +kernel
theorem dL_law_522 : decode cL_law 522 = .ok (.aload_n 0, 1) := by decide +kernel
theorem dL_law_523 : decode cL_law 523 = .ok (.iload_n 3, 1) := by decide +kernel
theorem dL_law_524 : decode cL_law 524 = .ok (.iconst 2, 1) := by decide +kernel
theorem dL_law_525 : decode cL_law 525 = .ok (.iadd, 1) := by decide +kernel
theorem dL_law_526 : decode cL_law 526 = .ok (.iaload, 1) := by decide +kernel
theorem dL_law_527 : decode cL_law 527 = .ok (.invokevirtual 69, 3) := by decide +kernel
theorem dL_law_530 : decode cL_law 530 = .ok (.aload_n 2, 1) := by decide +kernel
theorem dL_law_531 : decode cL_law 531 = .ok (.aload_n 0, 1) := by decide +kernel
theorem dL_law_532 : decode cL_law 532 = .ok (.iload_n 3, 1) := by decide +kernel
theorem dL_law_533 : decode cL_law 533 = .ok (.iconst 1, 1) := by decide +kernel
theorem dL_law_534 : decode cL_law 534 = .ok (.iadd, 1) := by decide +kernel
theorem dL_law_535 : decode cL_law 535 = .ok (.iaload, 1) := by decide +kernel
theorem dL_law_536 : decode cL_law 536 = .ok (.aload_n 0, 1) := by decide +kernel
theorem dL_law_537 : decode cL_law 537 = .ok (.iload_n 3, 1) := by decide +kernel
theorem dL_law_538 : decode cL_law 538 = .ok (.iconst 2, 1) := by decide +kernel
theorem dL_law_539 : decode cL_law 539 = .ok (.iadd, 1) := by decide +kernel
theorem dL_law_540 : decode cL_law 540 = .ok (.iaload, 1) := by decide +kernel
theorem dL_law_541 : decode cL_law 541 = .ok (.invokevirtual 72, 3) := by decide +kernel
theorem dL_law_544 : decode cL_law 544 = .ok (.if_icmp .eq 61, 3) := by decide +kernel
theorem dL_law_547 : decode cL_law 547 = .ok (.iconst 0, 1) := by decide +kernel
theorem dL_law_548 : decode cL_law 548 = .ok (.ireturn, 1) := by decide +kernel
theorem dL_law_549 : decode cL_law 549 = .ok (.aload_n 1, 1) := by decide +kernel
theorem dL_law_550 : decode cL_law 550 = .ok (.aload_n 0, 1) := by decide +kernel
theorem dL_law_551 : decode cL_law 551 = .ok (.iload_n 3, 1) := by decide +kernel
theorem dL_law_552 : decode cL_law 552 = .ok (.iconst 1, 1) := by decide +kernel
theorem dL_law_553 : decode cL_law 553 = .ok (.iadd, 1) := by decide +kernel
theorem dL_law_554 : decode cL_law 554 = .ok (.iaload, 1) := by decide +kernel
theorem dL_law_555 : decode cL_law 555 = .ok (.aload_n 0, 1) := by decide +kernel
theorem dL_law_556 : decode cL_law 556 = .ok (.iload_n 3, 1) := by decide +kernel
theorem dL_law_557 : decode cL_law 557 = .ok (.iconst 2, 1) := by decide +kernel
theorem dL_law_558 : decode cL_law 558 = .ok (.iadd, 1) := by decide +kernel
theorem dL_law_559 : decode cL_law 559 = .ok (.iaload, 1) := by decide +kernel
theorem dL_law_560 : decode cL_law 560 = .ok (.invokevirtual 73, 3) := by decide +kernel
theorem dL_law_563 : decode cL_law 563 = .ok (.aload_n 2, 1) := by decide +kernel
theorem dL_law_564 : decode cL_law 564 = .ok (.aload_n 0, 1) := by decide +kernel
theorem dL_law_565 : decode cL_law 565 = .ok (.iload_n 3, 1) := by decide +kernel
theorem dL_law_566 : decode cL_law 566 = .ok (.iconst 1, 1) := by decide +kernel
theorem dL_law_567 : decode cL_law 567 = .ok (.iadd, 1) := by decide +kernel
theorem dL_law_568 : decode cL_law 568 = .ok (.iaload, 1) := by decide +kernel
theorem dL_law_569 : decode cL_law 569 = .ok (.aload_n 0, 1) := by decide +kernel
theorem dL_law_570 : decode cL_law 570 = .ok (.iload_n 3, 1) := by decide +kernel
theorem dL_law_571 : decode cL_law 571 = .ok (.iconst 2, 1) := by decide +kernel
theorem dL_law_572 : decode cL_law 572 = .ok (.iadd, 1) := by decide +kernel
theorem dL_law_573 : decode cL_law 573 = .ok (.iaload, 1) := by decide +kernel
theorem dL_law_574 : decode cL_law 574 = .ok (.invokevirtual 76, 3) := by decide +kernel
theorem dL_law_577 : decode cL_law 577 = .ok (.if_icmp .eq 28, 3) := by decide +kernel
theorem dL_law_580 : decode cL_law 580 = .ok (.iconst 0, 1) := by decide +kernel
theorem dL_law_581 : decode cL_law 581 = .ok (.ireturn, 1) := by decide +kernel
theorem dL_law_582 : decode cL_law 582 = .ok (.aload_n 1, 1) := by decide +kernel
theorem dL_law_583 : decode cL_law 583 = .ok (.aload_n 0, 1) := by decide +kernel
theorem dL_law_584 : decode cL_law 584 = .ok (.iload_n 3, 1) := by decide +kernel
theorem dL_law_585 : decode cL_law 585 = .ok (.iconst 1, 1) := by decide +kernel
theorem dL_law_586 : decode cL_law 586 = .ok (.iadd, 1) := by decide +kernel
theorem dL_law_587 : decode cL_law 587 = .ok (.iaload, 1) := by decide +kernel
theorem dL_law_588 : decode cL_law 588 = .ok (.invokevirtual 77, 3) := by decide +kernel
theorem dL_law_591 : decode cL_law 591 = .ok (.aload_n 2, 1) := by decide +kernel
theorem dL_law_592 : decode cL_law 592 = .ok (.aload_n 0, 1) := by decide +kernel
theorem dL_law_593 : decode cL_law 593 = .ok (.iload_n 3, 1) := by decide +kernel
theorem dL_law_594 : decode cL_law 594 = .ok (.iconst 1, 1) := by decide +kernel
theorem dL_law_595 : decode cL_law 595 = .ok (.iadd, 1) := by decide +kernel
theorem dL_law_596 : decode cL_law 596 = .ok (.iaload, 1) := by decide +kernel
theorem dL_law_597 : decode cL_law 597 = .ok (.invokevirtual 80, 3) := by decide +kernel
theorem dL_law_600 : decode cL_law 600 = .ok (.if_icmp .eq 5, 3) := by decide +kernel
theorem dL_law_603 : decode cL_law 603 = .ok (.iconst 0, 1) := by decide +kernel
theorem dL_law_604 : decode cL_law 604 = .ok (.ireturn, 1) := by decide +kernel
theorem dL_law_605 : decode cL_law 605 = .ok (.iinc 3 7, 3) := by decide +kernel
theorem dL_law_608 : decode cL_law 608 = .ok (.goto (-590), 3) := by decide +kernel
theorem dL_law_611 : decode cL_law 611 = .ok (.iconst 1, 1) := by decide +kernel
theorem dL_law_612 : decode cL_law 612 = .ok (.ireturn, 1) := by decide +kernel
