theorem dX9_customs_152 : decode cX9_customs 152 = .ok (.bipush 6, 2) := by decide +kernel
theorem dX9_customs_154 : decode cX9_customs 154 = .ok (.iload_n 2, 1) := by decide +kernel
theorem dX9_customs_155 : decode cX9_customs 155 = .ok (.iadd, 1) := by decide +kernel
theorem dX9_customs_156 : decode cX9_customs 156 = .ok (.iaload, 1) := by decide +kernel
theorem dX9_customs_157 : decode cX9_customs 157 = .ok (.iastore, 1) := by decide +kernel
theorem dX9_customs_158 : decode cX9_customs 158 = .ok (.iinc 2 1, 3) := by decide +kernel
theorem dX9_customs_161 : decode cX9_customs 161 = .ok (.goto (-24), 3) := by decide +kernel
theorem dX9_customs_164 : decode cX9_customs 164 = .ok (.aload_n 0, 1) := by decide +kernel
theorem dX9_customs_165 : decode cX9_customs 165 = .ok (.getfield 157, 3) := by decide +kernel
theorem dX9_customs_168 : decode cX9_customs 168 = .ok (.ireturn, 1) := by decide +kernel
theorem dX9_fault_0 : decode cX9_fault 0 = .ok (.aload_n 0, 1) := by decide +kernel
theorem dX9_fault_1 : decode cX9_fault 1 = .ok (.iconst 0, 1) := by decide +kernel
theorem dX9_fault_2 : decode cX9_fault 2 = .ok (.putfield 95, 3) := by decide +kernel
theorem dX9_fault_5 : decode cX9_fault 5 = .ok (.iload_n 1, 1) := by decide +kernel
theorem dX9_fault_6 : decode cX9_fault 6 = .ok (.ifCond .ne 10, 3) := by decide +kernel
theorem dX9_fault_9 : decode cX9_fault 9 = .ok (.aload_n 0, 1) := by decide +kernel
theorem dX9_fault_10 : decode cX9_fault 10 = .ok (.getfield 163, 3) := by decide +kernel
theorem dX9_fault_13 : decode cX9_fault 13 = .ok (.goto 16, 3) := by decide +kernel
theorem dX9_fault_16 : decode cX9_fault 16 = .ok (.iload_n 1, 1) := by decide +kernel
theorem dX9_fault_17 : decode cX9_fault 17 = .ok (.iconst 1, 1) := by decide +kernel
theorem dX9_fault_18 : decode cX9_fault 18 = .ok (.if_icmp .ne 10, 3) := by decide +kernel
theorem dX9_fault_21 : decode cX9_fault 21 = .ok (.aload_n 0, 1) := by decide +kernel
theorem dX9_fault_22 : decode cX9_fault 22 = .ok (.getfield 25, 3) := by decide +kernel
theorem dX9_fault_25 : decode cX9_fault 25 = .ok (.goto 4, 3) := by decide +kernel
theorem dX9_fault_28 : decode cX9_fault 28 = .ok (.iconst (-1), 1) := by decide +kernel
theorem dX9_fault_29 : decode cX9_fault 29 = .ok (.ireturn, 1) := by decide +kernel
theorem dX9_isFarm_0 : decode cX9_isFarm 0 = .ok (.iload_n 1, 1) := by decide +kernel
theorem dX9_isFarm_1 : decode cX9_isFarm 1 = .ok (.iconst 1, 1) := by decide +kernel
theorem dX9_isFarm_2 : decode cX9_isFarm 2 = .ok (.if_icmp .lt 15, 3) := by decide +kernel
theorem dX9_isFarm_5 : decode cX9_isFarm 5 = .ok (.iload_n 1, 1) := by decide +kernel
theorem dX9_isFarm_6 : decode cX9_isFarm 6 = .ok (.aload_n 0, 1) := by decide +kernel
theorem dX9_isFarm_7 : decode cX9_isFarm 7 = .ok (.getfield 166, 3) := by decide +kernel
theorem dX9_isFarm_10 : decode cX9_isFarm 10 = .ok (.if_icmp .gt 7, 3) := by decide +kernel
theorem dX9_isFarm_13 : decode cX9_isFarm 13 = .ok (.iconst 1, 1) := by decide +kernel
theorem dX9_isFarm_14 : decode cX9_isFarm 14 = .ok (.goto 4, 3) := by decide +kernel
theorem dX9_isFarm_17 : decode cX9_isFarm 17 = .ok (.iconst 0, 1) := by decide +kernel
theorem dX9_isFarm_18 : decode cX9_isFarm 18 = .ok (.ireturn, 1) := by decide +kernel
theorem dX9_isTwelve_0 : decode cX9_isTwelve 0 = .ok (.iload_n 0, 1) := by decide +kernel
theorem dX9_isTwelve_1 : decode cX9_isTwelve 1 = .ok (.ifCond .lt 13, 3) := by decide +kernel
theorem dX9_isTwelve_4 : decode cX9_isTwelve 4 = .ok (.iload_n 0, 1) := by decide +kernel
theorem dX9_isTwelve_5 : decode cX9_isTwelve 5 = .ok (.bipush 12, 2) := by decide +kernel
theorem dX9_isTwelve_7 : decode cX9_isTwelve 7 = .ok (.if_icmp .gt 7, 3) := by decide +kernel
theorem dX9_isTwelve_10 : decode cX9_isTwelve 10 = .ok (.iconst 1, 1) := by decide +kernel
theorem dX9_isTwelve_11 : decode cX9_isTwelve 11 = .ok (.goto 4, 3) := by decide +kernel
theorem dX9_isTwelve_14 : decode cX9_isTwelve 14 = .ok (.iconst 0, 1) := by decide +kernel
theorem dX9_isTwelve_15 : decode cX9_isTwelve 15 = .ok (.ireturn, 1) := by decide +kernel
theorem dX9_farm_0 : decode cX9_farm 0 = .ok (.aload_n 0, 1) := by decide +kernel
theorem dX9_farm_1 : decode cX9_farm 1 = .ok (.iconst 0, 1) := by decide +kernel
theorem dX9_farm_2 : decode cX9_farm 2 = .ok (.putfield 95, 3) := by decide +kernel
theorem dX9_farm_5 : decode cX9_farm 5 = .ok (.iload_n 1, 1) := by decide +kernel
theorem dX9_farm_6 : decode cX9_farm 6 = .ok (.iconst 1, 1) := by decide +kernel
theorem dX9_farm_7 : decode cX9_farm 7 = .ok (.if_icmp .lt 63, 3) := by decide +kernel
theorem dX9_farm_10 : decode cX9_farm 10 = .ok (.iload_n 1, 1) := by decide +kernel
theorem dX9_farm_11 : decode cX9_farm 11 = .ok (.sipush 300, 3) := by decide +kernel
theorem dX9_farm_14 : decode cX9_farm 14 = .ok (.if_icmp .gt 56, 3) := by decide +kernel
theorem dX9_farm_17 : decode cX9_farm 17 = .ok (.iload_n 2, 1) := by decide +kernel
theorem dX9_farm_18 : decode cX9_farm 18 = .ok (.ifCond .lt 52, 3) := by decide +kernel
theorem dX9_farm_21 : decode cX9_farm 21 = .ok (.iload_n 2, 1) := by decide +kernel
theorem dX9_farm_22 : decode cX9_farm 22 = .ok (.bipush 9, 2) := by decide +kernel
theorem dX9_farm_24 : decode cX9_farm 24 = .ok (.if_icmp .gt 46, 3) := by decide +kernel
theorem dX9_farm_27 : decode cX9_farm 27 = .ok (.iload_n 3, 1) := by decide +kernel
theorem dX9_farm_28 : decode cX9_farm 28 = .ok (.invokestatic 169, 3) := by decide +kernel
theorem dX9_farm_31 : decode cX9_farm 31 = .ok (.ifCond .eq 39, 3) := by decide +kernel
theorem dX9_farm_34 : decode cX9_farm 34 = .ok (.iload 4, 2) := by decide +kernel
theorem dX9_farm_36 : decode cX9_farm 36 = .ok (.invokestatic 169, 3) := by decide +kernel
theorem dX9_farm_39 : decode cX9_farm 39 = .ok (.ifCond .eq 31, 3) := by decide +kernel
theorem dX9_farm_42 : decode cX9_farm 42 = .ok (.iload 5, 2) := by decide +kernel
theorem dX9_farm_44 : decode cX9_farm 44 = .ok (.ifCond .lt 26, 3) := by decide +kernel
theorem dX9_farm_47 : decode cX9_farm 47 = .ok (.iload 5, 2) := by decide +kernel
theorem dX9_farm_49 : decode cX9_farm 49 = .ok (.iload 6, 2) := by decide +kernel
theorem dX9_farm_51 : decode cX9_farm 51 = .ok (.if_icmp .gt 19, 3) := by decide +kernel
theorem dX9_farm_54 : decode cX9_farm 54 = .ok (.iload 6, 2) := by decide +kernel
theorem dX9_farm_56 : decode cX9_farm 56 = .ok (.bipush 99, 2) := by decide +kernel
theorem dX9_farm_58 : decode cX9_farm 58 = .ok (.if_icmp .gt 12, 3) := by decide +kernel
theorem dX9_farm_61 : decode cX9_farm 61 = .ok (.aload_n 0, 1) := by decide +kernel
theorem dX9_farm_62 : decode cX9_farm 62 = .ok (.getfield 166, 3) := by decide +kernel
theorem dX9_farm_65 : decode cX9_farm 65 = .ok (.bipush 7, 2) := by decide +kernel
theorem dX9_farm_67 : decode cX9_farm 67 = .ok (.if_icmp .ne 5, 3) := by decide +kernel
theorem dX9_farm_70 : decode cX9_farm 70 = .ok (.iconst (-1), 1) := by decide +kernel
theorem dX9_farm_71 : decode cX9_farm 71 = .ok (.ireturn, 1) := by decide +kernel
theorem dX9_farm_72 : decode cX9_farm 72 = .ok (.aload_n 0, 1) := by decide +kernel
theorem dX9_farm_73 : decode cX9_farm 73 = .ok (.dup, 1) := by decide +kernel
theorem dX9_farm_74 : decode cX9_farm 74 = .ok (.getfield 166, 3) := by decide +kernel
theorem dX9_farm_77 : decode cX9_farm 77 = .ok (.iconst 1, 1) := by decide +kernel
theorem dX9_farm_78 : decode cX9_farm 78 = .ok (.iadd, 1) := by decide +kernel
theorem dX9_farm_79 : decode cX9_farm 79 = .ok (.putfield 166, 3) := by decide +kernel
theorem dX9_farm_82 : decode cX9_farm 82 = .ok (.aload_n 0, 1) := by decide +kernel
theorem dX9_farm_83 : decode cX9_farm 83 = .ok (.getfield 29, 3) := by decide +kernel
theorem dX9_farm_86 : decode cX9_farm 86 = .ok (.aload_n 0, 1) := by decide +kernel
theorem dX9_farm_87 : decode cX9_farm 87 = .ok (.getfield 166, 3) := by decide +kernel
theorem dX9_farm_90 : decode cX9_farm 90 = .ok (.iload_n 1, 1) := by decide +kernel
theorem dX9_farm_91 : decode cX9_farm 91 = .ok (.iastore, 1) := by decide +kernel
theorem dX9_farm_92 : decode cX9_farm 92 = .ok (.aload_n 0, 1) := by decide +kernel
theorem dX9_farm_93 : decode cX9_farm 93 = .ok (.getfield 32, 3) := by decide +kernel
theorem dX9_farm_96 : decode cX9_farm 96 = .ok (.aload_n 0, 1) := by decide +kernel
theorem dX9_farm_97 : decode cX9_farm 97 = .ok (.getfield 166, 3) := by decide +kernel
theorem dX9_farm_100 : decode cX9_farm 100 = .ok (.iload_n 1, 1) := by decide +kernel
theorem dX9_farm_101 : decode cX9_farm 101 = .ok (.iastore, 1) := by decide +kernel
theorem dX9_farm_102 : decode cX9_farm 102 = .ok (.aload_n 0, 1) := by decide +kernel
theorem dX9_farm_103 : decode cX9_farm 103 = .ok (.getfield 35, 3) := by decide +kernel
theorem dX9_farm_106 : decode cX9_farm 106 = .ok (.aload_n 0, 1) := by decide +kernel
theorem dX9_farm_107 : decode cX9_farm 107 = .ok (.getfield 166, 3) := by decide +kernel
theorem dX9_farm_110 : decode cX9_farm 110 = .ok (.iload_n 2, 1) := by decide +kernel
theorem dX9_farm_111 : decode cX9_farm 111 = .ok (.iastore, 1) := by decide +kernel
theorem dX9_farm_112 : decode cX9_farm 112 = .ok (.aload_n 0, 1) := by decide +kernel
theorem dX9_farm_113 : decode cX9_farm 113 = .ok (.getfield 38, 3) := by decide +kernel
theorem dX9_farm_116 : decode cX9_farm 116 = .ok (.aload_n 0, 1) := by decide +kernel
theorem dX9_farm_117 : decode cX9_farm 117 = .ok (.getfield 166, 3) := by decide +kernel
theorem dX9_farm_120 : decode cX9_farm 120 = .ok (.iload_n 3, 1) := by decide +kernel
theorem dX9_farm_121 : decode cX9_farm 121 = .ok (.iastore, 1) := by decide +kernel
theorem dX9_farm_122 : decode cX9_farm 122 = .ok (.aload_n 0, 1) := by decide +kernel
theorem dX9_farm_123 : decode cX9_farm 123 = .ok (.getfield 41, 3) := by decide +kernel
theorem dX9_farm_126 : decode cX9_farm 126 = .ok (.aload_n 0, 1) := by decide +kernel
theorem dX9_farm_127 : decode cX9_farm 127 = .ok (.getfield 166, 3) := by decide +kernel
theorem dX9_farm_130 : decode cX9_farm 130 = .ok (.iload 4, 2) := by decide +kernel
theorem dX9_farm_132 : decode cX9_farm 132 = .ok (.iastore, 1) := by decide +kernel
theorem dX9_farm_133 : decode cX9_farm 133 = .ok (.aload_n 0, 1) := by decide +kernel
theorem dX9_farm_134 : decode cX9_farm 134 = .ok (.getfield 44, 3) := by decide +kernel
theorem dX9_farm_137 : decode cX9_farm 137 = .ok (.aload_n 0, 1) := by decide +kernel
theorem dX9_farm_138 : decode cX9_farm 138 = .ok (.getfield 166, 3) := by decide +kernel
theorem dX9_farm_141 : decode cX9_farm 141 = .ok (.iload 5, 2) := by decide +kernel
theorem dX9_farm_143 : decode cX9_farm 143 = .ok (.iastore, 1) := by decide +kernel
theorem dX9_farm_144 : decode cX9_farm 144 = .ok (.aload_n 0, 1) := by decide +kernel
theorem dX9_farm_145 : decode cX9_farm 145 = .ok (.getfield 47, 3) := by decide +kernel
theorem dX9_farm_148 : decode cX9_farm 148 = .ok (.aload_n 0, 1) := by decide +kernel
theorem dX9_farm_149 : decode cX9_farm 149 = .ok (.getfield 166, 3) := by decide +kernel
theorem dX9_farm_152 : decode cX9_farm 152 = .ok (.iload 6, 2) := by decide +kernel
theorem dX9_farm_154 : decode cX9_farm 154 = .ok (.iastore, 1) := by decide +kernel
theorem dX9_farm_155 : decode cX9_farm 155 = .ok (.aload_n 0, 1) := by decide +kernel
theorem dX9_farm_156 : decode cX9_farm 156 = .ok (.getfield 53, 3) := by decide +kernel
theorem dX9_farm_159 : decode cX9_farm 159 = .ok (.aload_n 0, 1) := by decide +kernel
theorem dX9_farm_160 : decode cX9_farm 160 = .ok (.getfield 166, 3) := by decide +kernel
theorem dX9_farm_163 : decode cX9_farm 163 = .ok (.iconst (-1), 1) := by decide +kernel
theorem dX9_farm_164 : decode cX9_farm 164 = .ok (.iastore, 1) := by decide +kernel
theorem dX9_farm_165 : decode cX9_farm 165 = .ok (.aload_n 0, 1) := by decide +kernel
theorem dX9_farm_166 : decode cX9_farm 166 = .ok (.getfield 166, 3) := by decide +kernel
theorem dX9_farm_169 : decode cX9_farm 169 = .ok (.ireturn, 1) := by decide +kernel
theorem dX9_way_0 : decode cX9_way 0 = .ok (.aload_n 0, 1) := by decide +kernel
theorem dX9_way_1 : decode cX9_way 1 = .ok (.iconst 0, 1) := by decide +kernel
theorem dX9_way_2 : decode cX9_way 2 = .ok (.putfield 95, 3) := by decide +kernel
theorem dX9_way_5 : decode cX9_way 5 = .ok (.iload_n 1, 1) := by decide +kernel
theorem dX9_way_6 : decode cX9_way 6 = .ok (.ifCond .lt 39, 3) := by decide +kernel
theorem dX9_way_9 : decode cX9_way 9 = .ok (.iload_n 1, 1) := by decide +kernel
theorem dX9_way_10 : decode cX9_way 10 = .ok (.aload_n 0, 1) := by decide +kernel
theorem dX9_way_11 : decode cX9_way 11 = .ok (.getfield 166, 3) := by decide +kernel
theorem dX9_way_14 : decode cX9_way 14 = .ok (.if_icmp .gt 31, 3) := by decide +kernel
theorem dX9_way_17 : decode cX9_way 17 = .ok (.iload_n 2, 1) := by decide +kernel
theorem dX9_way_18 : decode cX9_way 18 = .ok (.ifCond .lt 27, 3) := by decide +kernel
theorem dX9_way_21 : decode cX9_way 21 = .ok (.iload_n 2, 1) := by decide +kernel
theorem dX9_way_22 : decode cX9_way 22 = .ok (.aload_n 0, 1) := by decide +kernel
theorem dX9_way_23 : decode cX9_way 23 = .ok (.getfield 166, 3) := by decide +kernel
theorem dX9_way_26 : decode cX9_way 26 = .ok (.if_icmp .gt 19, 3) := by decide +kernel
theorem dX9_way_29 : decode cX9_way 29 = .ok (.iload_n 1, 1) := by decide +kernel
theorem dX9_way_30 : decode cX9_way 30 = .ok (.iload_n 2, 1) := by decide +kernel
theorem dX9_way_31 : decode cX9_way 31 = .ok (.if_icmp .eq 14, 3) := by decide +kernel
theorem dX9_way_34 : decode cX9_way 34 = .ok (.iload_n 3, 1) := by decide +kernel
theorem dX9_way_35 : decode cX9_way 35 = .ok (.iconst (-1), 1) := by decide +kernel
theorem dX9_way_36 : decode cX9_way 36 = .ok (.if_icmp .lt 9, 3) := by decide +kernel
theorem dX9_way_39 : decode cX9_way 39 = .ok (.iload_n 3, 1) := by decide +kernel
theorem dX9_way_40 : decode cX9_way 40 = .ok (.bipush 9, 2) := by decide +kernel
theorem dX9_way_42 : decode cX9_way 42 = .ok (.if_icmp .le 5, 3) := by decide +kernel
theorem dX9_way_45 : decode cX9_way 45 = .ok (.iconst 0, 1) := by decide +kernel
theorem dX9_way_46 : decode cX9_way 46 = .ok (.ireturn, 1) := by decide +kernel
theorem dX9_way_47 : decode cX9_way 47 = .ok (.aload_n 0, 1) := by decide +kernel
theorem dX9_way_48 : decode cX9_way 48 = .ok (.getfield 62, 3) := by decide +kernel
theorem dX9_way_51 : decode cX9_way 51 = .ok (.bipush 8, 2) := by decide +kernel
theorem dX9_way_53 : decode cX9_way 53 = .ok (.iload_n 1, 1) := by decide +kernel
theorem dX9_way_54 : decode cX9_way 54 = .ok (.imul, 1) := by decide +kernel
theorem dX9_way_55 : decode cX9_way 55 = .ok (.iload_n 2, 1) := by decide +kernel
theorem dX9_way_56 : decode cX9_way 56 = .ok (.iadd, 1) := by decide +kernel
theorem dX9_way_57 : decode cX9_way 57 = .ok (.iload_n 3, 1) := by decide +kernel
theorem dX9_way_58 : decode cX9_way 58 = .ok (.iconst 1, 1) := by decide +kernel
theorem dX9_way_59 : decode cX9_way 59 = .ok (.iadd, 1) := by decide +kernel
theorem dX9_way_60 : decode cX9_way 60 = .ok (.iastore, 1) := by decide +kernel
theorem dX9_way_61 : decode cX9_way 61 = .ok (.aload_n 0, 1) := by decide +kernel
theorem dX9_way_62 : decode cX9_way 62 = .ok (.getfield 62, 3) := by decide +kernel
theorem dX9_way_65 : decode cX9_way 65 = .ok (.bipush 8, 2) := by decide +kernel
theorem dX9_way_67 : decode cX9_way 67 = .ok (.iload_n 2, 1) := by decide +kernel
theorem dX9_way_68 : decode cX9_way 68 = .ok (.imul, 1) := by decide +kernel
theorem dX9_way_69 : decode cX9_way 69 = .ok (.iload_n 1, 1) := by decide +kernel
theorem dX9_way_70 : decode cX9_way 70 = .ok (.iadd, 1) := by decide +kernel
theorem dX9_way_71 : decode cX9_way 71 = .ok (.iload_n 3, 1) := by decide +kernel
theorem dX9_way_72 : decode cX9_way 72 = .ok (.iconst 1, 1) := by decide +kernel
theorem dX9_way_73 : decode cX9_way 73 = .ok (.iadd, 1) := by decide +kernel
theorem dX9_way_74 : decode cX9_way 74 = .ok (.iastore, 1) := by decide +kernel
theorem dX9_way_75 : decode cX9_way 75 = .ok (.iconst 1, 1) := by decide +kernel
theorem dX9_way_76 : decode cX9_way 76 = .ok (.ireturn, 1) := by decide +kernel
theorem dX9_bargain_0 : decode cX9_bargain 0 = .ok (.aload_n 0, 1) := by decide +kernel
theorem dX9_bargain_1 : decode cX9_bargain 1 = .ok (.iconst 0, 1) := by decide +kernel
theorem dX9_bargain_2 : decode cX9_bargain 2 = .ok (.putfield 95, 3) := by decide +kernel
theorem dX9_bargain_5 : decode cX9_bargain 5 = .ok (.aload_n 0, 1) := by decide +kernel
theorem dX9_bargain_6 : decode cX9_bargain 6 = .ok (.iload_n 1, 1) := by decide +kernel
theorem dX9_bargain_7 : decode cX9_bargain 7 = .ok (.invokevirtual 172, 3) := by decide +kernel
theorem dX9_bargain_10 : decode cX9_bargain 10 = .ok (.ifCond .eq 23, 3) := by decide +kernel
theorem dX9_bargain_13 : decode cX9_bargain 13 = .ok (.iload_n 2, 1) := by decide +kernel
theorem dX9_bargain_14 : decode cX9_bargain 14 = .ok (.ifCond .lt 19, 3) := by decide +kernel
theorem dX9_bargain_17 : decode cX9_bargain 17 = .ok (.iload_n 2, 1) := by decide +kernel
theorem dX9_bargain_18 : decode cX9_bargain 18 = .ok (.iconst 1, 1) := by decide +kernel
theorem dX9_bargain_19 : decode cX9_bargain 19 = .ok (.if_icmp .gt 14, 3) := by decide +kernel
theorem dX9_bargain_22 : decode cX9_bargain 22 = .ok (.iload_n 3, 1) := by decide +kernel
theorem dX9_bargain_23 : decode cX9_bargain 23 = .ok (.ifCond .lt 10, 3) := by decide +kernel
theorem dX9_bargain_26 : decode cX9_bargain 26 = .ok (.iload_n 3, 1) := by decide +kernel
theorem dX9_bargain_27 : decode cX9_bargain 27 = .ok (.sipush 999, 3) := by decide +kernel
theorem dX9_bargain_30 : decode cX9_bargain 30 = .ok (.if_icmp .le 5, 3) := by decide +kernel
theorem dX9_bargain_33 : decode cX9_bargain 33 = .ok (.iconst 0, 1) := by decide +kernel
theorem dX9_bargain_34 : decode cX9_bargain 34 = .ok (.ireturn, 1) := by decide +kernel
theorem dX9_bargain_35 : decode cX9_bargain 35 = .ok (.aload_n 0, 1) := by decide +kernel
theorem dX9_bargain_36 : decode cX9_bargain 36 = .ok (.getfield 56, 3) := by decide +kernel
theorem dX9_bargain_39 : decode cX9_bargain 39 = .ok (.iload_n 1, 1) := by decide +kernel
theorem dX9_bargain_40 : decode cX9_bargain 40 = .ok (.iload_n 2, 1) := by decide +kernel
theorem dX9_bargain_41 : decode cX9_bargain 41 = .ok (.iastore, 1) := by decide +kernel
theorem dX9_bargain_42 : decode cX9_bargain 42 = .ok (.aload_n 0, 1) := by decide +kernel
theorem dX9_bargain_43 : decode cX9_bargain 43 = .ok (.getfield 59, 3) := by decide +kernel
theorem dX9_bargain_46 : decode cX9_bargain 46 = .ok (.iload_n 1, 1) := by decide +kernel
theorem dX9_bargain_47 : decode cX9_bargain 47 = .ok (.iload_n 3, 1) := by decide +kernel
theorem dX9_bargain_48 : decode cX9_bargain 48 = .ok (.iastore, 1) := by decide +kernel
theorem dX9_bargain_49 : decode cX9_bargain 49 = .ok (.iconst 1, 1) := by decide +kernel
theorem dX9_bargain_50 : decode cX9_bargain 50 = .ok (.ireturn, 1) := by decide +kernel
theorem dX9_gangs_0 : decode cX9_gangs 0 = .ok (.aload_n 0, 1) := by decide +kernel
theorem dX9_gangs_1 : decode cX9_gangs 1 = .ok (.getfield 13, 3) := by decide +kernel
theorem dX9_gangs_4 : decode cX9_gangs 4 = .ok (.iconst 0, 1) := by decide +kernel
theorem dX9_gangs_5 : decode cX9_gangs 5 = .ok (.iaload, 1) := by decide +kernel
theorem dX9_gangs_6 : decode cX9_gangs 6 = .ok (.istore_n 2, 1) := by decide +kernel
theorem dX9_gangs_7 : decode cX9_gangs 7 = .ok (.iconst 1, 1) := by decide +kernel
theorem dX9_gangs_8 : decode cX9_gangs 8 = .ok (.istore_n 3, 1) := by decide +kernel
theorem dX9_gangs_9 : decode cX9_gangs 9 = .ok (.iload_n 3, 1) := by decide +kernel
theorem dX9_gangs_10 : decode cX9_gangs 10 = .ok (.bipush 7, 2) := by decide +kernel
theorem dX9_gangs_12 : decode cX9_gangs 12 = .ok (.if_icmp .gt 16, 3) := by decide +kernel
theorem dX9_gangs_15 : decode cX9_gangs 15 = .ok (.aload_n 0, 1) := by decide +kernel
theorem dX9_gangs_16 : decode cX9_gangs 16 = .ok (.getfield 68, 3) := by decide +kernel
theorem dX9_gangs_19 : decode cX9_gangs 19 = .ok (.iload_n 3, 1) := by decide +kernel
theorem dX9_gangs_20 : decode cX9_gangs 20 = .ok (.iconst 0, 1) := by decide +kernel
theorem dX9_gangs_21 : decode cX9_gangs 21 = .ok (.iastore, 1) := by decide +kernel
theorem dX9_gangs_22 : decode cX9_gangs 22 = .ok (.iinc 3 1, 3) := by decide +kernel
theorem dX9_gangs_25 : decode cX9_gangs 25 = .ok (.goto (-16), 3) := by decide +kernel
theorem dX9_gangs_28 : decode cX9_gangs 28 = .ok (.aload_n 0, 1) := by decide +kernel
theorem dX9_gangs_29 : decode cX9_gangs 29 = .ok (.iload_n 2, 1) := by decide +kernel
theorem dX9_gangs_30 : decode cX9_gangs 30 = .ok (.aload_n 0, 1) := by decide +kernel
theorem dX9_gangs_31 : decode cX9_gangs 31 = .ok (.getfield 38, 3) := by decide +kernel
theorem dX9_gangs_34 : decode cX9_gangs 34 = .ok (.iload_n 1, 1) := by decide +kernel
theorem dX9_gangs_35 : decode cX9_gangs 35 = .ok (.iaload, 1) := by decide +kernel
theorem dX9_gangs_36 : decode cX9_gangs 36 = .ok (.invokestatic 175, 3) := by decide +kernel
theorem dX9_gangs_39 : decode cX9_gangs 39 = .ok (.putfield 181, 3) := by decide +kernel
theorem dX9_gangs_42 : decode cX9_gangs 42 = .ok (.iconst 1, 1) := by decide +kernel
theorem dX9_gangs_43 : decode cX9_gangs 43 = .ok (.iload_n 1, 1) := by decide +kernel
theorem dX9_gangs_44 : decode cX9_gangs 44 = .ok (.ishl, 1) := by decide +kernel
theorem dX9_gangs_45 : decode cX9_gangs 45 = .ok (.istore_n 3, 1) := by decide +kernel
theorem dX9_gangs_46 : decode cX9_gangs 46 = .ok (.iconst 1, 1) := by decide +kernel
theorem dX9_gangs_47 : decode cX9_gangs 47 = .ok (.istore 4, 2) := by decide +kernel
theorem dX9_gangs_49 : decode cX9_gangs 49 = .ok (.iload 4, 2) := by decide +kernel
theorem dX9_gangs_51 : decode cX9_gangs 51 = .ok (.aload_n 0, 1) := by decide +kernel
theorem dX9_gangs_52 : decode cX9_gangs 52 = .ok (.getfield 166, 3) := by decide +kernel
theorem dX9_gangs_55 : decode cX9_gangs 55 = .ok (.if_icmp .ge 122, 3) := by decide +kernel
theorem dX9_gangs_58 : decode cX9_gangs 58 = .ok (.iconst (-1), 1) := by decide +kernel
theorem dX9_gangs_59 : decode cX9_gangs 59 = .ok (.istore 5, 2) := by decide +kernel
theorem dX9_gangs_61 : decode cX9_gangs 61 = .ok (.iconst 1, 1) := by decide +kernel
theorem dX9_gangs_62 : decode cX9_gangs 62 = .ok (.istore 6, 2) := by decide +kernel
theorem dX9_gangs_64 : decode cX9_gangs 64 = .ok (.iload 6, 2) := by decide +kernel
theorem dX9_gangs_66 : decode cX9_gangs 66 = .ok (.aload_n 0, 1) := by decide +kernel
theorem dX9_gangs_67 : decode cX9_gangs 67 = .ok (.getfield 166, 3) := by decide +kernel
theorem dX9_gangs_70 : decode cX9_gangs 70 = .ok (.if_icmp .gt 55, 3) := by decide +kernel
theorem dX9_gangs_73 : decode cX9_gangs 73 = .ok (.iload_n 3, 1) := by decide +kernel
theorem dX9_gangs_74 : decode cX9_gangs 74 = .ok (.iload 6, 2) := by decide +kernel
theorem dX9_gangs_76 : decode cX9_gangs 76 = .ok (.ishr, 1) := by decide +kernel
theorem dX9_gangs_77 : decode cX9_gangs 77 = .ok (.iconst 1, 1) := by decide +kernel
theorem dX9_gangs_78 : decode cX9_gangs 78 = .ok (.iand, 1) := by decide +kernel
theorem dX9_gangs_79 : decode cX9_gangs 79 = .ok (.ifCond .ne 40, 3) := by decide +kernel
theorem dX9_gangs_82 : decode cX9_gangs 82 = .ok (.iload 5, 2) := by decide +kernel
theorem dX9_gangs_84 : decode cX9_gangs 84 = .ok (.iconst (-1), 1) := by decide +kernel
theorem dX9_gangs_85 : decode cX9_gangs 85 = .ok (.if_icmp .eq 30, 3) := by decide +kernel
theorem dX9_gangs_88 : decode cX9_gangs 88 = .ok (.aload_n 0, 1) := by decide +kernel
theorem dX9_gangs_89 : decode cX9_gangs 89 = .ok (.getfield 65, 3) := by decide +kernel
theorem dX9_gangs_92 : decode cX9_gangs 92 = .ok (.bipush 8, 2) := by decide +kernel
theorem dX9_gangs_94 : decode cX9_gangs 94 = .ok (.iload 6, 2) := by decide +kernel
theorem dX9_gangs_96 : decode cX9_gangs 96 = .ok (.imul, 1) := by decide +kernel
theorem dX9_gangs_97 : decode cX9_gangs 97 = .ok (.iload_n 1, 1) := by decide +kernel
theorem dX9_gangs_98 : decode cX9_gangs 98 = .ok (.iadd, 1) := by decide +kernel
theorem dX9_gangs_99 : decode cX9_gangs 99 = .ok (.iaload, 1) := by decide +kernel
theorem dX9_gangs_100 : decode cX9_gangs 100 = .ok (.aload_n 0, 1) := by decide +kernel
theorem dX9_gangs_101 : decode cX9_gangs 101 = .ok (.getfield 65, 3) := by decide +kernel
theorem dX9_gangs_104 : decode cX9_gangs 104 = .ok (.bipush 8, 2) := by decide +kernel
theorem dX9_gangs_106 : decode cX9_gangs 106 = .ok (.iload 5, 2) := by decide +kernel
theorem dX9_gangs_108 : decode cX9_gangs 108 = .ok (.imul, 1) := by decide +kernel
theorem dX9_gangs_109 : decode cX9_gangs 109 = .ok (.iload_n 1, 1) := by decide +kernel
theorem dX9_gangs_110 : decode cX9_gangs 110 = .ok (.iadd, 1) := by decide +kernel
theorem dX9_gangs_111 : decode cX9_gangs 111 = .ok (.iaload, 1) := by decide +kernel
theorem dX9_gangs_112 : decode cX9_gangs 112 = .ok (.if_icmp .le 7, 3) := by decide +kernel
theorem dX9_gangs_115 : decode cX9_gangs 115 = .ok (.iload 6, 2) := by decide +kernel
theorem dX9_gangs_117 : decode cX9_gangs 117 = .ok (.istore 5, 2) := by decide +kernel
theorem dX9_gangs_119 : decode cX9_gangs 119 = .ok (.iinc 6 1, 3) := by decide +kernel
theorem dX9_gangs_122 : decode cX9_gangs 122 = .ok (.goto (-58), 3) := by decide +kernel
theorem dX9_gangs_125 : decode cX9_gangs 125 = .ok (.iload_n 3, 1) := by decide +kernel
theorem dX9_gangs_126 : decode cX9_gangs 126 = .ok (.iconst 1, 1) := by decide +kernel
theorem dX9_gangs_127 : decode cX9_gangs 127 = .ok (.iload 5, 2) := by decide +kernel
theorem dX9_gangs_129 : decode cX9_gangs 129 = .ok (.ishl, 1) := by decide +kernel
theorem dX9_gangs_130 : decode cX9_gangs 130 = .ok (.ior, 1) := by decide +kernel
theorem dX9_gangs_131 : decode cX9_gangs 131 = .ok (.istore_n 3, 1) := by decide +kernel
theorem dX9_gangs_132 : decode cX9_gangs 132 = .ok (.aload_n 0, 1) := by decide +kernel
theorem dX9_gangs_133 : decode cX9_gangs 133 = .ok (.getfield 68, 3) := by decide +kernel
theorem dX9_gangs_136 : decode cX9_gangs 136 = .ok (.iload 5, 2) := by decide +kernel
theorem dX9_gangs_138 : decode cX9_gangs 138 = .ok (.aload_n 0, 1) := by decide +kernel
theorem dX9_gangs_139 : decode cX9_gangs 139 = .ok (.getfield 41, 3) := by decide +kernel
theorem dX9_gangs_142 : decode cX9_gangs 142 = .ok (.iload 5, 2) := by decide +kernel
theorem dX9_gangs_144 : decode cX9_gangs 144 = .ok (.iaload, 1) := by decide +kernel
theorem dX9_gangs_145 : decode cX9_gangs 145 = .ok (.iload_n 2, 1) := by decide +kernel
theorem dX9_gangs_146 : decode cX9_gangs 146 = .ok (.aload_n 0, 1) := by decide +kernel
theorem dX9_gangs_147 : decode cX9_gangs 147 = .ok (.getfield 181, 3) := by decide +kernel
theorem dX9_gangs_150 : decode cX9_gangs 150 = .ok (.isub, 1) := by decide +kernel
theorem dX9_gangs_151 : decode cX9_gangs 151 = .ok (.invokestatic 175, 3) := by decide +kernel
theorem dX9_gangs_154 : decode cX9_gangs 154 = .ok (.iastore, 1) := by decide +kernel
theorem dX9_gangs_155 : decode cX9_gangs 155 = .ok (.aload_n 0, 1) := by decide +kernel
theorem dX9_gangs_156 : decode cX9_gangs 156 = .ok (.dup, 1) := by decide +kernel
theorem dX9_gangs_157 : decode cX9_gangs 157 = .ok (.getfield 181, 3) := by decide +kernel
theorem dX9_gangs_160 : decode cX9_gangs 160 = .ok (.aload_n 0, 1) := by decide +kernel
theorem dX9_gangs_161 : decode cX9_gangs 161 = .ok (.getfield 68, 3) := by decide +kernel
theorem dX9_gangs_164 : decode cX9_gangs 164 = .ok (.iload 5, 2) := by decide +kernel
theorem dX9_gangs_166 : decode cX9_gangs 166 = .ok (.iaload, 1) := by decide +kernel
theorem dX9_gangs_167 : decode cX9_gangs 167 = .ok (.iadd, 1) := by decide +kernel
theorem dX9_gangs_168 : decode cX9_gangs 168 = .ok (.putfield 181, 3) := by decide +kernel
theorem dX9_gangs_171 : decode cX9_gangs 171 = .ok (.iinc 4 1, 3) := by decide +kernel
theorem dX9_gangs_174 : decode cX9_gangs 174 = .ok (.goto (-125), 3) := by decide +kernel
theorem dX9_gangs_177 : decode cX9_gangs 177 = .ok (.return_, 1) := by decide +kernel
theorem dX9_speedOf_0 : decode cX9_speedOf 0 = .ok (.aload_n 0, 1) := by decide +kernel
theorem dX9_speedOf_1 : decode cX9_speedOf 1 = .ok (.iload_n 1, 1) := by decide +kernel
theorem dX9_speedOf_2 : decode cX9_speedOf 2 = .ok (.invokevirtual 184, 3) := by decide +kernel
theorem dX9_speedOf_5 : decode cX9_speedOf 5 = .ok (.iconst 1, 1) := by decide +kernel
theorem dX9_speedOf_6 : decode cX9_speedOf 6 = .ok (.aload_n 0, 1) := by decide +kernel
theorem dX9_speedOf_7 : decode cX9_speedOf 7 = .ok (.getfield 13, 3) := by decide +kernel
theorem dX9_speedOf_10 : decode cX9_speedOf 10 = .ok (.iconst 1, 1) := by decide +kernel
theorem dX9_speedOf_11 : decode cX9_speedOf 11 = .ok (.iaload, 1) := by decide +kernel
theorem dX9_speedOf_12 : decode cX9_speedOf 12 = .ok (.aload_n 0, 1) := by decide +kernel
theorem dX9_speedOf_13 : decode cX9_speedOf 13 = .ok (.getfield 181, 3) := by decide +kernel
theorem dX9_speedOf_16 : decode cX9_speedOf 16 = .ok (.imul, 1) := by decide +kernel
theorem dX9_speedOf_17 : decode cX9_speedOf 17 = .ok (.aload_n 0, 1) := by decide +kernel
theorem dX9_speedOf_18 : decode cX9_speedOf 18 = .ok (.getfield 13, 3) := by decide +kernel
theorem dX9_speedOf_21 : decode cX9_speedOf 21 = .ok (.iconst 0, 1) := by decide +kernel
theorem dX9_speedOf_22 : decode cX9_speedOf 22 = .ok (.iaload, 1) := by decide +kernel
theorem dX9_speedOf_23 : decode cX9_speedOf 23 = .ok (.idiv, 1) := by decide +kernel
theorem dX9_speedOf_24 : decode cX9_speedOf 24 = .ok (.invokestatic 187, 3) := by decide +kernel
theorem dX9_speedOf_27 : decode cX9_speedOf 27 = .ok (.ireturn, 1) := by decide +kernel
theorem dX9_isDone_0 : decode cX9_isDone 0 = .ok (.aload_n 0, 1) := by decide +kernel
theorem dX9_isDone_1 : decode cX9_isDone 1 = .ok (.getfield 32, 3) := by decide +kernel
theorem dX9_isDone_4 : decode cX9_isDone 4 = .ok (.iload_n 1, 1) := by decide +kernel
theorem dX9_isDone_5 : decode cX9_isDone 5 = .ok (.iaload, 1) := by decide +kernel
theorem dX9_isDone_6 : decode cX9_isDone 6 = .ok (.ifCond .ne 7, 3) := by decide +kernel
theorem dX9_isDone_9 : decode cX9_isDone 9 = .ok (.iconst 1, 1) := by decide +kernel
theorem dX9_isDone_10 : decode cX9_isDone 10 = .ok (.goto 4, 3) := by decide +kernel
theorem dX9_isDone_13 : decode cX9_isDone 13 = .ok (.iconst 0, 1) := by decide +kernel
theorem dX9_isDone_14 : decode cX9_isDone 14 = .ok (.ireturn, 1) := by decide +kernel
theorem dX9_goes_0 : decode cX9_goes 0 = .ok (.aload_n 0, 1) := by decide +kernel
theorem dX9_goes_1 : decode cX9_goes 1 = .ok (.getfield 190, 3) := by decide +kernel
theorem dX9_goes_4 : decode cX9_goes 4 = .ok (.istore_n 1, 1) := by decide +kernel
theorem dX9_goes_5 : decode cX9_goes 5 = .ok (.aload_n 0, 1) := by decide +kernel
theorem dX9_goes_6 : decode cX9_goes 6 = .ok (.getfield 193, 3) := by decide +kernel
theorem dX9_goes_9 : decode cX9_goes 9 = .ok (.istore_n 2, 1) := by decide +kernel
theorem dX9_goes_10 : decode cX9_goes 10 = .ok (.aload_n 0, 1) := by decide +kernel
theorem dX9_goes_11 : decode cX9_goes 11 = .ok (.iconst 0, 1) := by decide +kernel
theorem dX9_goes_12 : decode cX9_goes 12 = .ok (.putfield 196, 3) := by decide +kernel
theorem dX9_goes_15 : decode cX9_goes 15 = .ok (.iconst 0, 1) := by decide +kernel
theorem dX9_goes_16 : decode cX9_goes 16 = .ok (.istore_n 3, 1) := by decide +kernel
theorem dX9_goes_17 : decode cX9_goes 17 = .ok (.iload_n 3, 1) := by decide +kernel
theorem dX9_goes_18 : decode cX9_goes 18 = .ok (.aload_n 0, 1) := by decide +kernel
theorem dX9_goes_19 : decode cX9_goes 19 = .ok (.getfield 199, 3) := by decide +kernel
theorem dX9_goes_22 : decode cX9_goes 22 = .ok (.if_icmp .ge 112, 3) := by decide +kernel
theorem dX9_goes_25 : decode cX9_goes 25 = .ok (.aload_n 0, 1) := by decide +kernel
theorem dX9_goes_26 : decode cX9_goes 26 = .ok (.getfield 86, 3) := by decide +kernel
theorem dX9_goes_29 : decode cX9_goes 29 = .ok (.iload_n 3, 1) := by decide +kernel
theorem dX9_goes_30 : decode cX9_goes 30 = .ok (.iaload, 1) := by decide +kernel
theorem dX9_goes_31 : decode cX9_goes 31 = .ok (.istore 4, 2) := by decide +kernel
theorem dX9_goes_33 : decode cX9_goes 33 = .ok (.iload 4, 2) := by decide +kernel
theorem dX9_goes_35 : decode cX9_goes 35 = .ok (.iload_n 1, 1) := by decide +kernel
theorem dX9_goes_36 : decode cX9_goes 36 = .ok (.if_icmp .ne 7, 3) := by decide +kernel
theorem dX9_goes_39 : decode cX9_goes 39 = .ok (.iconst 1, 1) := by decide +kernel
theorem dX9_goes_40 : decode cX9_goes 40 = .ok (.goto 15, 3) := by decide +kernel
theorem dX9_goes_43 : decode cX9_goes 43 = .ok (.aload_n 0, 1) := by decide +kernel
theorem dX9_goes_44 : decode cX9_goes 44 = .ok (.getfield 62, 3) := by decide +kernel
theorem dX9_goes_47 : decode cX9_goes 47 = .ok (.bipush 8, 2) := by decide +kernel
theorem dX9_goes_49 : decode cX9_goes 49 = .ok (.iload_n 1, 1) := by decide +kernel
theorem dX9_goes_50 : decode cX9_goes 50 = .ok (.imul, 1) := by decide +kernel
theorem dX9_goes_51 : decode cX9_goes 51 = .ok (.iload 4, 2) := by decide +kernel
theorem dX9_goes_53 : decode cX9_goes 53 = .ok (.iadd, 1) := by decide +kernel
theorem dX9_goes_54 : decode cX9_goes 54 = .ok (.iaload, 1) := by decide +kernel
theorem dX9_goes_55 : decode cX9_goes 55 = .ok (.istore 5, 2) := by decide +kernel
theorem dX9_goes_57 : decode cX9_goes 57 = .ok (.iload 5, 2) := by decide +kernel
theorem dX9_goes_59 : decode cX9_goes 59 = .ok (.ifCond .ne 5, 3) := by decide +kernel
theorem dX9_goes_62 : decode cX9_goes 62 = .ok (.iconst 0, 1) := by decide +kernel
theorem dX9_goes_63 : decode cX9_goes 63 = .ok (.ireturn, 1) := by decide +kernel
theorem dX9_goes_64 : decode cX9_goes 64 = .ok (.iload_n 2, 1) := by decide +kernel
theorem dX9_goes_65 : decode cX9_goes 65 = .ok (.iload 5, 2) := by decide +kernel
theorem dX9_goes_67 : decode cX9_goes 67 = .ok (.iadd, 1) := by decide +kernel
theorem dX9_goes_68 : decode cX9_goes 68 = .ok (.iconst 1, 1) := by decide +kernel
theorem dX9_goes_69 : decode cX9_goes 69 = .ok (.isub, 1) := by decide +kernel
theorem dX9_goes_70 : decode cX9_goes 70 = .ok (.aload_n 0, 1) := by decide +kernel
theorem dX9_goes_71 : decode cX9_goes 71 = .ok (.getfield 44, 3) := by decide +kernel
theorem dX9_goes_74 : decode cX9_goes 74 = .ok (.iload 4, 2) := by decide +kernel
theorem dX9_goes_76 : decode cX9_goes 76 = .ok (.iaload, 1) := by decide +kernel
theorem dX9_goes_77 : decode cX9_goes 77 = .ok (.invokestatic 187, 3) := by decide +kernel
theorem dX9_goes_80 : decode cX9_goes 80 = .ok (.istore_n 2, 1) := by decide +kernel
theorem dX9_goes_81 : decode cX9_goes 81 = .ok (.iload_n 2, 1) := by decide +kernel
theorem dX9_goes_82 : decode cX9_goes 82 = .ok (.aload_n 0, 1) := by decide +kernel
theorem dX9_goes_83 : decode cX9_goes 83 = .ok (.getfield 32, 3) := by decide +kernel
theorem dX9_goes_86 : decode cX9_goes 86 = .ok (.iload 4, 2) := by decide +kernel
theorem dX9_goes_88 : decode cX9_goes 88 = .ok (.iaload, 1) := by decide +kernel
theorem dX9_goes_89 : decode cX9_goes 89 = .ok (.aload_n 0, 1) := by decide +kernel
theorem dX9_goes_90 : decode cX9_goes 90 = .ok (.getfield 89, 3) := by decide +kernel
theorem dX9_goes_93 : decode cX9_goes 93 = .ok (.iload 4, 2) := by decide +kernel
theorem dX9_goes_95 : decode cX9_goes 95 = .ok (.iaload, 1) := by decide +kernel
theorem dX9_goes_96 : decode cX9_goes 96 = .ok (.iadd, 1) := by decide +kernel
theorem dX9_goes_97 : decode cX9_goes 97 = .ok (.iconst 1, 1) := by decide +kernel
theorem dX9_goes_98 : decode cX9_goes 98 = .ok (.isub, 1) := by decide +kernel
theorem dX9_goes_99 : decode cX9_goes 99 = .ok (.aload_n 0, 1) := by decide +kernel
theorem dX9_goes_100 : decode cX9_goes 100 = .ok (.getfield 89, 3) := by decide +kernel
theorem dX9_goes_103 : decode cX9_goes 103 = .ok (.iload 4, 2) := by decide +kernel
theorem dX9_goes_105 : decode cX9_goes 105 = .ok (.iaload, 1) := by decide +kernel
theorem dX9_goes_106 : decode cX9_goes 106 = .ok (.idiv, 1) := by decide +kernel
theorem dX9_goes_107 : decode cX9_goes 107 = .ok (.iadd, 1) := by decide +kernel
theorem dX9_goes_108 : decode cX9_goes 108 = .ok (.istore_n 2, 1) := by decide +kernel
theorem dX9_goes_109 : decode cX9_goes 109 = .ok (.aload_n 0, 1) := by decide +kernel
theorem dX9_goes_110 : decode cX9_goes 110 = .ok (.dup, 1) := by decide +kernel
theorem dX9_goes_111 : decode cX9_goes 111 = .ok (.getfield 196, 3) := by decide +kernel
theorem dX9_goes_114 : decode cX9_goes 114 = .ok (.aload_n 0, 1) := by decide +kernel
theorem dX9_goes_115 : decode cX9_goes 115 = .ok (.iload_n 2, 1) := by decide +kernel
theorem dX9_goes_116 : decode cX9_goes 116 = .ok (.iload 4, 2) := by decide +kernel
theorem dX9_goes_118 : decode cX9_goes 118 = .ok (.invokevirtual 202, 3) := by decide +kernel
theorem dX9_goes_121 : decode cX9_goes 121 = .ok (.iadd, 1) := by decide +kernel
theorem dX9_goes_122 : decode cX9_goes 122 = .ok (.putfield 196, 3) := by decide +kernel
theorem dX9_goes_125 : decode cX9_goes 125 = .ok (.iload 4, 2) := by decide +kernel
theorem dX9_goes_127 : decode cX9_goes 127 = .ok (.istore_n 1, 1) := by decide +kernel
theorem dX9_goes_128 : decode cX9_goes 128 = .ok (.iinc 3 1, 3) := by decide +kernel
theorem dX9_goes_131 : decode cX9_goes 131 = .ok (.goto (-114), 3) := by decide +kernel
theorem dX9_goes_134 : decode cX9_goes 134 = .ok (.aload_n 0, 1) := by decide +kernel
theorem dX9_goes_135 : decode cX9_goes 135 = .ok (.iload_n 2, 1) := by decide +kernel
theorem dX9_goes_136 : decode cX9_goes 136 = .ok (.putfield 205, 3) := by decide +kernel
theorem dX9_goes_139 : decode cX9_goes 139 = .ok (.iconst 1, 1) := by decide +kernel
theorem dX9_goes_140 : decode cX9_goes 140 = .ok (.ireturn, 1) := by decide +kernel
theorem dX9_lossOf_0 : decode cX9_lossOf 0 = .ok (.aload_n 0, 1) := by decide +kernel
theorem dX9_lossOf_1 : decode cX9_lossOf 1 = .ok (.getfield 13, 3) := by decide +kernel
theorem dX9_lossOf_4 : decode cX9_lossOf 4 = .ok (.iconst 3, 1) := by decide +kernel
theorem dX9_lossOf_5 : decode cX9_lossOf 5 = .ok (.iaload, 1) := by decide +kernel
theorem dX9_lossOf_6 : decode cX9_lossOf 6 = .ok (.iconst 0, 1) := by decide +kernel
theorem dX9_lossOf_7 : decode cX9_lossOf 7 = .ok (.iload_n 1, 1) := by decide +kernel
theorem dX9_lossOf_8 : decode cX9_lossOf 8 = .ok (.aload_n 0, 1) := by decide +kernel
theorem dX9_lossOf_9 : decode cX9_lossOf 9 = .ok (.getfield 47, 3) := by decide +kernel
theorem dX9_lossOf_12 : decode cX9_lossOf 12 = .ok (.iload_n 2, 1) := by decide +kernel
theorem dX9_lossOf_13 : decode cX9_lossOf 13 = .ok (.iaload, 1) := by decide +kernel
theorem dX9_lossOf_14 : decode cX9_lossOf 14 = .ok (.isub, 1) := by decide +kernel
theorem dX9_lossOf_15 : decode cX9_lossOf 15 = .ok (.iconst 1, 1) := by decide +kernel
theorem dX9_lossOf_16 : decode cX9_lossOf 16 = .ok (.isub, 1) := by decide +kernel
theorem dX9_lossOf_17 : decode cX9_lossOf 17 = .ok (.invokestatic 187, 3) := by decide +kernel
theorem dX9_lossOf_20 : decode cX9_lossOf 20 = .ok (.imul, 1) := by decide +kernel
theorem dX9_lossOf_21 : decode cX9_lossOf 21 = .ok (.ireturn, 1) := by decide +kernel
theorem dX9_goesOn_0 : decode cX9_goesOn 0 = .ok (.aload_n 0, 1) := by decide +kernel
theorem dX9_goesOn_1 : decode cX9_goesOn 1 = .ok (.getfield 199, 3) := by decide +kernel
theorem dX9_goesOn_4 : decode cX9_goesOn 4 = .ok (.iconst 2, 1) := by decide +kernel
theorem dX9_goesOn_5 : decode cX9_goesOn 5 = .ok (.isub, 1) := by decide +kernel
theorem dX9_goesOn_6 : decode cX9_goesOn 6 = .ok (.istore_n 1, 1) := by decide +kernel
theorem dX9_goesOn_7 : decode cX9_goesOn 7 = .ok (.iload_n 1, 1) := by decide +kernel
theorem dX9_goesOn_8 : decode cX9_goesOn 8 = .ok (.aload_n 0, 1) := by decide +kernel
theorem dX9_goesOn_9 : decode cX9_goesOn 9 = .ok (.getfield 208, 3) := by decide +kernel
theorem dX9_goesOn_12 : decode cX9_goesOn 12 = .ok (.if_icmp .lt 26, 3) := by decide +kernel
theorem dX9_goesOn_15 : decode cX9_goesOn 15 = .ok (.aload_n 0, 1) := by decide +kernel
theorem dX9_goesOn_16 : decode cX9_goesOn 16 = .ok (.getfield 86, 3) := by decide +kernel
theorem dX9_goesOn_19 : decode cX9_goesOn 19 = .ok (.iload_n 1, 1) := by decide +kernel
theorem dX9_goesOn_20 : decode cX9_goesOn 20 = .ok (.iaload, 1) := by decide +kernel
theorem dX9_goesOn_21 : decode cX9_goesOn 21 = .ok (.aload_n 0, 1) := by decide +kernel
theorem dX9_goesOn_22 : decode cX9_goesOn 22 = .ok (.getfield 86, 3) := by decide +kernel
theorem dX9_goesOn_25 : decode cX9_goesOn 25 = .ok (.iload_n 1, 1) := by decide +kernel
theorem dX9_goesOn_26 : decode cX9_goesOn 26 = .ok (.iconst 1, 1) := by decide +kernel
theorem dX9_goesOn_27 : decode cX9_goesOn 27 = .ok (.iadd, 1) := by decide +kernel
theorem dX9_goesOn_28 : decode cX9_goesOn 28 = .ok (.iaload, 1) := by decide +kernel
theorem dX9_goesOn_29 : decode cX9_goesOn 29 = .ok (.if_icmp .le 9, 3) := by decide +kernel
theorem dX9_goesOn_32 : decode cX9_goesOn 32 = .ok (.iinc 1 (-1), 3) := by decide +kernel
theorem dX9_goesOn_35 : decode cX9_goesOn 35 = .ok (.goto (-28), 3) := by decide +kernel
theorem dX9_goesOn_38 : decode cX9_goesOn 38 = .ok (.iload_n 1, 1) := by decide +kernel
theorem dX9_goesOn_39 : decode cX9_goesOn 39 = .ok (.aload_n 0, 1) := by decide +kernel
theorem dX9_goesOn_40 : decode cX9_goesOn 40 = .ok (.getfield 208, 3) := by decide +kernel
theorem dX9_goesOn_43 : decode cX9_goesOn 43 = .ok (.if_icmp .ge 5, 3) := by decide +kernel
theorem dX9_goesOn_46 : decode cX9_goesOn 46 = .ok (.iconst 0, 1) := by decide +kernel
theorem dX9_goesOn_47 : decode cX9_goesOn 47 = .ok (.ireturn, 1) := by decide +kernel
theorem dX9_goesOn_48 : decode cX9_goesOn 48 = .ok (.aload_n 0, 1) := by decide +kernel
theorem dX9_goesOn_49 : decode cX9_goesOn 49 = .ok (.getfield 199, 3) := by decide +kernel
theorem dX9_goesOn_52 : decode cX9_goesOn 52 = .ok (.iconst 1, 1) := by decide +kernel
theorem dX9_goesOn_53 : decode cX9_goesOn 53 = .ok (.isub, 1) := by decide +kernel
theorem dX9_goesOn_54 : decode cX9_goesOn 54 = .ok (.istore_n 2, 1) := by decide +kernel
theorem dX9_goesOn_55 : decode cX9_goesOn 55 = .ok (.aload_n 0, 1) := by decide +kernel
theorem dX9_goesOn_56 : decode cX9_goesOn 56 = .ok (.getfield 86, 3) := by decide +kernel
theorem dX9_goesOn_59 : decode cX9_goesOn 59 = .ok (.iload_n 2, 1) := by decide +kernel
theorem dX9_goesOn_60 : decode cX9_goesOn 60 = .ok (.iaload, 1) := by decide +kernel
theorem dX9_goesOn_61 : decode cX9_goesOn 61 = .ok (.aload_n 0, 1) := by decide +kernel
theorem dX9_goesOn_62 : decode cX9_goesOn 62 = .ok (.getfield 86, 3) := by decide +kernel
theorem dX9_goesOn_65 : decode cX9_goesOn 65 = .ok (.iload_n 1, 1) := by decide +kernel
theorem dX9_goesOn_66 : decode cX9_goesOn 66 = .ok (.iaload, 1) := by decide +kernel
theorem dX9_goesOn_67 : decode cX9_goesOn 67 = .ok (.if_icmp .ge 9, 3) := by decide +kernel
theorem dX9_goesOn_70 : decode cX9_goesOn 70 = .ok (.iinc 2 (-1), 3) := by decide +kernel
theorem dX9_goesOn_73 : decode cX9_goesOn 73 = .ok (.goto (-18), 3) := by decide +kernel
theorem dX9_goesOn_76 : decode cX9_goesOn 76 = .ok (.aload_n 0, 1) := by decide +kernel
theorem dX9_goesOn_77 : decode cX9_goesOn 77 = .ok (.iload_n 1, 1) := by decide +kernel
theorem dX9_goesOn_78 : decode cX9_goesOn 78 = .ok (.iload_n 2, 1) := by decide +kernel
theorem dX9_goesOn_79 : decode cX9_goesOn 79 = .ok (.invokevirtual 211, 3) := by decide +kernel
theorem dX9_goesOn_82 : decode cX9_goesOn 82 = .ok (.iload_n 1, 1) := by decide +kernel
theorem dX9_goesOn_83 : decode cX9_goesOn 83 = .ok (.iconst 1, 1) := by decide +kernel
theorem dX9_goesOn_84 : decode cX9_goesOn 84 = .ok (.iadd, 1) := by decide +kernel
theorem dX9_goesOn_85 : decode cX9_goesOn 85 = .ok (.istore_n 3, 1) := by decide +kernel
theorem dX9_goesOn_86 : decode cX9_goesOn 86 = .ok (.aload_n 0, 1) := by decide +kernel
theorem dX9_goesOn_87 : decode cX9_goesOn 87 = .ok (.getfield 199, 3) := by decide +kernel
theorem dX9_goesOn_90 : decode cX9_goesOn 90 = .ok (.iconst 1, 1) := by decide +kernel
theorem dX9_goesOn_91 : decode cX9_goesOn 91 = .ok (.isub, 1) := by decide +kernel
theorem dX9_goesOn_92 : decode cX9_goesOn 92 = .ok (.istore 4, 2) := by decide +kernel
theorem dX9_goesOn_94 : decode cX9_goesOn 94 = .ok (.iload_n 3, 1) := by decide +kernel
theorem dX9_goesOn_95 : decode cX9_goesOn 95 = .ok (.iload 4, 2) := by decide +kernel
theorem dX9_goesOn_97 : decode cX9_goesOn 97 = .ok (.if_icmp .ge 19, 3) := by decide +kernel
theorem dX9_goesOn_100 : decode cX9_goesOn 100 = .ok (.aload_n 0, 1) := by decide +kernel
theorem dX9_goesOn_101 : decode cX9_goesOn 101 = .ok (.iload_n 3, 1) := by decide +kernel
theorem dX9_goesOn_102 : decode cX9_goesOn 102 = .ok (.iload 4, 2) := by decide +kernel
theorem dX9_goesOn_104 : decode cX9_goesOn 104 = .ok (.invokevirtual 211, 3) := by decide +kernel
theorem dX9_goesOn_107 : decode cX9_goesOn 107 = .ok (.iinc 3 1, 3) := by decide +kernel
theorem dX9_goesOn_110 : decode cX9_goesOn 110 = .ok (.iinc 4 (-1), 3) := by decide +kernel
theorem dX9_goesOn_113 : decode cX9_goesOn 113 = .ok (.goto (-19), 3) := by decide +kernel
theorem dX9_goesOn_116 : decode cX9_goesOn 116 = .ok (.iconst 1, 1) := by decide +kernel
theorem dX9_goesOn_117 : decode cX9_goesOn 117 = .ok (.ireturn, 1) := by decide +kernel
theorem dX9_swaps_0 : decode cX9_swaps 0 = .ok (.aload_n 0, 1) := by decide +kernel
theorem dX9_swaps_1 : decode cX9_swaps 1 = .ok (.getfield 86, 3) := by decide +kernel
theorem dX9_swaps_4 : decode cX9_swaps 4 = .ok (.iload_n 1, 1) := by decide +kernel
theorem dX9_swaps_5 : decode cX9_swaps 5 = .ok (.iaload, 1) := by decide +kernel
theorem dX9_swaps_6 : decode cX9_swaps 6 = .ok (.istore_n 3, 1) := by decide +kernel
theorem dX9_swaps_7 : decode cX9_swaps 7 = .ok (.aload_n 0, 1) := by decide +kernel
theorem dX9_swaps_8 : decode cX9_swaps 8 = .ok (.getfield 86, 3) := by decide +kernel
theorem dX9_swaps_11 : decode cX9_swaps 11 = .ok (.iload_n 1, 1) := by decide +kernel
theorem dX9_swaps_12 : decode cX9_swaps 12 = .ok (.aload_n 0, 1) := by decide +kernel
theorem dX9_swaps_13 : decode cX9_swaps 13 = .ok (.getfield 86, 3) := by decide +kernel
theorem dX9_swaps_16 : decode cX9_swaps 16 = .ok (.iload_n 2, 1) := by decide +kernel
theorem dX9_swaps_17 : decode cX9_swaps 17 = .ok (.iaload, 1) := by decide +kernel
theorem dX9_swaps_18 : decode cX9_swaps 18 = .ok (.iastore, 1) := by decide +kernel
theorem dX9_swaps_19 : decode cX9_swaps 19 = .ok (.aload_n 0, 1) := by decide +kernel
theorem dX9_swaps_20 : decode cX9_swaps 20 = .ok (.getfield 86, 3) := by decide +kernel
theorem dX9_swaps_23 : decode cX9_swaps 23 = .ok (.iload_n 2, 1) := by decide +kernel
theorem dX9_swaps_24 : decode cX9_swaps 24 = .ok (.iload_n 3, 1) := by decide +kernel
theorem dX9_swaps_25 : decode cX9_swaps 25 = .ok (.iastore, 1) := by decide +kernel
theorem dX9_swaps_26 : decode cX9_swaps 26 = .ok (.return_, 1) := by decide +kernel
theorem dX9_firstOrder_0 : decode cX9_firstOrder 0 = .ok (.aload_n 0, 1) := by decide +kernel
theorem dX9_firstOrder_1 : decode cX9_firstOrder 1 = .ok (.iconst 0, 1) := by decide +kernel
theorem dX9_firstOrder_2 : decode cX9_firstOrder 2 = .ok (.putfield 199, 3) := by decide +kernel
theorem dX9_firstOrder_5 : decode cX9_firstOrder 5 = .ok (.aload_n 0, 1) := by decide +kernel
theorem dX9_firstOrder_6 : decode cX9_firstOrder 6 = .ok (.iconst 0, 1) := by decide +kernel
theorem dX9_firstOrder_7 : decode cX9_firstOrder 7 = .ok (.putfield 208, 3) := by decide +kernel
theorem dX9_firstOrder_10 : decode cX9_firstOrder 10 = .ok (.iconst 0, 1) := by decide +kernel
theorem dX9_firstOrder_11 : decode cX9_firstOrder 11 = .ok (.istore_n 1, 1) := by decide +kernel
theorem dX9_firstOrder_12 : decode cX9_firstOrder 12 = .ok (.aload_n 0, 1) := by decide +kernel
theorem dX9_firstOrder_13 : decode cX9_firstOrder 13 = .ok (.getfield 190, 3) := by decide +kernel
theorem dX9_firstOrder_16 : decode cX9_firstOrder 16 = .ok (.ifCond .le 46, 3) := by decide +kernel
theorem dX9_firstOrder_19 : decode cX9_firstOrder 19 = .ok (.aload_n 0, 1) := by decide +kernel
theorem dX9_firstOrder_20 : decode cX9_firstOrder 20 = .ok (.aload_n 0, 1) := by decide +kernel
theorem dX9_firstOrder_21 : decode cX9_firstOrder 21 = .ok (.getfield 190, 3) := by decide +kernel
theorem dX9_firstOrder_24 : decode cX9_firstOrder 24 = .ok (.invokevirtual 215, 3) := by decide +kernel
theorem dX9_firstOrder_27 : decode cX9_firstOrder 27 = .ok (.ifCond .ne 35, 3) := by decide +kernel
theorem dX9_firstOrder_30 : decode cX9_firstOrder 30 = .ok (.aload_n 0, 1) := by decide +kernel
theorem dX9_firstOrder_31 : decode cX9_firstOrder 31 = .ok (.getfield 86, 3) := by decide +kernel
theorem dX9_firstOrder_34 : decode cX9_firstOrder 34 = .ok (.aload_n 0, 1) := by decide +kernel
theorem dX9_firstOrder_35 : decode cX9_firstOrder 35 = .ok (.getfield 199, 3) := by decide +kernel
theorem dX9_firstOrder_38 : decode cX9_firstOrder 38 = .ok (.aload_n 0, 1) := by decide +kernel
theorem dX9_firstOrder_39 : decode cX9_firstOrder 39 = .ok (.getfield 190, 3) := by decide +kernel
theorem dX9_firstOrder_42 : decode cX9_firstOrder 42 = .ok (.iastore, 1) := by decide +kernel
theorem dX9_firstOrder_43 : decode cX9_firstOrder 43 = .ok (.iload_n 1, 1) := by decide +kernel
theorem dX9_firstOrder_44 : decode cX9_firstOrder 44 = .ok (.iconst 1, 1) := by decide +kernel
theorem dX9_firstOrder_45 : decode cX9_firstOrder 45 = .ok (.aload_n 0, 1) := by decide +kernel
theorem dX9_firstOrder_46 : decode cX9_firstOrder 46 = .ok (.getfield 190, 3) := by decide +kernel
theorem dX9_firstOrder_49 : decode cX9_firstOrder 49 = .ok (.ishl, 1) := by decide +kernel
theorem dX9_firstOrder_50 : decode cX9_firstOrder 50 = .ok (.ior, 1) := by decide +kernel
theorem dX9_firstOrder_51 : decode cX9_firstOrder 51 = .ok (.istore_n 1, 1) := by decide +kernel
theorem dX9_firstOrder_52 : decode cX9_firstOrder 52 = .ok (.aload_n 0, 1) := by decide +kernel
theorem dX9_firstOrder_53 : decode cX9_firstOrder 53 = .ok (.dup, 1) := by decide +kernel
theorem dX9_firstOrder_54 : decode cX9_firstOrder 54 = .ok (.getfield 199, 3) := by decide +kernel
theorem dX9_firstOrder_57 : decode cX9_firstOrder 57 = .ok (.iconst 1, 1) := by decide +kernel
theorem dX9_firstOrder_58 : decode cX9_firstOrder 58 = .ok (.iadd, 1) := by decide +kernel
theorem dX9_firstOrder_59 : decode cX9_firstOrder 59 = .ok (.putfield 199, 3) := by decide +kernel
theorem dX9_firstOrder_62 : decode cX9_firstOrder 62 = .ok (.aload_n 0, 1) := by decide +kernel
theorem dX9_firstOrder_63 : decode cX9_firstOrder 63 = .ok (.getfield 13, 3) := by decide +kernel
theorem dX9_firstOrder_66 : decode cX9_firstOrder 66 = .ok (.iconst 4, 1) := by decide +kernel
theorem dX9_firstOrder_67 : decode cX9_firstOrder 67 = .ok (.iaload, 1) := by decide +kernel
theorem dX9_firstOrder_68 : decode cX9_firstOrder 68 = .ok (.istore_n 2, 1) := by decide +kernel
theorem dX9_firstOrder_69 : decode cX9_firstOrder 69 = .ok (.iload_n 2, 1) := by decide +kernel
theorem dX9_firstOrder_70 : decode cX9_firstOrder 70 = .ok (.iconst 1, 1) := by decide +kernel
theorem dX9_firstOrder_71 : decode cX9_firstOrder 71 = .ok (.if_icmp .lt 53, 3) := by decide +kernel
theorem dX9_firstOrder_74 : decode cX9_firstOrder 74 = .ok (.iload_n 2, 1) := by decide +kernel
theorem dX9_firstOrder_75 : decode cX9_firstOrder 75 = .ok (.aload_n 0, 1) := by decide +kernel
theorem dX9_firstOrder_76 : decode cX9_firstOrder 76 = .ok (.getfield 166, 3) := by decide +kernel
theorem dX9_firstOrder_79 : decode cX9_firstOrder 79 = .ok (.if_icmp .gt 45, 3) := by decide +kernel
theorem dX9_firstOrder_82 : decode cX9_firstOrder 82 = .ok (.aload_n 0, 1) := by decide +kernel
theorem dX9_firstOrder_83 : decode cX9_firstOrder 83 = .ok (.iload_n 2, 1) := by decide +kernel
theorem dX9_firstOrder_84 : decode cX9_firstOrder 84 = .ok (.invokevirtual 215, 3) := by decide +kernel
theorem dX9_firstOrder_87 : decode cX9_firstOrder 87 = .ok (.ifCond .ne 37, 3) := by decide +kernel
theorem dX9_firstOrder_90 : decode cX9_firstOrder 90 = .ok (.iload_n 1, 1) := by decide +kernel
theorem dX9_firstOrder_91 : decode cX9_firstOrder 91 = .ok (.iload_n 2, 1) := by decide +kernel
theorem dX9_firstOrder_92 : decode cX9_firstOrder 92 = .ok (.ishr, 1) := by decide +kernel
theorem dX9_firstOrder_93 : decode cX9_firstOrder 93 = .ok (.iconst 1, 1) := by decide +kernel
theorem dX9_firstOrder_94 : decode cX9_firstOrder 94 = .ok (.iand, 1) := by decide +kernel
theorem dX9_firstOrder_95 : decode cX9_firstOrder 95 = .ok (.ifCond .ne 29, 3) := by decide +kernel
theorem dX9_firstOrder_98 : decode cX9_firstOrder 98 = .ok (.aload_n 0, 1) := by decide +kernel
theorem dX9_firstOrder_99 : decode cX9_firstOrder 99 = .ok (.getfield 86, 3) := by decide +kernel
theorem dX9_firstOrder_102 : decode cX9_firstOrder 102 = .ok (.aload_n 0, 1) := by decide +kernel
theorem dX9_firstOrder_103 : decode cX9_firstOrder 103 = .ok (.getfield 199, 3) := by decide +kernel
theorem dX9_firstOrder_106 : decode cX9_firstOrder 106 = .ok (.iload_n 2, 1) := by decide +kernel
theorem dX9_firstOrder_107 : decode cX9_firstOrder 107 = .ok (.iastore, 1) := by decide +kernel
theorem dX9_firstOrder_108 : decode cX9_firstOrder 108 = .ok (.iload_n 1, 1) := by decide +kernel
theorem dX9_firstOrder_109 : decode cX9_firstOrder 109 = .ok (.iconst 1, 1) := by decide +kernel
theorem dX9_firstOrder_110 : decode cX9_firstOrder 110 = .ok (.iload_n 2, 1) := by decide +kernel
theorem dX9_firstOrder_111 : decode cX9_firstOrder 111 = .ok (.ishl, 1) := by decide +kernel
theorem dX9_firstOrder_112 : decode cX9_firstOrder 112 = .ok (.ior, 1) := by decide +kernel
theorem dX9_firstOrder_113 : decode cX9_firstOrder 113 = .ok (.istore_n 1, 1) := by decide +kernel
theorem dX9_firstOrder_114 : decode cX9_firstOrder 114 = .ok (.aload_n 0, 1) := by decide +kernel
theorem dX9_firstOrder_115 : decode cX9_firstOrder 115 = .ok (.dup, 1) := by decide +kernel
theorem dX9_firstOrder_116 : decode cX9_firstOrder 116 = .ok (.getfield 199, 3) := by decide +kernel
theorem dX9_firstOrder_119 : decode cX9_firstOrder 119 = .ok (.iconst 1, 1) := by decide +kernel
theorem dX9_firstOrder_120 : decode cX9_firstOrder 120 = .ok (.iadd, 1) := by decide +kernel
theorem dX9_firstOrder_121 : decode cX9_firstOrder 121 = .ok (.putfield 199, 3) := by decide +kernel
theorem dX9_firstOrder_124 : decode cX9_firstOrder 124 = .ok (.aload_n 0, 1) := by decide +kernel
theorem dX9_firstOrder_125 : decode cX9_firstOrder 125 = .ok (.aload_n 0, 1) := by decide +kernel
theorem dX9_firstOrder_126 : decode cX9_firstOrder 126 = .ok (.getfield 199, 3) := by decide +kernel
theorem dX9_firstOrder_129 : decode cX9_firstOrder 129 = .ok (.putfield 208, 3) := by decide +kernel
theorem dX9_firstOrder_132 : decode cX9_firstOrder 132 = .ok (.iconst 1, 1) := by decide +kernel
theorem dX9_firstOrder_133 : decode cX9_firstOrder 133 = .ok (.istore_n 3, 1) := by decide +kernel
theorem dX9_firstOrder_134 : decode cX9_firstOrder 134 = .ok (.iload_n 3, 1) := by decide +kernel
theorem dX9_firstOrder_135 : decode cX9_firstOrder 135 = .ok (.aload_n 0, 1) := by decide +kernel
theorem dX9_firstOrder_136 : decode cX9_firstOrder 136 = .ok (.getfield 166, 3) := by decide +kernel
theorem dX9_firstOrder_139 : decode cX9_firstOrder 139 = .ok (.if_icmp .gt 49, 3) := by decide +kernel
theorem dX9_firstOrder_142 : decode cX9_firstOrder 142 = .ok (.aload_n 0, 1) := by decide +kernel
theorem dX9_firstOrder_143 : decode cX9_firstOrder 143 = .ok (.iload_n 3, 1) := by decide +kernel
theorem dX9_firstOrder_144 : decode cX9_firstOrder 144 = .ok (.invokevirtual 215, 3) := by decide +kernel
theorem dX9_firstOrder_147 : decode cX9_firstOrder 147 = .ok (.ifCond .ne 35, 3) := by decide +kernel
theorem dX9_firstOrder_150 : decode cX9_firstOrder 150 = .ok (.iload_n 1, 1) := by decide +kernel
theorem dX9_firstOrder_151 : decode cX9_firstOrder 151 = .ok (.iload_n 3, 1) := by decide +kernel
theorem dX9_firstOrder_152 : decode cX9_firstOrder 152 = .ok (.ishr, 1) := by decide +kernel
theorem dX9_firstOrder_153 : decode cX9_firstOrder 153 = .ok (.iconst 1, 1) := by decide +kernel
theorem dX9_firstOrder_154 : decode cX9_firstOrder 154 = .ok (.iand, 1) := by decide +kernel
theorem dX9_firstOrder_155 : decode cX9_firstOrder 155 = .ok (.iconst 1, 1) := by decide +kernel
theorem dX9_firstOrder_156 : decode cX9_firstOrder 156 = .ok (.if_icmp .ne 6, 3) := by decide +kernel
theorem dX9_firstOrder_159 : decode cX9_firstOrder 159 = .ok (.goto 23, 3) := by decide +kernel
theorem dX9_firstOrder_162 : decode cX9_firstOrder 162 = .ok (.aload_n 0, 1) := by decide +kernel
theorem dX9_firstOrder_163 : decode cX9_firstOrder 163 = .ok (.getfield 86, 3) := by decide +kernel
theorem dX9_firstOrder_166 : decode cX9_firstOrder 166 = .ok (.aload_n 0, 1) := by decide +kernel
theorem dX9_firstOrder_167 : decode cX9_firstOrder 167 = .ok (.getfield 199, 3) := by decide +kernel
theorem dX9_firstOrder_170 : decode cX9_firstOrder 170 = .ok (.iload_n 3, 1) := by decide +kernel
theorem dX9_firstOrder_171 : decode cX9_firstOrder 171 = .ok (.iastore, 1) := by decide +kernel
theorem dX9_firstOrder_172 : decode cX9_firstOrder 172 = .ok (.aload_n 0, 1) := by decide +kernel
theorem dX9_firstOrder_173 : decode cX9_firstOrder 173 = .ok (.dup, 1) := by decide +kernel
theorem dX9_firstOrder_174 : decode cX9_firstOrder 174 = .ok (.getfield 199, 3) := by decide +kernel
theorem dX9_firstOrder_177 : decode cX9_firstOrder 177 = .ok (.iconst 1, 1) := by decide +kernel
theorem dX9_firstOrder_178 : decode cX9_firstOrder 178 = .ok (.iadd, 1) := by decide +kernel
theorem dX9_firstOrder_179 : decode cX9_firstOrder 179 = .ok (.putfield 199, 3) := by decide +kernel
theorem dX9_firstOrder_182 : decode cX9_firstOrder 182 = .ok (.iinc 3 1, 3) := by decide +kernel
theorem dX9_firstOrder_185 : decode cX9_firstOrder 185 = .ok (.goto (-51), 3) := by decide +kernel
theorem dX9_firstOrder_188 : decode cX9_firstOrder 188 = .ok (.return_, 1) := by decide +kernel
theorem dX9_plan_0 : decode cX9_plan 0 = .ok (.aload_n 0, 1) := by decide +kernel
theorem dX9_plan_1 : decode cX9_plan 1 = .ok (.iconst 0, 1) := by decide +kernel
theorem dX9_plan_2 : decode cX9_plan 2 = .ok (.putfield 95, 3) := by decide +kernel
theorem dX9_plan_5 : decode cX9_plan 5 = .ok (.aload_n 0, 1) := by decide +kernel
theorem dX9_plan_6 : decode cX9_plan 6 = .ok (.invokevirtual 218, 3) := by decide +kernel
theorem dX9_plan_9 : decode cX9_plan 9 = .ok (.aload_n 0, 1) := by decide +kernel
theorem dX9_plan_10 : decode cX9_plan 10 = .ok (.getfield 199, 3) := by decide +kernel
theorem dX9_plan_13 : decode cX9_plan 13 = .ok (.ifCond .eq 10, 3) := by decide +kernel
theorem dX9_plan_16 : decode cX9_plan 16 = .ok (.aload_n 0, 1) := by decide +kernel
theorem dX9_plan_17 : decode cX9_plan 17 = .ok (.getfield 221, 3) := by decide +kernel
theorem dX9_plan_20 : decode cX9_plan 20 = .ok (.ifCond .le 5, 3) := by decide +kernel
theorem dX9_plan_23 : decode cX9_plan 23 = .ok (.iconst (-1), 1) := by decide +kernel
theorem dX9_plan_24 : decode cX9_plan 24 = .ok (.ireturn, 1) := by decide +kernel
theorem dX9_plan_25 : decode cX9_plan 25 = .ok (.iconst 1, 1) := by decide +kernel
theorem dX9_plan_26 : decode cX9_plan 26 = .ok (.istore_n 1, 1) := by decide +kernel
theorem dX9_plan_27 : decode cX9_plan 27 = .ok (.iload_n 1, 1) := by decide +kernel
theorem dX9_plan_28 : decode cX9_plan 28 = .ok (.aload_n 0, 1) := by decide +kernel
theorem dX9_plan_29 : decode cX9_plan 29 = .ok (.getfield 166, 3) := by decide +kernel
theorem dX9_plan_32 : decode cX9_plan 32 = .ok (.if_icmp .gt 20, 3) := by decide +kernel
theorem dX9_plan_35 : decode cX9_plan 35 = .ok (.aload_n 0, 1) := by decide +kernel
theorem dX9_plan_36 : decode cX9_plan 36 = .ok (.getfield 89, 3) := by decide +kernel
theorem dX9_plan_39 : decode cX9_plan 39 = .ok (.iload_n 1, 1) := by decide +kernel
theorem dX9_plan_40 : decode cX9_plan 40 = .ok (.aload_n 0, 1) := by decide +kernel
theorem dX9_plan_41 : decode cX9_plan 41 = .ok (.iload_n 1, 1) := by decide +kernel
theorem dX9_plan_42 : decode cX9_plan 42 = .ok (.invokevirtual 224, 3) := by decide +kernel
theorem dX9_plan_45 : decode cX9_plan 45 = .ok (.iastore, 1) := by decide +kernel
theorem dX9_plan_46 : decode cX9_plan 46 = .ok (.iinc 1 1, 3) := by decide +kernel
theorem dX9_plan_49 : decode cX9_plan 49 = .ok (.goto (-22), 3) := by decide +kernel
theorem dX9_plan_52 : decode cX9_plan 52 = .ok (.iconst (-1), 1) := by decide +kernel
theorem dX9_plan_53 : decode cX9_plan 53 = .ok (.istore_n 1, 1) := by decide +kernel
theorem dX9_plan_54 : decode cX9_plan 54 = .ok (.iconst 0, 1) := by decide +kernel
theorem dX9_plan_55 : decode cX9_plan 55 = .ok (.istore_n 2, 1) := by decide +kernel
theorem dX9_plan_56 : decode cX9_plan 56 = .ok (.iconst 1, 1) := by decide +kernel
theorem dX9_plan_57 : decode cX9_plan 57 = .ok (.istore_n 3, 1) := by decide +kernel
theorem dX9_plan_58 : decode cX9_plan 58 = .ok (.iload_n 3, 1) := by decide +kernel
theorem dX9_plan_59 : decode cX9_plan 59 = .ok (.ifCond .eq 89, 3) := by decide +kernel
theorem dX9_plan_62 : decode cX9_plan 62 = .ok (.aload_n 0, 1) := by decide +kernel
theorem dX9_plan_63 : decode cX9_plan 63 = .ok (.invokevirtual 228, 3) := by decide +kernel
theorem dX9_plan_66 : decode cX9_plan 66 = .ok (.ifCond .eq 74, 3) := by decide +kernel
theorem dX9_plan_69 : decode cX9_plan 69 = .ok (.iload_n 1, 1) := by decide +kernel
theorem dX9_plan_70 : decode cX9_plan 70 = .ok (.iconst (-1), 1) := by decide +kernel
theorem dX9_plan_71 : decode cX9_plan 71 = .ok (.if_icmp .eq 27, 3) := by decide +kernel
theorem dX9_plan_74 : decode cX9_plan 74 = .ok (.aload_n 0, 1) := by decide +kernel
theorem dX9_plan_75 : decode cX9_plan 75 = .ok (.getfield 196, 3) := by decide +kernel
theorem dX9_plan_78 : decode cX9_plan 78 = .ok (.iload_n 1, 1) := by decide +kernel
theorem dX9_plan_79 : decode cX9_plan 79 = .ok (.if_icmp .lt 19, 3) := by decide +kernel
theorem dX9_plan_82 : decode cX9_plan 82 = .ok (.aload_n 0, 1) := by decide +kernel
theorem dX9_plan_83 : decode cX9_plan 83 = .ok (.getfield 196, 3) := by decide +kernel
