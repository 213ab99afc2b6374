theorem dX8_init_0 : decode cX8_init 0 = .ok (.aload_n 0, 1) := by decide +kernel
theorem dX8_init_1 : decode cX8_init 1 = .ok (.invokespecial 3, 3) := by decide +kernel
theorem dX8_init_4 : decode cX8_init 4 = .ok (.aload_n 0, 1) := by decide +kernel
theorem dX8_init_5 : decode cX8_init 5 = .ok (.new 9, 3) := by decide +kernel
theorem dX8_init_8 : decode cX8_init 8 = .ok (.dup, 1) := by decide +kernel
theorem dX8_init_9 : decode cX8_init 9 = .ok (.invokespecial 11, 3) := by decide +kernel
theorem dX8_init_12 : decode cX8_init 12 = .ok (.putfield 12, 3) := by decide +kernel
theorem dX8_init_15 : decode cX8_init 15 = .ok (.aload_n 0, 1) := by decide +kernel
theorem dX8_init_16 : decode cX8_init 16 = .ok (.new 16, 3) := by decide +kernel
theorem dX8_init_19 : decode cX8_init 19 = .ok (.dup, 1) := by decide +kernel
theorem dX8_init_20 : decode cX8_init 20 = .ok (.invokespecial 18, 3) := by decide +kernel
theorem dX8_init_23 : decode cX8_init 23 = .ok (.putfield 19, 3) := by decide +kernel
theorem dX8_init_26 : decode cX8_init 26 = .ok (.aload_n 0, 1) := by decide +kernel
theorem dX8_init_27 : decode cX8_init 27 = .ok (.new 23, 3) := by decide +kernel
theorem dX8_init_30 : decode cX8_init 30 = .ok (.dup, 1) := by decide +kernel
theorem dX8_init_31 : decode cX8_init 31 = .ok (.invokespecial 25, 3) := by decide +kernel
theorem dX8_init_34 : decode cX8_init 34 = .ok (.putfield 26, 3) := by decide +kernel
theorem dX8_init_37 : decode cX8_init 37 = .ok (.aload_n 0, 1) := by decide +kernel
theorem dX8_init_38 : decode cX8_init 38 = .ok (.new 30, 3) := by decide +kernel
theorem dX8_init_41 : decode cX8_init 41 = .ok (.dup, 1) := by decide +kernel
theorem dX8_init_42 : decode cX8_init 42 = .ok (.invokespecial 32, 3) := by decide +kernel
theorem dX8_init_45 : decode cX8_init 45 = .ok (.putfield 33, 3) := by decide +kernel
theorem dX8_init_48 : decode cX8_init 48 = .ok (.aload_n 0, 1) := by decide +kernel
theorem dX8_init_49 : decode cX8_init 49 = .ok (.new 37, 3) := by decide +kernel
theorem dX8_init_52 : decode cX8_init 52 = .ok (.dup, 1) := by decide +kernel
theorem dX8_init_53 : decode cX8_init 53 = .ok (.invokespecial 39, 3) := by decide +kernel
theorem dX8_init_56 : decode cX8_init 56 = .ok (.putfield 40, 3) := by decide +kernel
theorem dX8_init_59 : decode cX8_init 59 = .ok (.aload_n 0, 1) := by decide +kernel
theorem dX8_init_60 : decode cX8_init 60 = .ok (.new 44, 3) := by decide +kernel
theorem dX8_init_63 : decode cX8_init 63 = .ok (.dup, 1) := by decide +kernel
theorem dX8_init_64 : decode cX8_init 64 = .ok (.invokespecial 46, 3) := by decide +kernel
theorem dX8_init_67 : decode cX8_init 67 = .ok (.putfield 47, 3) := by decide +kernel
theorem dX8_init_70 : decode cX8_init 70 = .ok (.aload_n 0, 1) := by decide +kernel
theorem dX8_init_71 : decode cX8_init 71 = .ok (.new 51, 3) := by decide +kernel
theorem dX8_init_74 : decode cX8_init 74 = .ok (.dup, 1) := by decide +kernel
theorem dX8_init_75 : decode cX8_init 75 = .ok (.invokespecial 53, 3) := by decide +kernel
theorem dX8_init_78 : decode cX8_init 78 = .ok (.putfield 54, 3) := by decide +kernel
theorem dX8_init_81 : decode cX8_init 81 = .ok (.aload_n 0, 1) := by decide +kernel
theorem dX8_init_82 : decode cX8_init 82 = .ok (.new 58, 3) := by decide +kernel
theorem dX8_init_85 : decode cX8_init 85 = .ok (.dup, 1) := by decide +kernel
theorem dX8_init_86 : decode cX8_init 86 = .ok (.invokespecial 60, 3) := by decide +kernel
theorem dX8_init_89 : decode cX8_init 89 = .ok (.putfield 61, 3) := by decide +kernel
theorem dX8_init_92 : decode cX8_init 92 = .ok (.return_, 1) := by decide +kernel
theorem dX8_feed_0 : decode cX8_feed 0 = .ok (.aload_n 0, 1) := by decide +kernel
theorem dX8_feed_1 : decode cX8_feed 1 = .ok (.getfield 12, 3) := by decide +kernel
theorem dX8_feed_4 : decode cX8_feed 4 = .ok (.bipush 20, 2) := by decide +kernel
theorem dX8_feed_6 : decode cX8_feed 6 = .ok (.invokevirtual 65, 3) := by decide +kernel
theorem dX8_feed_9 : decode cX8_feed 9 = .ok (.ifCond .ne 5, 3) := by decide +kernel
theorem dX8_feed_12 : decode cX8_feed 12 = .ok (.iconst (-1), 1) := by decide +kernel
theorem dX8_feed_13 : decode cX8_feed 13 = .ok (.ireturn, 1) := by decide +kernel
theorem dX8_feed_14 : decode cX8_feed 14 = .ok (.aload_n 0, 1) := by decide +kernel
theorem dX8_feed_15 : decode cX8_feed 15 = .ok (.getfield 12, 3) := by decide +kernel
theorem dX8_feed_18 : decode cX8_feed 18 = .ok (.iload_n 1, 1) := by decide +kernel
theorem dX8_feed_19 : decode cX8_feed 19 = .ok (.invokevirtual 69, 3) := by decide +kernel
theorem dX8_feed_22 : decode cX8_feed 22 = .ok (.aload_n 0, 1) := by decide +kernel
theorem dX8_feed_23 : decode cX8_feed 23 = .ok (.getfield 12, 3) := by decide +kernel
theorem dX8_feed_26 : decode cX8_feed 26 = .ok (.iload_n 2, 1) := by decide +kernel
theorem dX8_feed_27 : decode cX8_feed 27 = .ok (.invokevirtual 69, 3) := by decide +kernel
theorem dX8_feed_30 : decode cX8_feed 30 = .ok (.aload_n 0, 1) := by decide +kernel
theorem dX8_feed_31 : decode cX8_feed 31 = .ok (.getfield 12, 3) := by decide +kernel
theorem dX8_feed_34 : decode cX8_feed 34 = .ok (.iload_n 3, 1) := by decide +kernel
theorem dX8_feed_35 : decode cX8_feed 35 = .ok (.invokevirtual 69, 3) := by decide +kernel
theorem dX8_feed_38 : decode cX8_feed 38 = .ok (.aload_n 0, 1) := by decide +kernel
theorem dX8_feed_39 : decode cX8_feed 39 = .ok (.getfield 12, 3) := by decide +kernel
theorem dX8_feed_42 : decode cX8_feed 42 = .ok (.iload 4, 2) := by decide +kernel
theorem dX8_feed_44 : decode cX8_feed 44 = .ok (.invokevirtual 69, 3) := by decide +kernel
theorem dX8_feed_47 : decode cX8_feed 47 = .ok (.aload_n 0, 1) := by decide +kernel
theorem dX8_feed_48 : decode cX8_feed 48 = .ok (.getfield 12, 3) := by decide +kernel
theorem dX8_feed_51 : decode cX8_feed 51 = .ok (.iload 5, 2) := by decide +kernel
theorem dX8_feed_53 : decode cX8_feed 53 = .ok (.invokevirtual 69, 3) := by decide +kernel
theorem dX8_feed_56 : decode cX8_feed 56 = .ok (.aload_n 0, 1) := by decide +kernel
theorem dX8_feed_57 : decode cX8_feed 57 = .ok (.getfield 12, 3) := by decide +kernel
theorem dX8_feed_60 : decode cX8_feed 60 = .ok (.getfield 73, 3) := by decide +kernel
theorem dX8_feed_63 : decode cX8_feed 63 = .ok (.ireturn, 1) := by decide +kernel
theorem dX8_customs_0 : decode cX8_customs 0 = .ok (.iload_n 1, 1) := by decide +kernel
theorem dX8_customs_1 : decode cX8_customs 1 = .ok (.ifCond .lt 14, 3) := by decide +kernel
theorem dX8_customs_4 : decode cX8_customs 4 = .ok (.iload_n 1, 1) := by decide +kernel
theorem dX8_customs_5 : decode cX8_customs 5 = .ok (.aload_n 0, 1) := by decide +kernel
theorem dX8_customs_6 : decode cX8_customs 6 = .ok (.getfield 12, 3) := by decide +kernel
theorem dX8_customs_9 : decode cX8_customs 9 = .ok (.getfield 73, 3) := by decide +kernel
theorem dX8_customs_12 : decode cX8_customs 12 = .ok (.if_icmp .le 6, 3) := by decide +kernel
theorem dX8_customs_15 : decode cX8_customs 15 = .ok (.bipush (-2), 2) := by decide +kernel
theorem dX8_customs_17 : decode cX8_customs 17 = .ok (.ireturn, 1) := by decide +kernel
theorem dX8_customs_18 : decode cX8_customs 18 = .ok (.aload_n 0, 1) := by decide +kernel
theorem dX8_customs_19 : decode cX8_customs 19 = .ok (.getfield 19, 3) := by decide +kernel
theorem dX8_customs_22 : decode cX8_customs 22 = .ok (.aload_n 0, 1) := by decide +kernel
theorem dX8_customs_23 : decode cX8_customs 23 = .ok (.getfield 12, 3) := by decide +kernel
theorem dX8_customs_26 : decode cX8_customs 26 = .ok (.iload_n 1, 1) := by decide +kernel
theorem dX8_customs_27 : decode cX8_customs 27 = .ok (.invokevirtual 77, 3) := by decide +kernel
theorem dX8_customs_30 : decode cX8_customs 30 = .ok (.istore_n 2, 1) := by decide +kernel
theorem dX8_customs_31 : decode cX8_customs 31 = .ok (.aload_n 0, 1) := by decide +kernel
theorem dX8_customs_32 : decode cX8_customs 32 = .ok (.getfield 12, 3) := by decide +kernel
theorem dX8_customs_35 : decode cX8_customs 35 = .ok (.iconst 0, 1) := by decide +kernel
theorem dX8_customs_36 : decode cX8_customs 36 = .ok (.putfield 73, 3) := by decide +kernel
theorem dX8_customs_39 : decode cX8_customs 39 = .ok (.iload_n 2, 1) := by decide +kernel
theorem dX8_customs_40 : decode cX8_customs 40 = .ok (.ireturn, 1) := by decide +kernel
theorem dX8_fault_0 : decode cX8_fault 0 = .ok (.iload_n 1, 1) := by decide +kernel
theorem dX8_fault_1 : decode cX8_fault 1 = .ok (.lookupswitch 43 #[(0, 27), (1, 35)], 27) := by decide +kernel
theorem dX8_fault_28 : decode cX8_fault 28 = .ok (.aload_n 0, 1) := by decide +kernel
theorem dX8_fault_29 : decode cX8_fault 29 = .ok (.getfield 19, 3) := by decide +kernel
theorem dX8_fault_32 : decode cX8_fault 32 = .ok (.getfield 81, 3) := by decide +kernel
theorem dX8_fault_35 : decode cX8_fault 35 = .ok (.ireturn, 1) := by decide +kernel
theorem dX8_fault_36 : decode cX8_fault 36 = .ok (.aload_n 0, 1) := by decide +kernel
theorem dX8_fault_37 : decode cX8_fault 37 = .ok (.getfield 19, 3) := by decide +kernel
theorem dX8_fault_40 : decode cX8_fault 40 = .ok (.getfield 84, 3) := by decide +kernel
theorem dX8_fault_43 : decode cX8_fault 43 = .ok (.ireturn, 1) := by decide +kernel
theorem dX8_fault_44 : decode cX8_fault 44 = .ok (.iconst (-1), 1) := by decide +kernel
theorem dX8_fault_45 : decode cX8_fault 45 = .ok (.ireturn, 1) := by decide +kernel
theorem dX8_farm_0 : decode cX8_farm 0 = .ok (.iload_n 1, 1) := by decide +kernel
theorem dX8_farm_1 : decode cX8_farm 1 = .ok (.iconst 1, 1) := by decide +kernel
theorem dX8_farm_2 : decode cX8_farm 2 = .ok (.sipush 300, 3) := by decide +kernel
theorem dX8_farm_5 : decode cX8_farm 5 = .ok (.invokestatic 87, 3) := by decide +kernel
theorem dX8_farm_8 : decode cX8_farm 8 = .ok (.ifCond .eq 61, 3) := by decide +kernel
theorem dX8_farm_11 : decode cX8_farm 11 = .ok (.iload_n 2, 1) := by decide +kernel
theorem dX8_farm_12 : decode cX8_farm 12 = .ok (.iconst 0, 1) := by decide +kernel
theorem dX8_farm_13 : decode cX8_farm 13 = .ok (.bipush 9, 2) := by decide +kernel
theorem dX8_farm_15 : decode cX8_farm 15 = .ok (.invokestatic 87, 3) := by decide +kernel
theorem dX8_farm_18 : decode cX8_farm 18 = .ok (.ifCond .eq 51, 3) := by decide +kernel
theorem dX8_farm_21 : decode cX8_farm 21 = .ok (.iload_n 3, 1) := by decide +kernel
theorem dX8_farm_22 : decode cX8_farm 22 = .ok (.iconst 0, 1) := by decide +kernel
theorem dX8_farm_23 : decode cX8_farm 23 = .ok (.bipush 12, 2) := by decide +kernel
theorem dX8_farm_25 : decode cX8_farm 25 = .ok (.invokestatic 87, 3) := by decide +kernel
theorem dX8_farm_28 : decode cX8_farm 28 = .ok (.ifCond .eq 41, 3) := by decide +kernel
theorem dX8_farm_31 : decode cX8_farm 31 = .ok (.iload 4, 2) := by decide +kernel
theorem dX8_farm_33 : decode cX8_farm 33 = .ok (.iconst 0, 1) := by decide +kernel
theorem dX8_farm_34 : decode cX8_farm 34 = .ok (.bipush 12, 2) := by decide +kernel
theorem dX8_farm_36 : decode cX8_farm 36 = .ok (.invokestatic 87, 3) := by decide +kernel
theorem dX8_farm_39 : decode cX8_farm 39 = .ok (.ifCond .eq 30, 3) := by decide +kernel
theorem dX8_farm_42 : decode cX8_farm 42 = .ok (.iload 5, 2) := by decide +kernel
theorem dX8_farm_44 : decode cX8_farm 44 = .ok (.iconst 0, 1) := by decide +kernel
theorem dX8_farm_45 : decode cX8_farm 45 = .ok (.bipush 99, 2) := by decide +kernel
theorem dX8_farm_47 : decode cX8_farm 47 = .ok (.invokestatic 87, 3) := by decide +kernel
theorem dX8_farm_50 : decode cX8_farm 50 = .ok (.ifCond .eq 19, 3) := by decide +kernel
theorem dX8_farm_53 : decode cX8_farm 53 = .ok (.iload 6, 2) := by decide +kernel
theorem dX8_farm_55 : decode cX8_farm 55 = .ok (.iload 5, 2) := by decide +kernel
theorem dX8_farm_57 : decode cX8_farm 57 = .ok (.bipush 99, 2) := by decide +kernel
theorem dX8_farm_59 : decode cX8_farm 59 = .ok (.invokestatic 87, 3) := by decide +kernel
theorem dX8_farm_62 : decode cX8_farm 62 = .ok (.ifCond .eq 7, 3) := by decide +kernel
theorem dX8_farm_65 : decode cX8_farm 65 = .ok (.iconst 1, 1) := by decide +kernel
theorem dX8_farm_66 : decode cX8_farm 66 = .ok (.goto 4, 3) := by decide +kernel
theorem dX8_farm_69 : decode cX8_farm 69 = .ok (.iconst 0, 1) := by decide +kernel
theorem dX8_farm_70 : decode cX8_farm 70 = .ok (.istore 7, 2) := by decide +kernel
theorem dX8_farm_72 : decode cX8_farm 72 = .ok (.iload 7, 2) := by decide +kernel
theorem dX8_farm_74 : decode cX8_farm 74 = .ok (.ifCond .eq 15, 3) := by decide +kernel
theorem dX8_farm_77 : decode cX8_farm 77 = .ok (.aload_n 0, 1) := by decide +kernel
theorem dX8_farm_78 : decode cX8_farm 78 = .ok (.getfield 26, 3) := by decide +kernel
theorem dX8_farm_81 : decode cX8_farm 81 = .ok (.getfield 91, 3) := by decide +kernel
theorem dX8_farm_84 : decode cX8_farm 84 = .ok (.bipush 7, 2) := by decide +kernel
theorem dX8_farm_86 : decode cX8_farm 86 = .ok (.if_icmp .lt 5, 3) := by decide +kernel
theorem dX8_farm_89 : decode cX8_farm 89 = .ok (.iconst (-1), 1) := by decide +kernel
theorem dX8_farm_90 : decode cX8_farm 90 = .ok (.ireturn, 1) := by decide +kernel
theorem dX8_farm_91 : decode cX8_farm 91 = .ok (.aload_n 0, 1) := by decide +kernel
theorem dX8_farm_92 : decode cX8_farm 92 = .ok (.getfield 26, 3) := by decide +kernel
theorem dX8_farm_95 : decode cX8_farm 95 = .ok (.invokevirtual 94, 3) := by decide +kernel
theorem dX8_farm_98 : decode cX8_farm 98 = .ok (.istore 8, 2) := by decide +kernel
theorem dX8_farm_100 : decode cX8_farm 100 = .ok (.aload_n 0, 1) := by decide +kernel
theorem dX8_farm_101 : decode cX8_farm 101 = .ok (.getfield 26, 3) := by decide +kernel
theorem dX8_farm_104 : decode cX8_farm 104 = .ok (.getfield 98, 3) := by decide +kernel
theorem dX8_farm_107 : decode cX8_farm 107 = .ok (.iload 8, 2) := by decide +kernel
theorem dX8_farm_109 : decode cX8_farm 109 = .ok (.iload_n 1, 1) := by decide +kernel
theorem dX8_farm_110 : decode cX8_farm 110 = .ok (.invokestatic 102, 3) := by decide +kernel
theorem dX8_farm_113 : decode cX8_farm 113 = .ok (.aload_n 0, 1) := by decide +kernel
theorem dX8_farm_114 : decode cX8_farm 114 = .ok (.getfield 26, 3) := by decide +kernel
theorem dX8_farm_117 : decode cX8_farm 117 = .ok (.getfield 106, 3) := by decide +kernel
theorem dX8_farm_120 : decode cX8_farm 120 = .ok (.iload 8, 2) := by decide +kernel
theorem dX8_farm_122 : decode cX8_farm 122 = .ok (.iload_n 1, 1) := by decide +kernel
theorem dX8_farm_123 : decode cX8_farm 123 = .ok (.invokestatic 102, 3) := by decide +kernel
theorem dX8_farm_126 : decode cX8_farm 126 = .ok (.aload_n 0, 1) := by decide +kernel
theorem dX8_farm_127 : decode cX8_farm 127 = .ok (.getfield 26, 3) := by decide +kernel
theorem dX8_farm_130 : decode cX8_farm 130 = .ok (.getfield 109, 3) := by decide +kernel
theorem dX8_farm_133 : decode cX8_farm 133 = .ok (.iload 8, 2) := by decide +kernel
theorem dX8_farm_135 : decode cX8_farm 135 = .ok (.iload_n 2, 1) := by decide +kernel
theorem dX8_farm_136 : decode cX8_farm 136 = .ok (.invokestatic 102, 3) := by decide +kernel
theorem dX8_farm_139 : decode cX8_farm 139 = .ok (.aload_n 0, 1) := by decide +kernel
theorem dX8_farm_140 : decode cX8_farm 140 = .ok (.getfield 26, 3) := by decide +kernel
theorem dX8_farm_143 : decode cX8_farm 143 = .ok (.getfield 112, 3) := by decide +kernel
theorem dX8_farm_146 : decode cX8_farm 146 = .ok (.iload 8, 2) := by decide +kernel
theorem dX8_farm_148 : decode cX8_farm 148 = .ok (.iload_n 3, 1) := by decide +kernel
theorem dX8_farm_149 : decode cX8_farm 149 = .ok (.invokestatic 102, 3) := by decide +kernel
theorem dX8_farm_152 : decode cX8_farm 152 = .ok (.aload_n 0, 1) := by decide +kernel
theorem dX8_farm_153 : decode cX8_farm 153 = .ok (.getfield 26, 3) := by decide +kernel
theorem dX8_farm_156 : decode cX8_farm 156 = .ok (.getfield 115, 3) := by decide +kernel
theorem dX8_farm_159 : decode cX8_farm 159 = .ok (.iload 8, 2) := by decide +kernel
theorem dX8_farm_161 : decode cX8_farm 161 = .ok (.iload 4, 2) := by decide +kernel
theorem dX8_farm_163 : decode cX8_farm 163 = .ok (.invokestatic 102, 3) := by decide +kernel
theorem dX8_farm_166 : decode cX8_farm 166 = .ok (.aload_n 0, 1) := by decide +kernel
theorem dX8_farm_167 : decode cX8_farm 167 = .ok (.getfield 26, 3) := by decide +kernel
theorem dX8_farm_170 : decode cX8_farm 170 = .ok (.getfield 118, 3) := by decide +kernel
theorem dX8_farm_173 : decode cX8_farm 173 = .ok (.iload 8, 2) := by decide +kernel
theorem dX8_farm_175 : decode cX8_farm 175 = .ok (.iload 5, 2) := by decide +kernel
theorem dX8_farm_177 : decode cX8_farm 177 = .ok (.invokestatic 102, 3) := by decide +kernel
theorem dX8_farm_180 : decode cX8_farm 180 = .ok (.aload_n 0, 1) := by decide +kernel
theorem dX8_farm_181 : decode cX8_farm 181 = .ok (.getfield 26, 3) := by decide +kernel
theorem dX8_farm_184 : decode cX8_farm 184 = .ok (.getfield 121, 3) := by decide +kernel
theorem dX8_farm_187 : decode cX8_farm 187 = .ok (.iload 8, 2) := by decide +kernel
theorem dX8_farm_189 : decode cX8_farm 189 = .ok (.iload 6, 2) := by decide +kernel
theorem dX8_farm_191 : decode cX8_farm 191 = .ok (.invokestatic 102, 3) := by decide +kernel
theorem dX8_farm_194 : decode cX8_farm 194 = .ok (.iload 8, 2) := by decide +kernel
theorem dX8_farm_196 : decode cX8_farm 196 = .ok (.ireturn, 1) := by decide +kernel
theorem dX8_way_0 : decode cX8_way 0 = .ok (.aload_n 0, 1) := by decide +kernel
theorem dX8_way_1 : decode cX8_way 1 = .ok (.iload_n 1, 1) := by decide +kernel
theorem dX8_way_2 : decode cX8_way 2 = .ok (.invokevirtual 124, 3) := by decide +kernel
theorem dX8_way_5 : decode cX8_way 5 = .ok (.ifCond .eq 26, 3) := by decide +kernel
theorem dX8_way_8 : decode cX8_way 8 = .ok (.aload_n 0, 1) := by decide +kernel
theorem dX8_way_9 : decode cX8_way 9 = .ok (.iload_n 2, 1) := by decide +kernel
theorem dX8_way_10 : decode cX8_way 10 = .ok (.invokevirtual 124, 3) := by decide +kernel
theorem dX8_way_13 : decode cX8_way 13 = .ok (.ifCond .eq 18, 3) := by decide +kernel
theorem dX8_way_16 : decode cX8_way 16 = .ok (.iload_n 1, 1) := by decide +kernel
theorem dX8_way_17 : decode cX8_way 17 = .ok (.iload_n 2, 1) := by decide +kernel
theorem dX8_way_18 : decode cX8_way 18 = .ok (.if_icmp .eq 13, 3) := by decide +kernel
theorem dX8_way_21 : decode cX8_way 21 = .ok (.iload_n 3, 1) := by decide +kernel
theorem dX8_way_22 : decode cX8_way 22 = .ok (.iconst (-1), 1) := by decide +kernel
theorem dX8_way_23 : decode cX8_way 23 = .ok (.bipush 9, 2) := by decide +kernel
theorem dX8_way_25 : decode cX8_way 25 = .ok (.invokestatic 87, 3) := by decide +kernel
theorem dX8_way_28 : decode cX8_way 28 = .ok (.ifCond .ne 5, 3) := by decide +kernel
theorem dX8_way_31 : decode cX8_way 31 = .ok (.iconst 0, 1) := by decide +kernel
theorem dX8_way_32 : decode cX8_way 32 = .ok (.ireturn, 1) := by decide +kernel
theorem dX8_way_33 : decode cX8_way 33 = .ok (.aload_n 0, 1) := by decide +kernel
theorem dX8_way_34 : decode cX8_way 34 = .ok (.getfield 33, 3) := by decide +kernel
theorem dX8_way_37 : decode cX8_way 37 = .ok (.getfield 127, 3) := by decide +kernel
theorem dX8_way_40 : decode cX8_way 40 = .ok (.iload_n 1, 1) := by decide +kernel
theorem dX8_way_41 : decode cX8_way 41 = .ok (.iload_n 2, 1) := by decide +kernel
theorem dX8_way_42 : decode cX8_way 42 = .ok (.iload_n 3, 1) := by decide +kernel
theorem dX8_way_43 : decode cX8_way 43 = .ok (.invokestatic 131, 3) := by decide +kernel
theorem dX8_way_46 : decode cX8_way 46 = .ok (.aload_n 0, 1) := by decide +kernel
theorem dX8_way_47 : decode cX8_way 47 = .ok (.getfield 33, 3) := by decide +kernel
theorem dX8_way_50 : decode cX8_way 50 = .ok (.getfield 127, 3) := by decide +kernel
theorem dX8_way_53 : decode cX8_way 53 = .ok (.iload_n 2, 1) := by decide +kernel
theorem dX8_way_54 : decode cX8_way 54 = .ok (.iload_n 1, 1) := by decide +kernel
theorem dX8_way_55 : decode cX8_way 55 = .ok (.iload_n 3, 1) := by decide +kernel
theorem dX8_way_56 : decode cX8_way 56 = .ok (.invokestatic 131, 3) := by decide +kernel
theorem dX8_way_59 : decode cX8_way 59 = .ok (.iconst 1, 1) := by decide +kernel
theorem dX8_way_60 : decode cX8_way 60 = .ok (.ireturn, 1) := by decide +kernel
theorem dX8_bargain_0 : decode cX8_bargain 0 = .ok (.aload_n 0, 1) := by decide +kernel
theorem dX8_bargain_1 : decode cX8_bargain 1 = .ok (.getfield 26, 3) := by decide +kernel
theorem dX8_bargain_4 : decode cX8_bargain 4 = .ok (.iload_n 1, 1) := by decide +kernel
theorem dX8_bargain_5 : decode cX8_bargain 5 = .ok (.invokevirtual 134, 3) := by decide +kernel
theorem dX8_bargain_8 : decode cX8_bargain 8 = .ok (.ifCond .eq 23, 3) := by decide +kernel
theorem dX8_bargain_11 : decode cX8_bargain 11 = .ok (.iload_n 2, 1) := by decide +kernel
theorem dX8_bargain_12 : decode cX8_bargain 12 = .ok (.iconst 0, 1) := by decide +kernel
theorem dX8_bargain_13 : decode cX8_bargain 13 = .ok (.iconst 1, 1) := by decide +kernel
theorem dX8_bargain_14 : decode cX8_bargain 14 = .ok (.invokestatic 87, 3) := by decide +kernel
theorem dX8_bargain_17 : decode cX8_bargain 17 = .ok (.ifCond .eq 14, 3) := by decide +kernel
theorem dX8_bargain_20 : decode cX8_bargain 20 = .ok (.iload_n 3, 1) := by decide +kernel
theorem dX8_bargain_21 : decode cX8_bargain 21 = .ok (.iconst 0, 1) := by decide +kernel
theorem dX8_bargain_22 : decode cX8_bargain 22 = .ok (.sipush 999, 3) := by decide +kernel
theorem dX8_bargain_25 : decode cX8_bargain 25 = .ok (.invokestatic 87, 3) := by decide +kernel
theorem dX8_bargain_28 : decode cX8_bargain 28 = .ok (.ifCond .ne 5, 3) := by decide +kernel
theorem dX8_bargain_31 : decode cX8_bargain 31 = .ok (.iconst 0, 1) := by decide +kernel
theorem dX8_bargain_32 : decode cX8_bargain 32 = .ok (.ireturn, 1) := by decide +kernel
theorem dX8_bargain_33 : decode cX8_bargain 33 = .ok (.aload_n 0, 1) := by decide +kernel
theorem dX8_bargain_34 : decode cX8_bargain 34 = .ok (.getfield 26, 3) := by decide +kernel
theorem dX8_bargain_37 : decode cX8_bargain 37 = .ok (.getfield 137, 3) := by decide +kernel
theorem dX8_bargain_40 : decode cX8_bargain 40 = .ok (.iload_n 1, 1) := by decide +kernel
theorem dX8_bargain_41 : decode cX8_bargain 41 = .ok (.iload_n 2, 1) := by decide +kernel
theorem dX8_bargain_42 : decode cX8_bargain 42 = .ok (.invokestatic 102, 3) := by decide +kernel
theorem dX8_bargain_45 : decode cX8_bargain 45 = .ok (.aload_n 0, 1) := by decide +kernel
theorem dX8_bargain_46 : decode cX8_bargain 46 = .ok (.getfield 26, 3) := by decide +kernel
theorem dX8_bargain_49 : decode cX8_bargain 49 = .ok (.getfield 140, 3) := by decide +kernel
theorem dX8_bargain_52 : decode cX8_bargain 52 = .ok (.iload_n 1, 1) := by decide +kernel
theorem dX8_bargain_53 : decode cX8_bargain 53 = .ok (.iload_n 3, 1) := by decide +kernel
theorem dX8_bargain_54 : decode cX8_bargain 54 = .ok (.invokestatic 102, 3) := by decide +kernel
theorem dX8_bargain_57 : decode cX8_bargain 57 = .ok (.iconst 1, 1) := by decide +kernel
theorem dX8_bargain_58 : decode cX8_bargain 58 = .ok (.ireturn, 1) := by decide +kernel
theorem dX8_plan_0 : decode cX8_plan 0 = .ok (.aload_n 0, 1) := by decide +kernel
theorem dX8_plan_1 : decode cX8_plan 1 = .ok (.getfield 61, 3) := by decide +kernel
theorem dX8_plan_4 : decode cX8_plan 4 = .ok (.getfield 143, 3) := by decide +kernel
theorem dX8_plan_7 : decode cX8_plan 7 = .ok (.ifCond .le 5, 3) := by decide +kernel
theorem dX8_plan_10 : decode cX8_plan 10 = .ok (.iconst (-1), 1) := by decide +kernel
theorem dX8_plan_11 : decode cX8_plan 11 = .ok (.ireturn, 1) := by decide +kernel
theorem dX8_plan_12 : decode cX8_plan 12 = .ok (.aload_n 0, 1) := by decide +kernel
theorem dX8_plan_13 : decode cX8_plan 13 = .ok (.invokevirtual 146, 3) := by decide +kernel
theorem dX8_plan_16 : decode cX8_plan 16 = .ok (.aload_n 0, 1) := by decide +kernel
theorem dX8_plan_17 : decode cX8_plan 17 = .ok (.getfield 47, 3) := by decide +kernel
theorem dX8_plan_20 : decode cX8_plan 20 = .ok (.aload_n 0, 1) := by decide +kernel
theorem dX8_plan_21 : decode cX8_plan 21 = .ok (.getfield 33, 3) := by decide +kernel
theorem dX8_plan_24 : decode cX8_plan 24 = .ok (.aload_n 0, 1) := by decide +kernel
theorem dX8_plan_25 : decode cX8_plan 25 = .ok (.getfield 61, 3) := by decide +kernel
theorem dX8_plan_28 : decode cX8_plan 28 = .ok (.getfield 149, 3) := by decide +kernel
theorem dX8_plan_31 : decode cX8_plan 31 = .ok (.aload_n 0, 1) := by decide +kernel
theorem dX8_plan_32 : decode cX8_plan 32 = .ok (.getfield 61, 3) := by decide +kernel
theorem dX8_plan_35 : decode cX8_plan 35 = .ok (.getfield 152, 3) := by decide +kernel
theorem dX8_plan_38 : decode cX8_plan 38 = .ok (.invokevirtual 155, 3) := by decide +kernel
theorem dX8_plan_41 : decode cX8_plan 41 = .ok (.ifCond .ne 5, 3) := by decide +kernel
theorem dX8_plan_44 : decode cX8_plan 44 = .ok (.iconst (-1), 1) := by decide +kernel
theorem dX8_plan_45 : decode cX8_plan 45 = .ok (.ireturn, 1) := by decide +kernel
theorem dX8_plan_46 : decode cX8_plan 46 = .ok (.aload_n 0, 1) := by decide +kernel
theorem dX8_plan_47 : decode cX8_plan 47 = .ok (.getfield 54, 3) := by decide +kernel
theorem dX8_plan_50 : decode cX8_plan 50 = .ok (.aload_n 0, 1) := by decide +kernel
theorem dX8_plan_51 : decode cX8_plan 51 = .ok (.getfield 47, 3) := by decide +kernel
theorem dX8_plan_54 : decode cX8_plan 54 = .ok (.aload_n 0, 1) := by decide +kernel
theorem dX8_plan_55 : decode cX8_plan 55 = .ok (.getfield 33, 3) := by decide +kernel
theorem dX8_plan_58 : decode cX8_plan 58 = .ok (.aload_n 0, 1) := by decide +kernel
theorem dX8_plan_59 : decode cX8_plan 59 = .ok (.getfield 61, 3) := by decide +kernel
theorem dX8_plan_62 : decode cX8_plan 62 = .ok (.getfield 149, 3) := by decide +kernel
theorem dX8_plan_65 : decode cX8_plan 65 = .ok (.aload_n 0, 1) := by decide +kernel
theorem dX8_plan_66 : decode cX8_plan 66 = .ok (.getfield 61, 3) := by decide +kernel
theorem dX8_plan_69 : decode cX8_plan 69 = .ok (.getfield 152, 3) := by decide +kernel
theorem dX8_plan_72 : decode cX8_plan 72 = .ok (.invokevirtual 159, 3) := by decide +kernel
theorem dX8_plan_75 : decode cX8_plan 75 = .ok (.aload_n 0, 1) := by decide +kernel
theorem dX8_plan_76 : decode cX8_plan 76 = .ok (.getfield 61, 3) := by decide +kernel
theorem dX8_plan_79 : decode cX8_plan 79 = .ok (.iconst 0, 1) := by decide +kernel
theorem dX8_plan_80 : decode cX8_plan 80 = .ok (.putfield 163, 3) := by decide +kernel
theorem dX8_plan_83 : decode cX8_plan 83 = .ok (.aload_n 0, 1) := by decide +kernel
theorem dX8_plan_84 : decode cX8_plan 84 = .ok (.getfield 47, 3) := by decide +kernel
theorem dX8_plan_87 : decode cX8_plan 87 = .ok (.getfield 167, 3) := by decide +kernel
theorem dX8_plan_90 : decode cX8_plan 90 = .ok (.ireturn, 1) := by decide +kernel
theorem dX8_planned_0 : decode cX8_planned 0 = .ok (.iload_n 1, 1) := by decide +kernel
theorem dX8_planned_1 : decode cX8_planned 1 = .ok (.iconst 0, 1) := by decide +kernel
theorem dX8_planned_2 : decode cX8_planned 2 = .ok (.aload_n 0, 1) := by decide +kernel
theorem dX8_planned_3 : decode cX8_planned 3 = .ok (.getfield 54, 3) := by decide +kernel
theorem dX8_planned_6 : decode cX8_planned 6 = .ok (.getfield 170, 3) := by decide +kernel
theorem dX8_planned_9 : decode cX8_planned 9 = .ok (.iconst 1, 1) := by decide +kernel
theorem dX8_planned_10 : decode cX8_planned 10 = .ok (.isub, 1) := by decide +kernel
theorem dX8_planned_11 : decode cX8_planned 11 = .ok (.invokestatic 87, 3) := by decide +kernel
theorem dX8_planned_14 : decode cX8_planned 14 = .ok (.ifCond .ne 5, 3) := by decide +kernel
theorem dX8_planned_17 : decode cX8_planned 17 = .ok (.iconst (-1), 1) := by decide +kernel
theorem dX8_planned_18 : decode cX8_planned 18 = .ok (.ireturn, 1) := by decide +kernel
theorem dX8_planned_19 : decode cX8_planned 19 = .ok (.iload_n 2, 1) := by decide +kernel
theorem dX8_planned_20 : decode cX8_planned 20 = .ok (.tableswitch 96 0 4 #[36, 48, 60, 72, 84], 36) := by decide +kernel
theorem dX8_planned_56 : decode cX8_planned 56 = .ok (.aload_n 0, 1) := by decide +kernel
theorem dX8_planned_57 : decode cX8_planned 57 = .ok (.getfield 54, 3) := by decide +kernel
theorem dX8_planned_60 : decode cX8_planned 60 = .ok (.getfield 171, 3) := by decide +kernel
theorem dX8_planned_63 : decode cX8_planned 63 = .ok (.iload_n 1, 1) := by decide +kernel
theorem dX8_planned_64 : decode cX8_planned 64 = .ok (.invokestatic 174, 3) := by decide +kernel
theorem dX8_planned_67 : decode cX8_planned 67 = .ok (.ireturn, 1) := by decide +kernel
theorem dX8_planned_68 : decode cX8_planned 68 = .ok (.aload_n 0, 1) := by decide +kernel
theorem dX8_planned_69 : decode cX8_planned 69 = .ok (.getfield 54, 3) := by decide +kernel
theorem dX8_planned_72 : decode cX8_planned 72 = .ok (.getfield 178, 3) := by decide +kernel
theorem dX8_planned_75 : decode cX8_planned 75 = .ok (.iload_n 1, 1) := by decide +kernel
theorem dX8_planned_76 : decode cX8_planned 76 = .ok (.invokestatic 174, 3) := by decide +kernel
theorem dX8_planned_79 : decode cX8_planned 79 = .ok (.ireturn, 1) := by decide +kernel
theorem dX8_planned_80 : decode cX8_planned 80 = .ok (.aload_n 0, 1) := by decide +kernel
theorem dX8_planned_81 : decode cX8_planned 81 = .ok (.getfield 54, 3) := by decide +kernel
theorem dX8_planned_84 : decode cX8_planned 84 = .ok (.getfield 181, 3) := by decide +kernel
theorem dX8_planned_87 : decode cX8_planned 87 = .ok (.iload_n 1, 1) := by decide +kernel
theorem dX8_planned_88 : decode cX8_planned 88 = .ok (.invokestatic 174, 3) := by decide +kernel
theorem dX8_planned_91 : decode cX8_planned 91 = .ok (.ireturn, 1) := by decide +kernel
theorem dX8_planned_92 : decode cX8_planned 92 = .ok (.aload_n 0, 1) := by decide +kernel
theorem dX8_planned_93 : decode cX8_planned 93 = .ok (.getfield 54, 3) := by decide +kernel
theorem dX8_planned_96 : decode cX8_planned 96 = .ok (.getfield 184, 3) := by decide +kernel
theorem dX8_planned_99 : decode cX8_planned 99 = .ok (.iload_n 1, 1) := by decide +kernel
theorem dX8_planned_100 : decode cX8_planned 100 = .ok (.invokestatic 174, 3) := by decide +kernel
theorem dX8_planned_103 : decode cX8_planned 103 = .ok (.ireturn, 1) := by decide +kernel
theorem dX8_planned_104 : decode cX8_planned 104 = .ok (.aload_n 0, 1) := by decide +kernel
theorem dX8_planned_105 : decode cX8_planned 105 = .ok (.getfield 54, 3) := by decide +kernel
theorem dX8_planned_108 : decode cX8_planned 108 = .ok (.getfield 187, 3) := by decide +kernel
theorem dX8_planned_111 : decode cX8_planned 111 = .ok (.iload_n 1, 1) := by decide +kernel
theorem dX8_planned_112 : decode cX8_planned 112 = .ok (.invokestatic 174, 3) := by decide +kernel
theorem dX8_planned_115 : decode cX8_planned 115 = .ok (.ireturn, 1) := by decide +kernel
theorem dX8_planned_116 : decode cX8_planned 116 = .ok (.iconst (-1), 1) := by decide +kernel
theorem dX8_planned_117 : decode cX8_planned 117 = .ok (.ireturn, 1) := by decide +kernel
theorem dX8_out_0 : decode cX8_out 0 = .ok (.aload_n 0, 1) := by decide +kernel
theorem dX8_out_1 : decode cX8_out 1 = .ok (.getfield 54, 3) := by decide +kernel
theorem dX8_out_4 : decode cX8_out 4 = .ok (.getfield 170, 3) := by decide +kernel
theorem dX8_out_7 : decode cX8_out 7 = .ok (.ifCond .eq 30, 3) := by decide +kernel
theorem dX8_out_10 : decode cX8_out 10 = .ok (.aload_n 0, 1) := by decide +kernel
theorem dX8_out_11 : decode cX8_out 11 = .ok (.getfield 54, 3) := by decide +kernel
theorem dX8_out_14 : decode cX8_out 14 = .ok (.getfield 190, 3) := by decide +kernel
theorem dX8_out_17 : decode cX8_out 17 = .ok (.ifCond .ne 20, 3) := by decide +kernel
theorem dX8_out_20 : decode cX8_out 20 = .ok (.aload_n 0, 1) := by decide +kernel
theorem dX8_out_21 : decode cX8_out 21 = .ok (.getfield 54, 3) := by decide +kernel
theorem dX8_out_24 : decode cX8_out 24 = .ok (.getfield 193, 3) := by decide +kernel
theorem dX8_out_27 : decode cX8_out 27 = .ok (.aload_n 0, 1) := by decide +kernel
theorem dX8_out_28 : decode cX8_out 28 = .ok (.getfield 61, 3) := by decide +kernel
theorem dX8_out_31 : decode cX8_out 31 = .ok (.getfield 152, 3) := by decide +kernel
theorem dX8_out_34 : decode cX8_out 34 = .ok (.if_icmp .eq 5, 3) := by decide +kernel
theorem dX8_out_37 : decode cX8_out 37 = .ok (.iconst 0, 1) := by decide +kernel
theorem dX8_out_38 : decode cX8_out 38 = .ok (.ireturn, 1) := by decide +kernel
theorem dX8_out_39 : decode cX8_out 39 = .ok (.aload_n 0, 1) := by decide +kernel
theorem dX8_out_40 : decode cX8_out 40 = .ok (.getfield 54, 3) := by decide +kernel
theorem dX8_out_43 : decode cX8_out 43 = .ok (.getfield 171, 3) := by decide +kernel
theorem dX8_out_46 : decode cX8_out 46 = .ok (.iconst 0, 1) := by decide +kernel
theorem dX8_out_47 : decode cX8_out 47 = .ok (.invokestatic 174, 3) := by decide +kernel
theorem dX8_out_50 : decode cX8_out 50 = .ok (.istore_n 1, 1) := by decide +kernel
theorem dX8_out_51 : decode cX8_out 51 = .ok (.aload_n 0, 1) := by decide +kernel
theorem dX8_out_52 : decode cX8_out 52 = .ok (.getfield 33, 3) := by decide +kernel
theorem dX8_out_55 : decode cX8_out 55 = .ok (.aload_n 0, 1) := by decide +kernel
theorem dX8_out_56 : decode cX8_out 56 = .ok (.getfield 61, 3) := by decide +kernel
theorem dX8_out_59 : decode cX8_out 59 = .ok (.getfield 149, 3) := by decide +kernel
theorem dX8_out_62 : decode cX8_out 62 = .ok (.iload_n 1, 1) := by decide +kernel
theorem dX8_out_63 : decode cX8_out 63 = .ok (.invokevirtual 196, 3) := by decide +kernel
theorem dX8_out_66 : decode cX8_out 66 = .ok (.iconst (-1), 1) := by decide +kernel
theorem dX8_out_67 : decode cX8_out 67 = .ok (.if_icmp .ne 5, 3) := by decide +kernel
theorem dX8_out_70 : decode cX8_out 70 = .ok (.iconst 0, 1) := by decide +kernel
theorem dX8_out_71 : decode cX8_out 71 = .ok (.ireturn, 1) := by decide +kernel
theorem dX8_out_72 : decode cX8_out 72 = .ok (.aload_n 0, 1) := by decide +kernel
theorem dX8_out_73 : decode cX8_out 73 = .ok (.getfield 54, 3) := by decide +kernel
theorem dX8_out_76 : decode cX8_out 76 = .ok (.iconst 1, 1) := by decide +kernel
theorem dX8_out_77 : decode cX8_out 77 = .ok (.putfield 190, 3) := by decide +kernel
theorem dX8_out_80 : decode cX8_out 80 = .ok (.aload_n 0, 1) := by decide +kernel
theorem dX8_out_81 : decode cX8_out 81 = .ok (.getfield 61, 3) := by decide +kernel
theorem dX8_out_84 : decode cX8_out 84 = .ok (.iconst 1, 1) := by decide +kernel
theorem dX8_out_85 : decode cX8_out 85 = .ok (.putfield 163, 3) := by decide +kernel
theorem dX8_out_88 : decode cX8_out 88 = .ok (.aload_n 0, 1) := by decide +kernel
theorem dX8_out_89 : decode cX8_out 89 = .ok (.getfield 61, 3) := by decide +kernel
theorem dX8_out_92 : decode cX8_out 92 = .ok (.iconst 0, 1) := by decide +kernel
theorem dX8_out_93 : decode cX8_out 93 = .ok (.putfield 200, 3) := by decide +kernel
theorem dX8_out_96 : decode cX8_out 96 = .ok (.aload_n 0, 1) := by decide +kernel
theorem dX8_out_97 : decode cX8_out 97 = .ok (.iload_n 1, 1) := by decide +kernel
theorem dX8_out_98 : decode cX8_out 98 = .ok (.invokevirtual 203, 3) := by decide +kernel
theorem dX8_out_101 : decode cX8_out 101 = .ok (.iconst 1, 1) := by decide +kernel
theorem dX8_out_102 : decode cX8_out 102 = .ok (.ireturn, 1) := by decide +kernel
theorem dX8_breaks_0 : decode cX8_breaks 0 = .ok (.iload_n 1, 1) := by decide +kernel
theorem dX8_breaks_1 : decode cX8_breaks 1 = .ok (.iconst 1, 1) := by decide +kernel
theorem dX8_breaks_2 : decode cX8_breaks 2 = .ok (.bipush 9, 2) := by decide +kernel
theorem dX8_breaks_4 : decode cX8_breaks 4 = .ok (.invokestatic 87, 3) := by decide +kernel
theorem dX8_breaks_7 : decode cX8_breaks 7 = .ok (.ifCond .ne 5, 3) := by decide +kernel
theorem dX8_breaks_10 : decode cX8_breaks 10 = .ok (.iconst 0, 1) := by decide +kernel
theorem dX8_breaks_11 : decode cX8_breaks 11 = .ok (.ireturn, 1) := by decide +kernel
theorem dX8_breaks_12 : decode cX8_breaks 12 = .ok (.aload_n 0, 1) := by decide +kernel
theorem dX8_breaks_13 : decode cX8_breaks 13 = .ok (.getfield 61, 3) := by decide +kernel
theorem dX8_breaks_16 : decode cX8_breaks 16 = .ok (.iload_n 1, 1) := by decide +kernel
theorem dX8_breaks_17 : decode cX8_breaks 17 = .ok (.putfield 206, 3) := by decide +kernel
theorem dX8_breaks_20 : decode cX8_breaks 20 = .ok (.iconst 1, 1) := by decide +kernel
theorem dX8_breaks_21 : decode cX8_breaks 21 = .ok (.ireturn, 1) := by decide +kernel
theorem dX8_day_0 : decode cX8_day 0 = .ok (.iload_n 1, 1) := by decide +kernel
theorem dX8_day_1 : decode cX8_day 1 = .ok (.iconst 1, 1) := by decide +kernel
theorem dX8_day_2 : decode cX8_day 2 = .ok (.bipush 99, 2) := by decide +kernel
theorem dX8_day_4 : decode cX8_day 4 = .ok (.invokestatic 87, 3) := by decide +kernel
theorem dX8_day_7 : decode cX8_day 7 = .ok (.ifCond .eq 18, 3) := by decide +kernel
theorem dX8_day_10 : decode cX8_day 10 = .ok (.aload_n 0, 1) := by decide +kernel
theorem dX8_day_11 : decode cX8_day 11 = .ok (.getfield 61, 3) := by decide +kernel
theorem dX8_day_14 : decode cX8_day 14 = .ok (.getfield 152, 3) := by decide +kernel
theorem dX8_day_17 : decode cX8_day 17 = .ok (.iload_n 1, 1) := by decide +kernel
theorem dX8_day_18 : decode cX8_day 18 = .ok (.iadd, 1) := by decide +kernel
theorem dX8_day_19 : decode cX8_day 19 = .ok (.sipush 999, 3) := by decide +kernel
theorem dX8_day_22 : decode cX8_day 22 = .ok (.if_icmp .le 5, 3) := by decide +kernel
theorem dX8_day_25 : decode cX8_day 25 = .ok (.iconst (-1), 1) := by decide +kernel
theorem dX8_day_26 : decode cX8_day 26 = .ok (.ireturn, 1) := by decide +kernel
theorem dX8_day_27 : decode cX8_day 27 = .ok (.iconst 0, 1) := by decide +kernel
theorem dX8_day_28 : decode cX8_day 28 = .ok (.istore_n 2, 1) := by decide +kernel
theorem dX8_day_29 : decode cX8_day 29 = .ok (.iload_n 2, 1) := by decide +kernel
theorem dX8_day_30 : decode cX8_day 30 = .ok (.iload_n 1, 1) := by decide +kernel
theorem dX8_day_31 : decode cX8_day 31 = .ok (.if_icmp .ge 13, 3) := by decide +kernel
theorem dX8_day_34 : decode cX8_day 34 = .ok (.aload_n 0, 1) := by decide +kernel
theorem dX8_day_35 : decode cX8_day 35 = .ok (.invokevirtual 209, 3) := by decide +kernel
theorem dX8_day_38 : decode cX8_day 38 = .ok (.iinc 2 1, 3) := by decide +kernel
theorem dX8_day_41 : decode cX8_day 41 = .ok (.goto (-12), 3) := by decide +kernel
theorem dX8_day_44 : decode cX8_day 44 = .ok (.aload_n 0, 1) := by decide +kernel
theorem dX8_day_45 : decode cX8_day 45 = .ok (.getfield 61, 3) := by decide +kernel
theorem dX8_day_48 : decode cX8_day 48 = .ok (.getfield 152, 3) := by decide +kernel
theorem dX8_day_51 : decode cX8_day 51 = .ok (.ireturn, 1) := by decide +kernel
theorem dX8_look_0 : decode cX8_look 0 = .ok (.aload_n 0, 1) := by decide +kernel
theorem dX8_look_1 : decode cX8_look 1 = .ok (.getfield 26, 3) := by decide +kernel
theorem dX8_look_4 : decode cX8_look 4 = .ok (.iload_n 1, 1) := by decide +kernel
theorem dX8_look_5 : decode cX8_look 5 = .ok (.invokevirtual 134, 3) := by decide +kernel
theorem dX8_look_8 : decode cX8_look 8 = .ok (.ifCond .ne 5, 3) := by decide +kernel
theorem dX8_look_11 : decode cX8_look 11 = .ok (.iconst (-1), 1) := by decide +kernel
theorem dX8_look_12 : decode cX8_look 12 = .ok (.ireturn, 1) := by decide +kernel
theorem dX8_look_13 : decode cX8_look 13 = .ok (.iload_n 2, 1) := by decide +kernel
theorem dX8_look_14 : decode cX8_look 14 = .ok (.tableswitch 112 0 7 #[46, 58, 64, 76, 88, 94, 100, 106], 46) := by decide +kernel
theorem dX8_look_60 : decode cX8_look 60 = .ok (.aload_n 0, 1) := by decide +kernel
theorem dX8_look_61 : decode cX8_look 61 = .ok (.getfield 26, 3) := by decide +kernel
theorem dX8_look_64 : decode cX8_look 64 = .ok (.getfield 106, 3) := by decide +kernel
theorem dX8_look_67 : decode cX8_look 67 = .ok (.iload_n 1, 1) := by decide +kernel
theorem dX8_look_68 : decode cX8_look 68 = .ok (.invokestatic 174, 3) := by decide +kernel
theorem dX8_look_71 : decode cX8_look 71 = .ok (.ireturn, 1) := by decide +kernel
theorem dX8_look_72 : decode cX8_look 72 = .ok (.aload_n 0, 1) := by decide +kernel
theorem dX8_look_73 : decode cX8_look 73 = .ok (.iload_n 1, 1) := by decide +kernel
theorem dX8_look_74 : decode cX8_look 74 = .ok (.invokevirtual 212, 3) := by decide +kernel
theorem dX8_look_77 : decode cX8_look 77 = .ok (.ireturn, 1) := by decide +kernel
theorem dX8_look_78 : decode cX8_look 78 = .ok (.aload_n 0, 1) := by decide +kernel
theorem dX8_look_79 : decode cX8_look 79 = .ok (.getfield 26, 3) := by decide +kernel
theorem dX8_look_82 : decode cX8_look 82 = .ok (.getfield 216, 3) := by decide +kernel
theorem dX8_look_85 : decode cX8_look 85 = .ok (.iload_n 1, 1) := by decide +kernel
theorem dX8_look_86 : decode cX8_look 86 = .ok (.invokestatic 174, 3) := by decide +kernel
theorem dX8_look_89 : decode cX8_look 89 = .ok (.ireturn, 1) := by decide +kernel
theorem dX8_look_90 : decode cX8_look 90 = .ok (.aload_n 0, 1) := by decide +kernel
theorem dX8_look_91 : decode cX8_look 91 = .ok (.getfield 26, 3) := by decide +kernel
theorem dX8_look_94 : decode cX8_look 94 = .ok (.getfield 218, 3) := by decide +kernel
theorem dX8_look_97 : decode cX8_look 97 = .ok (.iload_n 1, 1) := by decide +kernel
theorem dX8_look_98 : decode cX8_look 98 = .ok (.invokestatic 174, 3) := by decide +kernel
theorem dX8_look_101 : decode cX8_look 101 = .ok (.ireturn, 1) := by decide +kernel
theorem dX8_look_102 : decode cX8_look 102 = .ok (.aload_n 0, 1) := by decide +kernel
theorem dX8_look_103 : decode cX8_look 103 = .ok (.iload_n 1, 1) := by decide +kernel
theorem dX8_look_104 : decode cX8_look 104 = .ok (.invokevirtual 221, 3) := by decide +kernel
theorem dX8_look_107 : decode cX8_look 107 = .ok (.ireturn, 1) := by decide +kernel
theorem dX8_look_108 : decode cX8_look 108 = .ok (.aload_n 0, 1) := by decide +kernel
theorem dX8_look_109 : decode cX8_look 109 = .ok (.iload_n 1, 1) := by decide +kernel
theorem dX8_look_110 : decode cX8_look 110 = .ok (.invokevirtual 224, 3) := by decide +kernel
theorem dX8_look_113 : decode cX8_look 113 = .ok (.ireturn, 1) := by decide +kernel
theorem dX8_look_114 : decode cX8_look 114 = .ok (.aload_n 0, 1) := by decide +kernel
theorem dX8_look_115 : decode cX8_look 115 = .ok (.iload_n 1, 1) := by decide +kernel
theorem dX8_look_116 : decode cX8_look 116 = .ok (.invokevirtual 227, 3) := by decide +kernel
theorem dX8_look_119 : decode cX8_look 119 = .ok (.ireturn, 1) := by decide +kernel
theorem dX8_look_120 : decode cX8_look 120 = .ok (.aload_n 0, 1) := by decide +kernel
theorem dX8_look_121 : decode cX8_look 121 = .ok (.iload_n 1, 1) := by decide +kernel
theorem dX8_look_122 : decode cX8_look 122 = .ok (.invokevirtual 230, 3) := by decide +kernel
theorem dX8_look_125 : decode cX8_look 125 = .ok (.ireturn, 1) := by decide +kernel
theorem dX8_look_126 : decode cX8_look 126 = .ok (.iconst (-1), 1) := by decide +kernel
theorem dX8_look_127 : decode cX8_look 127 = .ok (.ireturn, 1) := by decide +kernel
theorem dX8_owed_0 : decode cX8_owed 0 = .ok (.aload_n 0, 1) := by decide +kernel
theorem dX8_owed_1 : decode cX8_owed 1 = .ok (.iload_n 1, 1) := by decide +kernel
theorem dX8_owed_2 : decode cX8_owed 2 = .ok (.iload_n 2, 1) := by decide +kernel
theorem dX8_owed_3 : decode cX8_owed 3 = .ok (.invokevirtual 233, 3) := by decide +kernel
theorem dX8_owed_6 : decode cX8_owed 6 = .ok (.ifCond .eq 18, 3) := by decide +kernel
theorem dX8_owed_9 : decode cX8_owed 9 = .ok (.aload_n 0, 1) := by decide +kernel
theorem dX8_owed_10 : decode cX8_owed 10 = .ok (.getfield 40, 3) := by decide +kernel
theorem dX8_owed_13 : decode cX8_owed 13 = .ok (.getfield 237, 3) := by decide +kernel
theorem dX8_owed_16 : decode cX8_owed 16 = .ok (.iload_n 1, 1) := by decide +kernel
theorem dX8_owed_17 : decode cX8_owed 17 = .ok (.iload_n 2, 1) := by decide +kernel
theorem dX8_owed_18 : decode cX8_owed 18 = .ok (.invokestatic 240, 3) := by decide +kernel
theorem dX8_owed_21 : decode cX8_owed 21 = .ok (.goto 5, 3) := by decide +kernel
theorem dX8_owed_24 : decode cX8_owed 24 = .ok (.ldc 245, 2) := by decide +kernel
theorem dX8_owed_26 : decode cX8_owed 26 = .ok (.ireturn, 1) := by decide +kernel
theorem dX8_lent_0 : decode cX8_lent 0 = .ok (.aload_n 0, 1) := by decide +kernel
theorem dX8_lent_1 : decode cX8_lent 1 = .ok (.iload_n 1, 1) := by decide +kernel
theorem dX8_lent_2 : decode cX8_lent 2 = .ok (.iload_n 2, 1) := by decide +kernel
theorem dX8_lent_3 : decode cX8_lent 3 = .ok (.invokevirtual 233, 3) := by decide +kernel
theorem dX8_lent_6 : decode cX8_lent 6 = .ok (.ifCond .ne 5, 3) := by decide +kernel
theorem dX8_lent_9 : decode cX8_lent 9 = .ok (.iconst (-1), 1) := by decide +kernel
theorem dX8_lent_10 : decode cX8_lent 10 = .ok (.ireturn, 1) := by decide +kernel
theorem dX8_lent_11 : decode cX8_lent 11 = .ok (.aload_n 0, 1) := by decide +kernel
theorem dX8_lent_12 : decode cX8_lent 12 = .ok (.iload_n 1, 1) := by decide +kernel
theorem dX8_lent_13 : decode cX8_lent 13 = .ok (.invokevirtual 224, 3) := by decide +kernel
theorem dX8_lent_16 : decode cX8_lent 16 = .ok (.pop, 1) := by decide +kernel
theorem dX8_lent_17 : decode cX8_lent 17 = .ok (.aload_n 0, 1) := by decide +kernel
theorem dX8_lent_18 : decode cX8_lent 18 = .ok (.getfield 40, 3) := by decide +kernel
theorem dX8_lent_21 : decode cX8_lent 21 = .ok (.getfield 246, 3) := by decide +kernel
theorem dX8_lent_24 : decode cX8_lent 24 = .ok (.iload_n 2, 1) := by decide +kernel
theorem dX8_lent_25 : decode cX8_lent 25 = .ok (.invokestatic 174, 3) := by decide +kernel
theorem dX8_lent_28 : decode cX8_lent 28 = .ok (.ireturn, 1) := by decide +kernel
theorem dX8_count_0 : decode cX8_count 0 = .ok (.iload_n 1, 1) := by decide +kernel
theorem dX8_count_1 : decode cX8_count 1 = .ok (.tableswitch 104 0 6 #[43, 51, 59, 67, 75, 83, 99], 43) := by decide +kernel
theorem dX8_count_44 : decode cX8_count 44 = .ok (.aload_n 0, 1) := by decide +kernel
theorem dX8_count_45 : decode cX8_count 45 = .ok (.getfield 61, 3) := by decide +kernel
theorem dX8_count_48 : decode cX8_count 48 = .ok (.getfield 152, 3) := by decide +kernel
theorem dX8_count_51 : decode cX8_count 51 = .ok (.ireturn, 1) := by decide +kernel
theorem dX8_count_52 : decode cX8_count 52 = .ok (.aload_n 0, 1) := by decide +kernel
theorem dX8_count_53 : decode cX8_count 53 = .ok (.getfield 61, 3) := by decide +kernel
theorem dX8_count_56 : decode cX8_count 56 = .ok (.getfield 149, 3) := by decide +kernel
theorem dX8_count_59 : decode cX8_count 59 = .ok (.ireturn, 1) := by decide +kernel
theorem dX8_count_60 : decode cX8_count 60 = .ok (.aload_n 0, 1) := by decide +kernel
theorem dX8_count_61 : decode cX8_count 61 = .ok (.getfield 61, 3) := by decide +kernel
theorem dX8_count_64 : decode cX8_count 64 = .ok (.getfield 143, 3) := by decide +kernel
theorem dX8_count_67 : decode cX8_count 67 = .ok (.ireturn, 1) := by decide +kernel
theorem dX8_count_68 : decode cX8_count 68 = .ok (.aload_n 0, 1) := by decide +kernel
theorem dX8_count_69 : decode cX8_count 69 = .ok (.getfield 61, 3) := by decide +kernel
theorem dX8_count_72 : decode cX8_count 72 = .ok (.getfield 206, 3) := by decide +kernel
