theorem dX0_init_0 : decode cX0_init 0 = .ok (.aload_n 0, 1) := by decide +kernel
theorem dX0_init_1 : decode cX0_init 1 = .ok (.invokespecial 3, 3) := by decide +kernel
theorem dX0_init_4 : decode cX0_init 4 = .ok (.aload_n 0, 1) := by decide +kernel
theorem dX0_init_5 : decode cX0_init 5 = .ok (.bipush 6, 2) := by decide +kernel
theorem dX0_init_7 : decode cX0_init 7 = .ok (.newarray .int, 2) := by decide +kernel
theorem dX0_init_9 : decode cX0_init 9 = .ok (.putfield 11, 3) := by decide +kernel
theorem dX0_init_12 : decode cX0_init 12 = .ok (.aload_n 0, 1) := by decide +kernel
theorem dX0_init_13 : decode cX0_init 13 = .ok (.bipush 6, 2) := by decide +kernel
theorem dX0_init_15 : decode cX0_init 15 = .ok (.newarray .int, 2) := by decide +kernel
theorem dX0_init_17 : decode cX0_init 17 = .ok (.putfield 15, 3) := by decide +kernel
theorem dX0_init_20 : decode cX0_init 20 = .ok (.aload_n 0, 1) := by decide +kernel
theorem dX0_init_21 : decode cX0_init 21 = .ok (.invokevirtual 18, 3) := by decide +kernel
theorem dX0_init_24 : decode cX0_init 24 = .ok (.aload_n 0, 1) := by decide +kernel
theorem dX0_init_25 : decode cX0_init 25 = .ok (.invokevirtual 21, 3) := by decide +kernel
theorem dX0_init_28 : decode cX0_init 28 = .ok (.return_, 1) := by decide +kernel
theorem dX0_tells_0 : decode cX0_tells 0 = .ok (.aload_n 0, 1) := by decide +kernel
theorem dX0_tells_1 : decode cX0_tells 1 = .ok (.getfield 11, 3) := by decide +kernel
theorem dX0_tells_4 : decode cX0_tells 4 = .ok (.iload_n 1, 1) := by decide +kernel
theorem dX0_tells_5 : decode cX0_tells 5 = .ok (.invokestatic 24, 3) := by decide +kernel
theorem dX0_tells_8 : decode cX0_tells 8 = .ok (.ireturn, 1) := by decide +kernel
theorem dX0_read_0 : decode cX0_read 0 = .ok (.aload_n 0, 1) := by decide +kernel
theorem dX0_read_1 : decode cX0_read 1 = .ok (.invokevirtual 18, 3) := by decide +kernel
theorem dX0_read_4 : decode cX0_read 4 = .ok (.aload_n 1, 1) := by decide +kernel
theorem dX0_read_5 : decode cX0_read 5 = .ok (.iload_n 2, 1) := by decide +kernel
theorem dX0_read_6 : decode cX0_read 6 = .ok (.invokevirtual 28, 3) := by decide +kernel
theorem dX0_read_9 : decode cX0_read 9 = .ok (.aload_n 1, 1) := by decide +kernel
theorem dX0_read_10 : decode cX0_read 10 = .ok (.invokevirtual 34, 3) := by decide +kernel
theorem dX0_read_13 : decode cX0_read 13 = .ok (.iconst 0, 1) := by decide +kernel
theorem dX0_read_14 : decode cX0_read 14 = .ok (.istore_n 3, 1) := by decide +kernel
theorem dX0_read_15 : decode cX0_read 15 = .ok (.iload_n 3, 1) := by decide +kernel
theorem dX0_read_16 : decode cX0_read 16 = .ok (.iload_n 2, 1) := by decide +kernel
theorem dX0_read_17 : decode cX0_read 17 = .ok (.if_icmp .ge 30, 3) := by decide +kernel
theorem dX0_read_20 : decode cX0_read 20 = .ok (.aload_n 1, 1) := by decide +kernel
theorem dX0_read_21 : decode cX0_read 21 = .ok (.invokevirtual 37, 3) := by decide +kernel
theorem dX0_read_24 : decode cX0_read 24 = .ok (.ifCond .ne 23, 3) := by decide +kernel
theorem dX0_read_27 : decode cX0_read 27 = .ok (.aload_n 0, 1) := by decide +kernel
theorem dX0_read_28 : decode cX0_read 28 = .ok (.aload_n 1, 1) := by decide +kernel
theorem dX0_read_29 : decode cX0_read 29 = .ok (.invokevirtual 41, 3) := by decide +kernel
theorem dX0_read_32 : decode cX0_read 32 = .ok (.ifCond .ne 5, 3) := by decide +kernel
theorem dX0_read_35 : decode cX0_read 35 = .ok (.iconst (-1), 1) := by decide +kernel
theorem dX0_read_36 : decode cX0_read 36 = .ok (.ireturn, 1) := by decide +kernel
theorem dX0_read_37 : decode cX0_read 37 = .ok (.iinc 3 1, 3) := by decide +kernel
theorem dX0_read_40 : decode cX0_read 40 = .ok (.aload_n 1, 1) := by decide +kernel
theorem dX0_read_41 : decode cX0_read 41 = .ok (.invokevirtual 34, 3) := by decide +kernel
theorem dX0_read_44 : decode cX0_read 44 = .ok (.goto (-29), 3) := by decide +kernel
theorem dX0_read_47 : decode cX0_read 47 = .ok (.aload_n 0, 1) := by decide +kernel
theorem dX0_read_48 : decode cX0_read 48 = .ok (.invokevirtual 21, 3) := by decide +kernel
theorem dX0_read_51 : decode cX0_read 51 = .ok (.iload_n 3, 1) := by decide +kernel
theorem dX0_read_52 : decode cX0_read 52 = .ok (.ireturn, 1) := by decide +kernel
theorem dX0_forgetTold_0 : decode cX0_forgetTold 0 = .ok (.aload_n 0, 1) := by decide +kernel
theorem dX0_forgetTold_1 : decode cX0_forgetTold 1 = .ok (.iconst 0, 1) := by decide +kernel
theorem dX0_forgetTold_2 : decode cX0_forgetTold 2 = .ok (.putfield 45, 3) := by decide +kernel
theorem dX0_forgetTold_5 : decode cX0_forgetTold 5 = .ok (.aload_n 0, 1) := by decide +kernel
theorem dX0_forgetTold_6 : decode cX0_forgetTold 6 = .ok (.iconst (-1), 1) := by decide +kernel
theorem dX0_forgetTold_7 : decode cX0_forgetTold 7 = .ok (.putfield 49, 3) := by decide +kernel
theorem dX0_forgetTold_10 : decode cX0_forgetTold 10 = .ok (.iconst 0, 1) := by decide +kernel
theorem dX0_forgetTold_11 : decode cX0_forgetTold 11 = .ok (.istore_n 1, 1) := by decide +kernel
theorem dX0_forgetTold_12 : decode cX0_forgetTold 12 = .ok (.iload_n 1, 1) := by decide +kernel
theorem dX0_forgetTold_13 : decode cX0_forgetTold 13 = .ok (.bipush 6, 2) := by decide +kernel
theorem dX0_forgetTold_15 : decode cX0_forgetTold 15 = .ok (.if_icmp .ge 18, 3) := by decide +kernel
theorem dX0_forgetTold_18 : decode cX0_forgetTold 18 = .ok (.aload_n 0, 1) := by decide +kernel
theorem dX0_forgetTold_19 : decode cX0_forgetTold 19 = .ok (.getfield 15, 3) := by decide +kernel
theorem dX0_forgetTold_22 : decode cX0_forgetTold 22 = .ok (.iload_n 1, 1) := by decide +kernel
theorem dX0_forgetTold_23 : decode cX0_forgetTold 23 = .ok (.iconst (-1), 1) := by decide +kernel
theorem dX0_forgetTold_24 : decode cX0_forgetTold 24 = .ok (.invokestatic 52, 3) := by decide +kernel
theorem dX0_forgetTold_27 : decode cX0_forgetTold 27 = .ok (.iinc 1 1, 3) := by decide +kernel
theorem dX0_forgetTold_30 : decode cX0_forgetTold 30 = .ok (.goto (-18), 3) := by decide +kernel
theorem dX0_forgetTold_33 : decode cX0_forgetTold 33 = .ok (.return_, 1) := by decide +kernel
theorem dX0_putInForce_0 : decode cX0_putInForce 0 = .ok (.iconst 0, 1) := by decide +kernel
theorem dX0_putInForce_1 : decode cX0_putInForce 1 = .ok (.istore_n 1, 1) := by decide +kernel
theorem dX0_putInForce_2 : decode cX0_putInForce 2 = .ok (.iload_n 1, 1) := by decide +kernel
theorem dX0_putInForce_3 : decode cX0_putInForce 3 = .ok (.bipush 6, 2) := by decide +kernel
theorem dX0_putInForce_5 : decode cX0_putInForce 5 = .ok (.if_icmp .ge 42, 3) := by decide +kernel
theorem dX0_putInForce_8 : decode cX0_putInForce 8 = .ok (.aload_n 0, 1) := by decide +kernel
theorem dX0_putInForce_9 : decode cX0_putInForce 9 = .ok (.getfield 15, 3) := by decide +kernel
theorem dX0_putInForce_12 : decode cX0_putInForce 12 = .ok (.iload_n 1, 1) := by decide +kernel
theorem dX0_putInForce_13 : decode cX0_putInForce 13 = .ok (.invokestatic 24, 3) := by decide +kernel
theorem dX0_putInForce_16 : decode cX0_putInForce 16 = .ok (.istore_n 2, 1) := by decide +kernel
theorem dX0_putInForce_17 : decode cX0_putInForce 17 = .ok (.aload_n 0, 1) := by decide +kernel
theorem dX0_putInForce_18 : decode cX0_putInForce 18 = .ok (.getfield 11, 3) := by decide +kernel
theorem dX0_putInForce_21 : decode cX0_putInForce 21 = .ok (.iload_n 1, 1) := by decide +kernel
theorem dX0_putInForce_22 : decode cX0_putInForce 22 = .ok (.iload_n 2, 1) := by decide +kernel
theorem dX0_putInForce_23 : decode cX0_putInForce 23 = .ok (.iconst (-1), 1) := by decide +kernel
theorem dX0_putInForce_24 : decode cX0_putInForce 24 = .ok (.if_icmp .ne 13, 3) := by decide +kernel
theorem dX0_putInForce_27 : decode cX0_putInForce 27 = .ok (.getstatic 56, 3) := by decide +kernel
theorem dX0_putInForce_30 : decode cX0_putInForce 30 = .ok (.iload_n 1, 1) := by decide +kernel
theorem dX0_putInForce_31 : decode cX0_putInForce 31 = .ok (.invokestatic 24, 3) := by decide +kernel
theorem dX0_putInForce_34 : decode cX0_putInForce 34 = .ok (.goto 4, 3) := by decide +kernel
theorem dX0_putInForce_37 : decode cX0_putInForce 37 = .ok (.iload_n 2, 1) := by decide +kernel
theorem dX0_putInForce_38 : decode cX0_putInForce 38 = .ok (.invokestatic 52, 3) := by decide +kernel
theorem dX0_putInForce_41 : decode cX0_putInForce 41 = .ok (.iinc 1 1, 3) := by decide +kernel
theorem dX0_putInForce_44 : decode cX0_putInForce 44 = .ok (.goto (-42), 3) := by decide +kernel
theorem dX0_putInForce_47 : decode cX0_putInForce 47 = .ok (.return_, 1) := by decide +kernel
theorem dX0_readLine_0 : decode cX0_readLine 0 = .ok (.aload_n 1, 1) := by decide +kernel
theorem dX0_readLine_1 : decode cX0_readLine 1 = .ok (.bipush 97, 2) := by decide +kernel
theorem dX0_readLine_3 : decode cX0_readLine 3 = .ok (.bipush 122, 2) := by decide +kernel
theorem dX0_readLine_5 : decode cX0_readLine 5 = .ok (.invokevirtual 59, 3) := by decide +kernel
theorem dX0_readLine_8 : decode cX0_readLine 8 = .ok (.istore_n 2, 1) := by decide +kernel
theorem dX0_readLine_9 : decode cX0_readLine 9 = .ok (.aload_n 1, 1) := by decide +kernel
theorem dX0_readLine_10 : decode cX0_readLine 10 = .ok (.iload_n 2, 1) := by decide +kernel
theorem dX0_readLine_11 : decode cX0_readLine 11 = .ok (.invokestatic 63, 3) := by decide +kernel
theorem dX0_readLine_14 : decode cX0_readLine 14 = .ok (.istore_n 3, 1) := by decide +kernel
theorem dX0_readLine_15 : decode cX0_readLine 15 = .ok (.iload_n 3, 1) := by decide +kernel
theorem dX0_readLine_16 : decode cX0_readLine 16 = .ok (.iconst (-1), 1) := by decide +kernel
theorem dX0_readLine_17 : decode cX0_readLine 17 = .ok (.if_icmp .ne 13, 3) := by decide +kernel
theorem dX0_readLine_20 : decode cX0_readLine 20 = .ok (.aload_n 0, 1) := by decide +kernel
theorem dX0_readLine_21 : decode cX0_readLine 21 = .ok (.iconst 1, 1) := by decide +kernel
theorem dX0_readLine_22 : decode cX0_readLine 22 = .ok (.aload_n 1, 1) := by decide +kernel
theorem dX0_readLine_23 : decode cX0_readLine 23 = .ok (.getfield 67, 3) := by decide +kernel
theorem dX0_readLine_26 : decode cX0_readLine 26 = .ok (.invokevirtual 70, 3) := by decide +kernel
theorem dX0_readLine_29 : decode cX0_readLine 29 = .ok (.ireturn, 1) := by decide +kernel
theorem dX0_readLine_30 : decode cX0_readLine 30 = .ok (.aload_n 0, 1) := by decide +kernel
theorem dX0_readLine_31 : decode cX0_readLine 31 = .ok (.getfield 15, 3) := by decide +kernel
theorem dX0_readLine_34 : decode cX0_readLine 34 = .ok (.iload_n 3, 1) := by decide +kernel
theorem dX0_readLine_35 : decode cX0_readLine 35 = .ok (.invokestatic 24, 3) := by decide +kernel
theorem dX0_readLine_38 : decode cX0_readLine 38 = .ok (.iconst (-1), 1) := by decide +kernel
theorem dX0_readLine_39 : decode cX0_readLine 39 = .ok (.if_icmp .eq 13, 3) := by decide +kernel
theorem dX0_readLine_42 : decode cX0_readLine 42 = .ok (.aload_n 0, 1) := by decide +kernel
theorem dX0_readLine_43 : decode cX0_readLine 43 = .ok (.iconst 3, 1) := by decide +kernel
theorem dX0_readLine_44 : decode cX0_readLine 44 = .ok (.aload_n 1, 1) := by decide +kernel
theorem dX0_readLine_45 : decode cX0_readLine 45 = .ok (.getfield 67, 3) := by decide +kernel
theorem dX0_readLine_48 : decode cX0_readLine 48 = .ok (.invokevirtual 70, 3) := by decide +kernel
theorem dX0_readLine_51 : decode cX0_readLine 51 = .ok (.ireturn, 1) := by decide +kernel
theorem dX0_readLine_52 : decode cX0_readLine 52 = .ok (.aload_n 1, 1) := by decide +kernel
theorem dX0_readLine_53 : decode cX0_readLine 53 = .ok (.iload_n 2, 1) := by decide +kernel
theorem dX0_readLine_54 : decode cX0_readLine 54 = .ok (.putfield 67, 3) := by decide +kernel
theorem dX0_readLine_57 : decode cX0_readLine 57 = .ok (.aload_n 1, 1) := by decide +kernel
theorem dX0_readLine_58 : decode cX0_readLine 58 = .ok (.invokevirtual 34, 3) := by decide +kernel
theorem dX0_readLine_61 : decode cX0_readLine 61 = .ok (.aload_n 1, 1) := by decide +kernel
theorem dX0_readLine_62 : decode cX0_readLine 62 = .ok (.bipush 48, 2) := by decide +kernel
theorem dX0_readLine_64 : decode cX0_readLine 64 = .ok (.bipush 57, 2) := by decide +kernel
theorem dX0_readLine_66 : decode cX0_readLine 66 = .ok (.invokevirtual 59, 3) := by decide +kernel
theorem dX0_readLine_69 : decode cX0_readLine 69 = .ok (.istore 4, 2) := by decide +kernel
theorem dX0_readLine_71 : decode cX0_readLine 71 = .ok (.iload 4, 2) := by decide +kernel
theorem dX0_readLine_73 : decode cX0_readLine 73 = .ok (.aload_n 1, 1) := by decide +kernel
theorem dX0_readLine_74 : decode cX0_readLine 74 = .ok (.getfield 67, 3) := by decide +kernel
theorem dX0_readLine_77 : decode cX0_readLine 77 = .ok (.if_icmp .ne 13, 3) := by decide +kernel
theorem dX0_readLine_80 : decode cX0_readLine 80 = .ok (.aload_n 0, 1) := by decide +kernel
theorem dX0_readLine_81 : decode cX0_readLine 81 = .ok (.iconst 1, 1) := by decide +kernel
theorem dX0_readLine_82 : decode cX0_readLine 82 = .ok (.aload_n 1, 1) := by decide +kernel
theorem dX0_readLine_83 : decode cX0_readLine 83 = .ok (.getfield 67, 3) := by decide +kernel
theorem dX0_readLine_86 : decode cX0_readLine 86 = .ok (.invokevirtual 70, 3) := by decide +kernel
theorem dX0_readLine_89 : decode cX0_readLine 89 = .ok (.ireturn, 1) := by decide +kernel
theorem dX0_readLine_90 : decode cX0_readLine 90 = .ok (.aload_n 1, 1) := by decide +kernel
theorem dX0_readLine_91 : decode cX0_readLine 91 = .ok (.iload 4, 2) := by decide +kernel
theorem dX0_readLine_93 : decode cX0_readLine 93 = .ok (.invokevirtual 74, 3) := by decide +kernel
theorem dX0_readLine_96 : decode cX0_readLine 96 = .ok (.istore 5, 2) := by decide +kernel
theorem dX0_readLine_98 : decode cX0_readLine 98 = .ok (.iload 5, 2) := by decide +kernel
theorem dX0_readLine_100 : decode cX0_readLine 100 = .ok (.getstatic 78, 3) := by decide +kernel
theorem dX0_readLine_103 : decode cX0_readLine 103 = .ok (.iload_n 3, 1) := by decide +kernel
theorem dX0_readLine_104 : decode cX0_readLine 104 = .ok (.invokestatic 24, 3) := by decide +kernel
theorem dX0_readLine_107 : decode cX0_readLine 107 = .ok (.getstatic 81, 3) := by decide +kernel
theorem dX0_readLine_110 : decode cX0_readLine 110 = .ok (.iload_n 3, 1) := by decide +kernel
theorem dX0_readLine_111 : decode cX0_readLine 111 = .ok (.invokestatic 24, 3) := by decide +kernel
theorem dX0_readLine_114 : decode cX0_readLine 114 = .ok (.invokestatic 84, 3) := by decide +kernel
theorem dX0_readLine_117 : decode cX0_readLine 117 = .ok (.ifCond .ne 13, 3) := by decide +kernel
theorem dX0_readLine_120 : decode cX0_readLine 120 = .ok (.aload_n 0, 1) := by decide +kernel
theorem dX0_readLine_121 : decode cX0_readLine 121 = .ok (.iconst 2, 1) := by decide +kernel
theorem dX0_readLine_122 : decode cX0_readLine 122 = .ok (.aload_n 1, 1) := by decide +kernel
theorem dX0_readLine_123 : decode cX0_readLine 123 = .ok (.getfield 67, 3) := by decide +kernel
theorem dX0_readLine_126 : decode cX0_readLine 126 = .ok (.invokevirtual 70, 3) := by decide +kernel
theorem dX0_readLine_129 : decode cX0_readLine 129 = .ok (.ireturn, 1) := by decide +kernel
theorem dX0_readLine_130 : decode cX0_readLine 130 = .ok (.aload_n 1, 1) := by decide +kernel
theorem dX0_readLine_131 : decode cX0_readLine 131 = .ok (.iload 4, 2) := by decide +kernel
theorem dX0_readLine_133 : decode cX0_readLine 133 = .ok (.putfield 67, 3) := by decide +kernel
theorem dX0_readLine_136 : decode cX0_readLine 136 = .ok (.aload_n 1, 1) := by decide +kernel
theorem dX0_readLine_137 : decode cX0_readLine 137 = .ok (.invokevirtual 34, 3) := by decide +kernel
theorem dX0_readLine_140 : decode cX0_readLine 140 = .ok (.aload_n 1, 1) := by decide +kernel
theorem dX0_readLine_141 : decode cX0_readLine 141 = .ok (.aload_n 1, 1) := by decide +kernel
theorem dX0_readLine_142 : decode cX0_readLine 142 = .ok (.getfield 67, 3) := by decide +kernel
theorem dX0_readLine_145 : decode cX0_readLine 145 = .ok (.invokevirtual 88, 3) := by decide +kernel
theorem dX0_readLine_148 : decode cX0_readLine 148 = .ok (.bipush 59, 2) := by decide +kernel
theorem dX0_readLine_150 : decode cX0_readLine 150 = .ok (.if_icmp .eq 13, 3) := by decide +kernel
theorem dX0_readLine_153 : decode cX0_readLine 153 = .ok (.aload_n 0, 1) := by decide +kernel
theorem dX0_readLine_154 : decode cX0_readLine 154 = .ok (.iconst 1, 1) := by decide +kernel
theorem dX0_readLine_155 : decode cX0_readLine 155 = .ok (.aload_n 1, 1) := by decide +kernel
theorem dX0_readLine_156 : decode cX0_readLine 156 = .ok (.getfield 67, 3) := by decide +kernel
theorem dX0_readLine_159 : decode cX0_readLine 159 = .ok (.invokevirtual 70, 3) := by decide +kernel
theorem dX0_readLine_162 : decode cX0_readLine 162 = .ok (.ireturn, 1) := by decide +kernel
theorem dX0_readLine_163 : decode cX0_readLine 163 = .ok (.aload_n 1, 1) := by decide +kernel
theorem dX0_readLine_164 : decode cX0_readLine 164 = .ok (.dup, 1) := by decide +kernel
theorem dX0_readLine_165 : decode cX0_readLine 165 = .ok (.getfield 67, 3) := by decide +kernel
theorem dX0_readLine_168 : decode cX0_readLine 168 = .ok (.iconst 1, 1) := by decide +kernel
theorem dX0_readLine_169 : decode cX0_readLine 169 = .ok (.iadd, 1) := by decide +kernel
theorem dX0_readLine_170 : decode cX0_readLine 170 = .ok (.putfield 67, 3) := by decide +kernel
theorem dX0_readLine_173 : decode cX0_readLine 173 = .ok (.aload_n 0, 1) := by decide +kernel
theorem dX0_readLine_174 : decode cX0_readLine 174 = .ok (.getfield 15, 3) := by decide +kernel
theorem dX0_readLine_177 : decode cX0_readLine 177 = .ok (.iload_n 3, 1) := by decide +kernel
theorem dX0_readLine_178 : decode cX0_readLine 178 = .ok (.iload 5, 2) := by decide +kernel
theorem dX0_readLine_180 : decode cX0_readLine 180 = .ok (.invokestatic 52, 3) := by decide +kernel
theorem dX0_readLine_183 : decode cX0_readLine 183 = .ok (.iconst 1, 1) := by decide +kernel
theorem dX0_readLine_184 : decode cX0_readLine 184 = .ok (.ireturn, 1) := by decide +kernel
theorem dX0_fails_0 : decode cX0_fails 0 = .ok (.aload_n 0, 1) := by decide +kernel
theorem dX0_fails_1 : decode cX0_fails 1 = .ok (.iload_n 1, 1) := by decide +kernel
theorem dX0_fails_2 : decode cX0_fails 2 = .ok (.putfield 45, 3) := by decide +kernel
theorem dX0_fails_5 : decode cX0_fails 5 = .ok (.aload_n 0, 1) := by decide +kernel
theorem dX0_fails_6 : decode cX0_fails 6 = .ok (.iload_n 2, 1) := by decide +kernel
theorem dX0_fails_7 : decode cX0_fails 7 = .ok (.putfield 49, 3) := by decide +kernel
theorem dX0_fails_10 : decode cX0_fails 10 = .ok (.iconst 0, 1) := by decide +kernel
theorem dX0_fails_11 : decode cX0_fails 11 = .ok (.ireturn, 1) := by decide +kernel
theorem dX0_kindOfWord_0 : decode cX0_kindOfWord 0 = .ok (.iconst 0, 1) := by decide +kernel
theorem dX0_kindOfWord_1 : decode cX0_kindOfWord 1 = .ok (.istore_n 2, 1) := by decide +kernel
theorem dX0_kindOfWord_2 : decode cX0_kindOfWord 2 = .ok (.iload_n 2, 1) := by decide +kernel
theorem dX0_kindOfWord_3 : decode cX0_kindOfWord 3 = .ok (.bipush 6, 2) := by decide +kernel
theorem dX0_kindOfWord_5 : decode cX0_kindOfWord 5 = .ok (.if_icmp .ge 23, 3) := by decide +kernel
theorem dX0_kindOfWord_8 : decode cX0_kindOfWord 8 = .ok (.aload_n 0, 1) := by decide +kernel
theorem dX0_kindOfWord_9 : decode cX0_kindOfWord 9 = .ok (.iload_n 1, 1) := by decide +kernel
theorem dX0_kindOfWord_10 : decode cX0_kindOfWord 10 = .ok (.iload_n 2, 1) := by decide +kernel
theorem dX0_kindOfWord_11 : decode cX0_kindOfWord 11 = .ok (.invokestatic 91, 3) := by decide +kernel
theorem dX0_kindOfWord_14 : decode cX0_kindOfWord 14 = .ok (.invokevirtual 95, 3) := by decide +kernel
theorem dX0_kindOfWord_17 : decode cX0_kindOfWord 17 = .ok (.ifCond .eq 5, 3) := by decide +kernel
theorem dX0_kindOfWord_20 : decode cX0_kindOfWord 20 = .ok (.iload_n 2, 1) := by decide +kernel
theorem dX0_kindOfWord_21 : decode cX0_kindOfWord 21 = .ok (.ireturn, 1) := by decide +kernel
theorem dX0_kindOfWord_22 : decode cX0_kindOfWord 22 = .ok (.iinc 2 1, 3) := by decide +kernel
theorem dX0_kindOfWord_25 : decode cX0_kindOfWord 25 = .ok (.goto (-23), 3) := by decide +kernel
theorem dX0_kindOfWord_28 : decode cX0_kindOfWord 28 = .ok (.iconst (-1), 1) := by decide +kernel
theorem dX0_kindOfWord_29 : decode cX0_kindOfWord 29 = .ok (.ireturn, 1) := by decide +kernel
theorem dX0_word_0 : decode cX0_word 0 = .ok (.iload_n 0, 1) := by decide +kernel
theorem dX0_word_1 : decode cX0_word 1 = .ok (.tableswitch 50 0 4 #[35, 38, 41, 44, 47], 35) := by decide +kernel
theorem dX0_word_36 : decode cX0_word 36 = .ok (.ldc 99, 2) := by decide +kernel
theorem dX0_word_38 : decode cX0_word 38 = .ok (.areturn, 1) := by decide +kernel
theorem dX0_word_39 : decode cX0_word 39 = .ok (.ldc 101, 2) := by decide +kernel
theorem dX0_word_41 : decode cX0_word 41 = .ok (.areturn, 1) := by decide +kernel
theorem dX0_word_42 : decode cX0_word 42 = .ok (.ldc 103, 2) := by decide +kernel
theorem dX0_word_44 : decode cX0_word 44 = .ok (.areturn, 1) := by decide +kernel
theorem dX0_word_45 : decode cX0_word 45 = .ok (.ldc 105, 2) := by decide +kernel
theorem dX0_word_47 : decode cX0_word 47 = .ok (.areturn, 1) := by decide +kernel
theorem dX0_word_48 : decode cX0_word 48 = .ok (.ldc 107, 2) := by decide +kernel
theorem dX0_word_50 : decode cX0_word 50 = .ok (.areturn, 1) := by decide +kernel
theorem dX0_word_51 : decode cX0_word 51 = .ok (.ldc 109, 2) := by decide +kernel
theorem dX0_word_53 : decode cX0_word 53 = .ok (.areturn, 1) := by decide +kernel
theorem dX1_init_0 : decode cX1_init 0 = .ok (.aload_n 0, 1) := by decide +kernel
theorem dX1_init_1 : decode cX1_init 1 = .ok (.invokespecial 3, 3) := by decide +kernel
theorem dX1_init_4 : decode cX1_init 4 = .ok (.aload_n 0, 1) := by decide +kernel
theorem dX1_init_5 : decode cX1_init 5 = .ok (.bipush 8, 2) := by decide +kernel
theorem dX1_init_7 : decode cX1_init 7 = .ok (.bipush 8, 2) := by decide +kernel
theorem dX1_init_9 : decode cX1_init 9 = .ok (.multianewarray 9 2, 4) := by decide +kernel
theorem dX1_init_13 : decode cX1_init 13 = .ok (.putfield 11, 3) := by decide +kernel
theorem dX1_init_16 : decode cX1_init 16 = .ok (.aload_n 0, 1) := by decide +kernel
theorem dX1_init_17 : decode cX1_init 17 = .ok (.bipush 8, 2) := by decide +kernel
theorem dX1_init_19 : decode cX1_init 19 = .ok (.newarray .int, 2) := by decide +kernel
theorem dX1_init_21 : decode cX1_init 21 = .ok (.putfield 16, 3) := by decide +kernel
theorem dX1_init_24 : decode cX1_init 24 = .ok (.return_, 1) := by decide +kernel
theorem dX1_muster_0 : decode cX1_muster 0 = .ok (.iconst 0, 1) := by decide +kernel
theorem dX1_muster_1 : decode cX1_muster 1 = .ok (.istore 4, 2) := by decide +kernel
theorem dX1_muster_3 : decode cX1_muster 3 = .ok (.iload 4, 2) := by decide +kernel
theorem dX1_muster_5 : decode cX1_muster 5 = .ok (.bipush 8, 2) := by decide +kernel
theorem dX1_muster_7 : decode cX1_muster 7 = .ok (.if_icmp .ge 19, 3) := by decide +kernel
theorem dX1_muster_10 : decode cX1_muster 10 = .ok (.aload_n 0, 1) := by decide +kernel
theorem dX1_muster_11 : decode cX1_muster 11 = .ok (.getfield 16, 3) := by decide +kernel
theorem dX1_muster_14 : decode cX1_muster 14 = .ok (.iload 4, 2) := by decide +kernel
theorem dX1_muster_16 : decode cX1_muster 16 = .ok (.iconst (-1), 1) := by decide +kernel
theorem dX1_muster_17 : decode cX1_muster 17 = .ok (.invokestatic 20, 3) := by decide +kernel
theorem dX1_muster_20 : decode cX1_muster 20 = .ok (.iinc 4 1, 3) := by decide +kernel
theorem dX1_muster_23 : decode cX1_muster 23 = .ok (.goto (-20), 3) := by decide +kernel
theorem dX1_muster_26 : decode cX1_muster 26 = .ok (.aload_n 0, 1) := by decide +kernel
theorem dX1_muster_27 : decode cX1_muster 27 = .ok (.getfield 16, 3) := by decide +kernel
theorem dX1_muster_30 : decode cX1_muster 30 = .ok (.iload_n 2, 1) := by decide +kernel
theorem dX1_muster_31 : decode cX1_muster 31 = .ok (.iconst 0, 1) := by decide +kernel
theorem dX1_muster_32 : decode cX1_muster 32 = .ok (.invokestatic 20, 3) := by decide +kernel
theorem dX1_muster_35 : decode cX1_muster 35 = .ok (.aload_n 1, 1) := by decide +kernel
theorem dX1_muster_36 : decode cX1_muster 36 = .ok (.getfield 24, 3) := by decide +kernel
theorem dX1_muster_39 : decode cX1_muster 39 = .ok (.iload_n 2, 1) := by decide +kernel
theorem dX1_muster_40 : decode cX1_muster 40 = .ok (.invokestatic 29, 3) := by decide +kernel
theorem dX1_muster_43 : decode cX1_muster 43 = .ok (.iload_n 3, 1) := by decide +kernel
theorem dX1_muster_44 : decode cX1_muster 44 = .ok (.invokestatic 33, 3) := by decide +kernel
theorem dX1_muster_47 : decode cX1_muster 47 = .ok (.istore 4, 2) := by decide +kernel
theorem dX1_muster_49 : decode cX1_muster 49 = .ok (.iconst 1, 1) := by decide +kernel
theorem dX1_muster_50 : decode cX1_muster 50 = .ok (.istore 5, 2) := by decide +kernel
theorem dX1_muster_52 : decode cX1_muster 52 = .ok (.iload 5, 2) := by decide +kernel
theorem dX1_muster_54 : decode cX1_muster 54 = .ok (.aload_n 1, 1) := by decide +kernel
theorem dX1_muster_55 : decode cX1_muster 55 = .ok (.getfield 39, 3) := by decide +kernel
theorem dX1_muster_58 : decode cX1_muster 58 = .ok (.if_icmp .ge 56, 3) := by decide +kernel
theorem dX1_muster_61 : decode cX1_muster 61 = .ok (.aload_n 0, 1) := by decide +kernel
theorem dX1_muster_62 : decode cX1_muster 62 = .ok (.aload_n 1, 1) := by decide +kernel
theorem dX1_muster_63 : decode cX1_muster 63 = .ok (.getfield 39, 3) := by decide +kernel
theorem dX1_muster_66 : decode cX1_muster 66 = .ok (.iload_n 2, 1) := by decide +kernel
theorem dX1_muster_67 : decode cX1_muster 67 = .ok (.invokevirtual 43, 3) := by decide +kernel
theorem dX1_muster_70 : decode cX1_muster 70 = .ok (.istore 6, 2) := by decide +kernel
theorem dX1_muster_72 : decode cX1_muster 72 = .ok (.aload_n 1, 1) := by decide +kernel
theorem dX1_muster_73 : decode cX1_muster 73 = .ok (.getfield 46, 3) := by decide +kernel
theorem dX1_muster_76 : decode cX1_muster 76 = .ok (.iload 6, 2) := by decide +kernel
theorem dX1_muster_78 : decode cX1_muster 78 = .ok (.invokestatic 29, 3) := by decide +kernel
theorem dX1_muster_81 : decode cX1_muster 81 = .ok (.iload_n 3, 1) := by decide +kernel
theorem dX1_muster_82 : decode cX1_muster 82 = .ok (.iload 4, 2) := by decide +kernel
theorem dX1_muster_84 : decode cX1_muster 84 = .ok (.isub, 1) := by decide +kernel
theorem dX1_muster_85 : decode cX1_muster 85 = .ok (.invokestatic 33, 3) := by decide +kernel
theorem dX1_muster_88 : decode cX1_muster 88 = .ok (.istore 7, 2) := by decide +kernel
theorem dX1_muster_90 : decode cX1_muster 90 = .ok (.aload_n 0, 1) := by decide +kernel
theorem dX1_muster_91 : decode cX1_muster 91 = .ok (.getfield 16, 3) := by decide +kernel
theorem dX1_muster_94 : decode cX1_muster 94 = .ok (.iload 6, 2) := by decide +kernel
theorem dX1_muster_96 : decode cX1_muster 96 = .ok (.iload 7, 2) := by decide +kernel
theorem dX1_muster_98 : decode cX1_muster 98 = .ok (.invokestatic 20, 3) := by decide +kernel
theorem dX1_muster_101 : decode cX1_muster 101 = .ok (.iload 4, 2) := by decide +kernel
theorem dX1_muster_103 : decode cX1_muster 103 = .ok (.iload 7, 2) := by decide +kernel
theorem dX1_muster_105 : decode cX1_muster 105 = .ok (.iadd, 1) := by decide +kernel
theorem dX1_muster_106 : decode cX1_muster 106 = .ok (.istore 4, 2) := by decide +kernel
theorem dX1_muster_108 : decode cX1_muster 108 = .ok (.iinc 5 1, 3) := by decide +kernel
theorem dX1_muster_111 : decode cX1_muster 111 = .ok (.goto (-59), 3) := by decide +kernel
theorem dX1_muster_114 : decode cX1_muster 114 = .ok (.iload 4, 2) := by decide +kernel
theorem dX1_muster_116 : decode cX1_muster 116 = .ok (.ireturn, 1) := by decide +kernel
theorem dX1_nextLender_0 : decode cX1_nextLender 0 = .ok (.iconst (-1), 1) := by decide +kernel
theorem dX1_nextLender_1 : decode cX1_nextLender 1 = .ok (.istore_n 3, 1) := by decide +kernel
theorem dX1_nextLender_2 : decode cX1_nextLender 2 = .ok (.iconst 1, 1) := by decide +kernel
theorem dX1_nextLender_3 : decode cX1_nextLender 3 = .ok (.istore 4, 2) := by decide +kernel
theorem dX1_nextLender_5 : decode cX1_nextLender 5 = .ok (.iload 4, 2) := by decide +kernel
theorem dX1_nextLender_7 : decode cX1_nextLender 7 = .ok (.iload_n 1, 1) := by decide +kernel
theorem dX1_nextLender_8 : decode cX1_nextLender 8 = .ok (.if_icmp .gt 64, 3) := by decide +kernel
theorem dX1_nextLender_11 : decode cX1_nextLender 11 = .ok (.aload_n 0, 1) := by decide +kernel
theorem dX1_nextLender_12 : decode cX1_nextLender 12 = .ok (.getfield 16, 3) := by decide +kernel
theorem dX1_nextLender_15 : decode cX1_nextLender 15 = .ok (.iload 4, 2) := by decide +kernel
theorem dX1_nextLender_17 : decode cX1_nextLender 17 = .ok (.invokestatic 29, 3) := by decide +kernel
theorem dX1_nextLender_20 : decode cX1_nextLender 20 = .ok (.iconst (-1), 1) := by decide +kernel
theorem dX1_nextLender_21 : decode cX1_nextLender 21 = .ok (.if_icmp .ne 7, 3) := by decide +kernel
theorem dX1_nextLender_24 : decode cX1_nextLender 24 = .ok (.iconst 1, 1) := by decide +kernel
theorem dX1_nextLender_25 : decode cX1_nextLender 25 = .ok (.goto 4, 3) := by decide +kernel
theorem dX1_nextLender_28 : decode cX1_nextLender 28 = .ok (.iconst 0, 1) := by decide +kernel
theorem dX1_nextLender_29 : decode cX1_nextLender 29 = .ok (.istore 5, 2) := by decide +kernel
theorem dX1_nextLender_31 : decode cX1_nextLender 31 = .ok (.iload 5, 2) := by decide +kernel
theorem dX1_nextLender_33 : decode cX1_nextLender 33 = .ok (.ifCond .eq 33, 3) := by decide +kernel
theorem dX1_nextLender_36 : decode cX1_nextLender 36 = .ok (.iload_n 3, 1) := by decide +kernel
theorem dX1_nextLender_37 : decode cX1_nextLender 37 = .ok (.iconst (-1), 1) := by decide +kernel
theorem dX1_nextLender_38 : decode cX1_nextLender 38 = .ok (.if_icmp .eq 25, 3) := by decide +kernel
theorem dX1_nextLender_41 : decode cX1_nextLender 41 = .ok (.aload_n 0, 1) := by decide +kernel
theorem dX1_nextLender_42 : decode cX1_nextLender 42 = .ok (.getfield 11, 3) := by decide +kernel
theorem dX1_nextLender_45 : decode cX1_nextLender 45 = .ok (.iload 4, 2) := by decide +kernel
theorem dX1_nextLender_47 : decode cX1_nextLender 47 = .ok (.iload_n 2, 1) := by decide +kernel
theorem dX1_nextLender_48 : decode cX1_nextLender 48 = .ok (.invokestatic 49, 3) := by decide +kernel
theorem dX1_nextLender_51 : decode cX1_nextLender 51 = .ok (.aload_n 0, 1) := by decide +kernel
theorem dX1_nextLender_52 : decode cX1_nextLender 52 = .ok (.getfield 11, 3) := by decide +kernel
theorem dX1_nextLender_55 : decode cX1_nextLender 55 = .ok (.iload_n 3, 1) := by decide +kernel
theorem dX1_nextLender_56 : decode cX1_nextLender 56 = .ok (.iload_n 2, 1) := by decide +kernel
theorem dX1_nextLender_57 : decode cX1_nextLender 57 = .ok (.invokestatic 49, 3) := by decide +kernel
theorem dX1_nextLender_60 : decode cX1_nextLender 60 = .ok (.if_icmp .le 6, 3) := by decide +kernel
theorem dX1_nextLender_63 : decode cX1_nextLender 63 = .ok (.iload 4, 2) := by decide +kernel
theorem dX1_nextLender_65 : decode cX1_nextLender 65 = .ok (.istore_n 3, 1) := by decide +kernel
theorem dX1_nextLender_66 : decode cX1_nextLender 66 = .ok (.iinc 4 1, 3) := by decide +kernel
theorem dX1_nextLender_69 : decode cX1_nextLender 69 = .ok (.goto (-64), 3) := by decide +kernel
theorem dX1_nextLender_72 : decode cX1_nextLender 72 = .ok (.iload_n 3, 1) := by decide +kernel
theorem dX1_nextLender_73 : decode cX1_nextLender 73 = .ok (.ireturn, 1) := by decide +kernel
theorem dX1_oweTheGivers_0 : decode cX1_oweTheGivers 0 = .ok (.iconst 1, 1) := by decide +kernel
theorem dX1_oweTheGivers_1 : decode cX1_oweTheGivers 1 = .ok (.istore_n 3, 1) := by decide +kernel
theorem dX1_oweTheGivers_2 : decode cX1_oweTheGivers 2 = .ok (.iload_n 3, 1) := by decide +kernel
theorem dX1_oweTheGivers_3 : decode cX1_oweTheGivers 3 = .ok (.iload_n 1, 1) := by decide +kernel
theorem dX1_oweTheGivers_4 : decode cX1_oweTheGivers 4 = .ok (.if_icmp .gt 66, 3) := by decide +kernel
theorem dX1_oweTheGivers_7 : decode cX1_oweTheGivers 7 = .ok (.iload_n 3, 1) := by decide +kernel
theorem dX1_oweTheGivers_8 : decode cX1_oweTheGivers 8 = .ok (.iload_n 2, 1) := by decide +kernel
theorem dX1_oweTheGivers_9 : decode cX1_oweTheGivers 9 = .ok (.if_icmp .eq 55, 3) := by decide +kernel
theorem dX1_oweTheGivers_12 : decode cX1_oweTheGivers 12 = .ok (.aload_n 0, 1) := by decide +kernel
theorem dX1_oweTheGivers_13 : decode cX1_oweTheGivers 13 = .ok (.getfield 16, 3) := by decide +kernel
theorem dX1_oweTheGivers_16 : decode cX1_oweTheGivers 16 = .ok (.iload_n 3, 1) := by decide +kernel
theorem dX1_oweTheGivers_17 : decode cX1_oweTheGivers 17 = .ok (.invokestatic 29, 3) := by decide +kernel
theorem dX1_oweTheGivers_20 : decode cX1_oweTheGivers 20 = .ok (.istore 4, 2) := by decide +kernel
theorem dX1_oweTheGivers_22 : decode cX1_oweTheGivers 22 = .ok (.aload_n 0, 1) := by decide +kernel
theorem dX1_oweTheGivers_23 : decode cX1_oweTheGivers 23 = .ok (.getfield 11, 3) := by decide +kernel
theorem dX1_oweTheGivers_26 : decode cX1_oweTheGivers 26 = .ok (.iload_n 2, 1) := by decide +kernel
theorem dX1_oweTheGivers_27 : decode cX1_oweTheGivers 27 = .ok (.iload_n 3, 1) := by decide +kernel
theorem dX1_oweTheGivers_28 : decode cX1_oweTheGivers 28 = .ok (.aload_n 0, 1) := by decide +kernel
theorem dX1_oweTheGivers_29 : decode cX1_oweTheGivers 29 = .ok (.getfield 11, 3) := by decide +kernel
theorem dX1_oweTheGivers_32 : decode cX1_oweTheGivers 32 = .ok (.iload_n 2, 1) := by decide +kernel
theorem dX1_oweTheGivers_33 : decode cX1_oweTheGivers 33 = .ok (.iload_n 3, 1) := by decide +kernel
theorem dX1_oweTheGivers_34 : decode cX1_oweTheGivers 34 = .ok (.invokestatic 49, 3) := by decide +kernel
theorem dX1_oweTheGivers_37 : decode cX1_oweTheGivers 37 = .ok (.iload 4, 2) := by decide +kernel
theorem dX1_oweTheGivers_39 : decode cX1_oweTheGivers 39 = .ok (.iadd, 1) := by decide +kernel
theorem dX1_oweTheGivers_40 : decode cX1_oweTheGivers 40 = .ok (.invokestatic 52, 3) := by decide +kernel
theorem dX1_oweTheGivers_43 : decode cX1_oweTheGivers 43 = .ok (.aload_n 0, 1) := by decide +kernel
theorem dX1_oweTheGivers_44 : decode cX1_oweTheGivers 44 = .ok (.getfield 11, 3) := by decide +kernel
theorem dX1_oweTheGivers_47 : decode cX1_oweTheGivers 47 = .ok (.iload_n 3, 1) := by decide +kernel
theorem dX1_oweTheGivers_48 : decode cX1_oweTheGivers 48 = .ok (.iload_n 2, 1) := by decide +kernel
theorem dX1_oweTheGivers_49 : decode cX1_oweTheGivers 49 = .ok (.aload_n 0, 1) := by decide +kernel
theorem dX1_oweTheGivers_50 : decode cX1_oweTheGivers 50 = .ok (.getfield 11, 3) := by decide +kernel
theorem dX1_oweTheGivers_53 : decode cX1_oweTheGivers 53 = .ok (.iload_n 3, 1) := by decide +kernel
theorem dX1_oweTheGivers_54 : decode cX1_oweTheGivers 54 = .ok (.iload_n 2, 1) := by decide +kernel
theorem dX1_oweTheGivers_55 : decode cX1_oweTheGivers 55 = .ok (.invokestatic 49, 3) := by decide +kernel
theorem dX1_oweTheGivers_58 : decode cX1_oweTheGivers 58 = .ok (.iload 4, 2) := by decide +kernel
theorem dX1_oweTheGivers_60 : decode cX1_oweTheGivers 60 = .ok (.isub, 1) := by decide +kernel
theorem dX1_oweTheGivers_61 : decode cX1_oweTheGivers 61 = .ok (.invokestatic 52, 3) := by decide +kernel
theorem dX1_oweTheGivers_64 : decode cX1_oweTheGivers 64 = .ok (.iinc 3 1, 3) := by decide +kernel
theorem dX1_oweTheGivers_67 : decode cX1_oweTheGivers 67 = .ok (.goto (-65), 3) := by decide +kernel
theorem dX1_oweTheGivers_70 : decode cX1_oweTheGivers 70 = .ok (.return_, 1) := by decide +kernel
theorem dX2_init_0 : decode cX2_init 0 = .ok (.aload_n 0, 1) := by decide +kernel
theorem dX2_init_1 : decode cX2_init 1 = .ok (.invokespecial 3, 3) := by decide +kernel
theorem dX2_init_4 : decode cX2_init 4 = .ok (.aload_n 0, 1) := by decide +kernel
theorem dX2_init_5 : decode cX2_init 5 = .ok (.iconst 0, 1) := by decide +kernel
theorem dX2_init_6 : decode cX2_init 6 = .ok (.putfield 9, 3) := by decide +kernel
theorem dX2_init_9 : decode cX2_init 9 = .ok (.aload_n 0, 1) := by decide +kernel
theorem dX2_init_10 : decode cX2_init 10 = .ok (.iconst 0, 1) := by decide +kernel
theorem dX2_init_11 : decode cX2_init 11 = .ok (.putfield 15, 3) := by decide +kernel
theorem dX2_init_14 : decode cX2_init 14 = .ok (.aload_n 0, 1) := by decide +kernel
theorem dX2_init_15 : decode cX2_init 15 = .ok (.iconst 0, 1) := by decide +kernel
theorem dX2_init_16 : decode cX2_init 16 = .ok (.putfield 18, 3) := by decide +kernel
theorem dX2_init_19 : decode cX2_init 19 = .ok (.aload_n 0, 1) := by decide +kernel
theorem dX2_init_20 : decode cX2_init 20 = .ok (.iconst 0, 1) := by decide +kernel
theorem dX2_init_21 : decode cX2_init 21 = .ok (.putfield 21, 3) := by decide +kernel
theorem dX2_init_24 : decode cX2_init 24 = .ok (.aload_n 0, 1) := by decide +kernel
theorem dX2_init_25 : decode cX2_init 25 = .ok (.iconst 0, 1) := by decide +kernel
theorem dX2_init_26 : decode cX2_init 26 = .ok (.putfield 24, 3) := by decide +kernel
theorem dX2_init_29 : decode cX2_init 29 = .ok (.aload_n 0, 1) := by decide +kernel
theorem dX2_init_30 : decode cX2_init 30 = .ok (.iconst 0, 1) := by decide +kernel
theorem dX2_init_31 : decode cX2_init 31 = .ok (.putfield 28, 3) := by decide +kernel
theorem dX2_init_34 : decode cX2_init 34 = .ok (.return_, 1) := by decide +kernel
theorem dX3_init_0 : decode cX3_init 0 = .ok (.aload_n 0, 1) := by decide +kernel
theorem dX3_init_1 : decode cX3_init 1 = .ok (.invokespecial 3, 3) := by decide +kernel
theorem dX3_init_4 : decode cX3_init 4 = .ok (.aload_n 0, 1) := by decide +kernel
theorem dX3_init_5 : decode cX3_init 5 = .ok (.iconst 0, 1) := by decide +kernel
theorem dX3_init_6 : decode cX3_init 6 = .ok (.putfield 9, 3) := by decide +kernel
theorem dX3_init_9 : decode cX3_init 9 = .ok (.aload_n 0, 1) := by decide +kernel
theorem dX3_init_10 : decode cX3_init 10 = .ok (.bipush 8, 2) := by decide +kernel
theorem dX3_init_12 : decode cX3_init 12 = .ok (.newarray .int, 2) := by decide +kernel
theorem dX3_init_14 : decode cX3_init 14 = .ok (.putfield 15, 3) := by decide +kernel
theorem dX3_init_17 : decode cX3_init 17 = .ok (.aload_n 0, 1) := by decide +kernel
theorem dX3_init_18 : decode cX3_init 18 = .ok (.bipush 8, 2) := by decide +kernel
theorem dX3_init_20 : decode cX3_init 20 = .ok (.newarray .int, 2) := by decide +kernel
theorem dX3_init_22 : decode cX3_init 22 = .ok (.putfield 19, 3) := by decide +kernel
theorem dX3_init_25 : decode cX3_init 25 = .ok (.aload_n 0, 1) := by decide +kernel
theorem dX3_init_26 : decode cX3_init 26 = .ok (.bipush 8, 2) := by decide +kernel
theorem dX3_init_28 : decode cX3_init 28 = .ok (.newarray .int, 2) := by decide +kernel
theorem dX3_init_30 : decode cX3_init 30 = .ok (.putfield 22, 3) := by decide +kernel
theorem dX3_init_33 : decode cX3_init 33 = .ok (.aload_n 0, 1) := by decide +kernel
theorem dX3_init_34 : decode cX3_init 34 = .ok (.bipush 8, 2) := by decide +kernel
theorem dX3_init_36 : decode cX3_init 36 = .ok (.newarray .int, 2) := by decide +kernel
theorem dX3_init_38 : decode cX3_init 38 = .ok (.putfield 25, 3) := by decide +kernel
theorem dX3_init_41 : decode cX3_init 41 = .ok (.aload_n 0, 1) := by decide +kernel
theorem dX3_init_42 : decode cX3_init 42 = .ok (.bipush 8, 2) := by decide +kernel
theorem dX3_init_44 : decode cX3_init 44 = .ok (.newarray .int, 2) := by decide +kernel
theorem dX3_init_46 : decode cX3_init 46 = .ok (.putfield 28, 3) := by decide +kernel
theorem dX3_init_49 : decode cX3_init 49 = .ok (.aload_n 0, 1) := by decide +kernel
theorem dX3_init_50 : decode cX3_init 50 = .ok (.bipush 8, 2) := by decide +kernel
theorem dX3_init_52 : decode cX3_init 52 = .ok (.newarray .int, 2) := by decide +kernel
theorem dX3_init_54 : decode cX3_init 54 = .ok (.putfield 31, 3) := by decide +kernel
theorem dX3_init_57 : decode cX3_init 57 = .ok (.aload_n 0, 1) := by decide +kernel
theorem dX3_init_58 : decode cX3_init 58 = .ok (.bipush 8, 2) := by decide +kernel
theorem dX3_init_60 : decode cX3_init 60 = .ok (.newarray .int, 2) := by decide +kernel
theorem dX3_init_62 : decode cX3_init 62 = .ok (.putfield 34, 3) := by decide +kernel
theorem dX3_init_65 : decode cX3_init 65 = .ok (.aload_n 0, 1) := by decide +kernel
theorem dX3_init_66 : decode cX3_init 66 = .ok (.bipush 8, 2) := by decide +kernel
theorem dX3_init_68 : decode cX3_init 68 = .ok (.newarray .int, 2) := by decide +kernel
theorem dX3_init_70 : decode cX3_init 70 = .ok (.putfield 37, 3) := by decide +kernel
theorem dX3_init_73 : decode cX3_init 73 = .ok (.aload_n 0, 1) := by decide +kernel
theorem dX3_init_74 : decode cX3_init 74 = .ok (.bipush 8, 2) := by decide +kernel
theorem dX3_init_76 : decode cX3_init 76 = .ok (.newarray .int, 2) := by decide +kernel
theorem dX3_init_78 : decode cX3_init 78 = .ok (.putfield 40, 3) := by decide +kernel
theorem dX3_init_81 : decode cX3_init 81 = .ok (.aload_n 0, 1) := by decide +kernel
theorem dX3_init_82 : decode cX3_init 82 = .ok (.bipush 8, 2) := by decide +kernel
theorem dX3_init_84 : decode cX3_init 84 = .ok (.newarray .int, 2) := by decide +kernel
theorem dX3_init_86 : decode cX3_init 86 = .ok (.putfield 43, 3) := by decide +kernel
theorem dX3_init_89 : decode cX3_init 89 = .ok (.aload_n 0, 1) := by decide +kernel
theorem dX3_init_90 : decode cX3_init 90 = .ok (.bipush 8, 2) := by decide +kernel
theorem dX3_init_92 : decode cX3_init 92 = .ok (.newarray .int, 2) := by decide +kernel
theorem dX3_init_94 : decode cX3_init 94 = .ok (.putfield 46, 3) := by decide +kernel
theorem dX3_init_97 : decode cX3_init 97 = .ok (.return_, 1) := by decide +kernel
theorem dX3_add_0 : decode cX3_add 0 = .ok (.aload_n 0, 1) := by decide +kernel
theorem dX3_add_1 : decode cX3_add 1 = .ok (.dup, 1) := by decide +kernel
theorem dX3_add_2 : decode cX3_add 2 = .ok (.getfield 9, 3) := by decide +kernel
theorem dX3_add_5 : decode cX3_add 5 = .ok (.iconst 1, 1) := by decide +kernel
theorem dX3_add_6 : decode cX3_add 6 = .ok (.iadd, 1) := by decide +kernel
theorem dX3_add_7 : decode cX3_add 7 = .ok (.putfield 9, 3) := by decide +kernel
theorem dX3_add_10 : decode cX3_add 10 = .ok (.aload_n 0, 1) := by decide +kernel
theorem dX3_add_11 : decode cX3_add 11 = .ok (.getfield 40, 3) := by decide +kernel
theorem dX3_add_14 : decode cX3_add 14 = .ok (.aload_n 0, 1) := by decide +kernel
theorem dX3_add_15 : decode cX3_add 15 = .ok (.getfield 9, 3) := by decide +kernel
theorem dX3_add_18 : decode cX3_add 18 = .ok (.iconst (-1), 1) := by decide +kernel
theorem dX3_add_19 : decode cX3_add 19 = .ok (.invokestatic 49, 3) := by decide +kernel
theorem dX3_add_22 : decode cX3_add 22 = .ok (.aload_n 0, 1) := by decide +kernel
theorem dX3_add_23 : decode cX3_add 23 = .ok (.getfield 9, 3) := by decide +kernel
theorem dX3_add_26 : decode cX3_add 26 = .ok (.ireturn, 1) := by decide +kernel
theorem dX3_has_0 : decode cX3_has 0 = .ok (.iload_n 1, 1) := by decide +kernel
theorem dX3_has_1 : decode cX3_has 1 = .ok (.iconst 1, 1) := by decide +kernel
theorem dX3_has_2 : decode cX3_has 2 = .ok (.if_icmp .lt 15, 3) := by decide +kernel
theorem dX3_has_5 : decode cX3_has 5 = .ok (.iload_n 1, 1) := by decide +kernel
theorem dX3_has_6 : decode cX3_has 6 = .ok (.aload_n 0, 1) := by decide +kernel
theorem dX3_has_7 : decode cX3_has 7 = .ok (.getfield 9, 3) := by decide +kernel
theorem dX3_has_10 : decode cX3_has 10 = .ok (.if_icmp .gt 7, 3) := by decide +kernel
theorem dX3_has_13 : decode cX3_has 13 = .ok (.iconst 1, 1) := by decide +kernel
theorem dX3_has_14 : decode cX3_has 14 = .ok (.goto 4, 3) := by decide +kernel
theorem dX3_has_17 : decode cX3_has 17 = .ok (.iconst 0, 1) := by decide +kernel
theorem dX3_has_18 : decode cX3_has 18 = .ok (.ireturn, 1) := by decide +kernel
theorem dX3_isOpen_0 : decode cX3_isOpen 0 = .ok (.aload_n 0, 1) := by decide +kernel
theorem dX3_isOpen_1 : decode cX3_isOpen 1 = .ok (.iload_n 1, 1) := by decide +kernel
theorem dX3_isOpen_2 : decode cX3_isOpen 2 = .ok (.invokevirtual 53, 3) := by decide +kernel
theorem dX3_isOpen_5 : decode cX3_isOpen 5 = .ok (.ifCond .eq 18, 3) := by decide +kernel
theorem dX3_isOpen_8 : decode cX3_isOpen 8 = .ok (.aload_n 0, 1) := by decide +kernel
theorem dX3_isOpen_9 : decode cX3_isOpen 9 = .ok (.getfield 19, 3) := by decide +kernel
theorem dX3_isOpen_12 : decode cX3_isOpen 12 = .ok (.iload_n 1, 1) := by decide +kernel
theorem dX3_isOpen_13 : decode cX3_isOpen 13 = .ok (.invokestatic 57, 3) := by decide +kernel
theorem dX3_isOpen_16 : decode cX3_isOpen 16 = .ok (.ifCond .le 7, 3) := by decide +kernel
theorem dX3_isOpen_19 : decode cX3_isOpen 19 = .ok (.iconst 1, 1) := by decide +kernel
theorem dX3_isOpen_20 : decode cX3_isOpen 20 = .ok (.goto 4, 3) := by decide +kernel
theorem dX3_isOpen_23 : decode cX3_isOpen 23 = .ok (.iconst 0, 1) := by decide +kernel
theorem dX3_isOpen_24 : decode cX3_isOpen 24 = .ok (.ireturn, 1) := by decide +kernel
theorem dX3_openOnes_0 : decode cX3_openOnes 0 = .ok (.iconst 0, 1) := by decide +kernel
theorem dX3_openOnes_1 : decode cX3_openOnes 1 = .ok (.istore_n 1, 1) := by decide +kernel
theorem dX3_openOnes_2 : decode cX3_openOnes 2 = .ok (.iconst 1, 1) := by decide +kernel
theorem dX3_openOnes_3 : decode cX3_openOnes 3 = .ok (.istore_n 2, 1) := by decide +kernel
theorem dX3_openOnes_4 : decode cX3_openOnes 4 = .ok (.iload_n 2, 1) := by decide +kernel
theorem dX3_openOnes_5 : decode cX3_openOnes 5 = .ok (.aload_n 0, 1) := by decide +kernel
theorem dX3_openOnes_6 : decode cX3_openOnes 6 = .ok (.getfield 9, 3) := by decide +kernel
theorem dX3_openOnes_9 : decode cX3_openOnes 9 = .ok (.if_icmp .gt 20, 3) := by decide +kernel
theorem dX3_openOnes_12 : decode cX3_openOnes 12 = .ok (.aload_n 0, 1) := by decide +kernel
theorem dX3_openOnes_13 : decode cX3_openOnes 13 = .ok (.iload_n 2, 1) := by decide +kernel
theorem dX3_openOnes_14 : decode cX3_openOnes 14 = .ok (.invokevirtual 61, 3) := by decide +kernel
theorem dX3_openOnes_17 : decode cX3_openOnes 17 = .ok (.ifCond .eq 6, 3) := by decide +kernel
theorem dX3_openOnes_20 : decode cX3_openOnes 20 = .ok (.iinc 1 1, 3) := by decide +kernel
theorem dX3_openOnes_23 : decode cX3_openOnes 23 = .ok (.iinc 2 1, 3) := by decide +kernel
theorem dX3_openOnes_26 : decode cX3_openOnes 26 = .ok (.goto (-22), 3) := by decide +kernel
theorem dX3_openOnes_29 : decode cX3_openOnes 29 = .ok (.iload_n 1, 1) := by decide +kernel
theorem dX3_openOnes_30 : decode cX3_openOnes 30 = .ok (.ireturn, 1) := by decide +kernel
theorem dX4_init_0 : decode cX4_init 0 = .ok (.aload_n 0, 1) := by decide +kernel
theorem dX4_init_1 : decode cX4_init 1 = .ok (.invokespecial 3, 3) := by decide +kernel
theorem dX4_init_4 : decode cX4_init 4 = .ok (.aload_n 0, 1) := by decide +kernel
theorem dX4_init_5 : decode cX4_init 5 = .ok (.iconst 0, 1) := by decide +kernel
theorem dX4_init_6 : decode cX4_init 6 = .ok (.putfield 9, 3) := by decide +kernel
theorem dX4_init_9 : decode cX4_init 9 = .ok (.aload_n 0, 1) := by decide +kernel
theorem dX4_init_10 : decode cX4_init 10 = .ok (.iconst 0, 1) := by decide +kernel
theorem dX4_init_11 : decode cX4_init 11 = .ok (.putfield 15, 3) := by decide +kernel
theorem dX4_init_14 : decode cX4_init 14 = .ok (.aload_n 0, 1) := by decide +kernel
theorem dX4_init_15 : decode cX4_init 15 = .ok (.iconst 0, 1) := by decide +kernel
theorem dX4_init_16 : decode cX4_init 16 = .ok (.putfield 18, 3) := by decide +kernel
theorem dX4_init_19 : decode cX4_init 19 = .ok (.aload_n 0, 1) := by decide +kernel
theorem dX4_init_20 : decode cX4_init 20 = .ok (.bipush 7, 2) := by decide +kernel
theorem dX4_init_22 : decode cX4_init 22 = .ok (.newarray .int, 2) := by decide +kernel
theorem dX4_init_24 : decode cX4_init 24 = .ok (.putfield 22, 3) := by decide +kernel
theorem dX4_init_27 : decode cX4_init 27 = .ok (.aload_n 0, 1) := by decide +kernel
theorem dX4_init_28 : decode cX4_init 28 = .ok (.bipush 7, 2) := by decide +kernel
theorem dX4_init_30 : decode cX4_init 30 = .ok (.newarray .int, 2) := by decide +kernel
theorem dX4_init_32 : decode cX4_init 32 = .ok (.putfield 26, 3) := by decide +kernel
theorem dX4_init_35 : decode cX4_init 35 = .ok (.aload_n 0, 1) := by decide +kernel
theorem dX4_init_36 : decode cX4_init 36 = .ok (.bipush 7, 2) := by decide +kernel
theorem dX4_init_38 : decode cX4_init 38 = .ok (.newarray .int, 2) := by decide +kernel
theorem dX4_init_40 : decode cX4_init 40 = .ok (.putfield 29, 3) := by decide +kernel
theorem dX4_init_43 : decode cX4_init 43 = .ok (.aload_n 0, 1) := by decide +kernel
theorem dX4_init_44 : decode cX4_init 44 = .ok (.bipush 7, 2) := by decide +kernel
theorem dX4_init_46 : decode cX4_init 46 = .ok (.newarray .int, 2) := by decide +kernel
theorem dX4_init_48 : decode cX4_init 48 = .ok (.putfield 32, 3) := by decide +kernel
theorem dX4_init_51 : decode cX4_init 51 = .ok (.aload_n 0, 1) := by decide +kernel
theorem dX4_init_52 : decode cX4_init 52 = .ok (.bipush 7, 2) := by decide +kernel
theorem dX4_init_54 : decode cX4_init 54 = .ok (.newarray .int, 2) := by decide +kernel
theorem dX4_init_56 : decode cX4_init 56 = .ok (.putfield 35, 3) := by decide +kernel
theorem dX4_init_59 : decode cX4_init 59 = .ok (.return_, 1) := by decide +kernel
theorem dX4_make_0 : decode cX4_make 0 = .ok (.aload_n 0, 1) := by decide +kernel
theorem dX4_make_1 : decode cX4_make 1 = .ok (.aload_n 1, 1) := by decide +kernel
theorem dX4_make_2 : decode cX4_make 2 = .ok (.getfield 38, 3) := by decide +kernel
theorem dX4_make_5 : decode cX4_make 5 = .ok (.bipush 7, 2) := by decide +kernel
theorem dX4_make_7 : decode cX4_make 7 = .ok (.invokestatic 43, 3) := by decide +kernel
theorem dX4_make_10 : decode cX4_make 10 = .ok (.putfield 9, 3) := by decide +kernel
theorem dX4_make_13 : decode cX4_make 13 = .ok (.aload_n 0, 1) := by decide +kernel
theorem dX4_make_14 : decode cX4_make 14 = .ok (.iload 4, 2) := by decide +kernel
theorem dX4_make_16 : decode cX4_make 16 = .ok (.putfield 15, 3) := by decide +kernel
theorem dX4_make_19 : decode cX4_make 19 = .ok (.aload_n 0, 1) := by decide +kernel
theorem dX4_make_20 : decode cX4_make 20 = .ok (.iconst 0, 1) := by decide +kernel
theorem dX4_make_21 : decode cX4_make 21 = .ok (.putfield 18, 3) := by decide +kernel
theorem dX4_make_24 : decode cX4_make 24 = .ok (.iload_n 3, 1) := by decide +kernel
theorem dX4_make_25 : decode cX4_make 25 = .ok (.istore 5, 2) := by decide +kernel
theorem dX4_make_27 : decode cX4_make 27 = .ok (.iload 4, 2) := by decide +kernel
theorem dX4_make_29 : decode cX4_make 29 = .ok (.istore 6, 2) := by decide +kernel
theorem dX4_make_31 : decode cX4_make 31 = .ok (.iconst 0, 1) := by decide +kernel
theorem dX4_make_32 : decode cX4_make 32 = .ok (.istore 7, 2) := by decide +kernel
theorem dX4_make_34 : decode cX4_make 34 = .ok (.iload 7, 2) := by decide +kernel
theorem dX4_make_36 : decode cX4_make 36 = .ok (.aload_n 0, 1) := by decide +kernel
theorem dX4_make_37 : decode cX4_make 37 = .ok (.getfield 9, 3) := by decide +kernel
theorem dX4_make_40 : decode cX4_make 40 = .ok (.if_icmp .ge 114, 3) := by decide +kernel
theorem dX4_make_43 : decode cX4_make 43 = .ok (.aload_n 1, 1) := by decide +kernel
theorem dX4_make_44 : decode cX4_make 44 = .ok (.getfield 49, 3) := by decide +kernel
theorem dX4_make_47 : decode cX4_make 47 = .ok (.iload 7, 2) := by decide +kernel
theorem dX4_make_49 : decode cX4_make 49 = .ok (.invokestatic 52, 3) := by decide +kernel
theorem dX4_make_52 : decode cX4_make 52 = .ok (.istore 8, 2) := by decide +kernel
theorem dX4_make_54 : decode cX4_make 54 = .ok (.iload 6, 2) := by decide +kernel
theorem dX4_make_56 : decode cX4_make 56 = .ok (.aload_n 2, 1) := by decide +kernel
theorem dX4_make_57 : decode cX4_make 57 = .ok (.iload 5, 2) := by decide +kernel
theorem dX4_make_59 : decode cX4_make 59 = .ok (.iload 8, 2) := by decide +kernel
theorem dX4_make_61 : decode cX4_make 61 = .ok (.invokevirtual 56, 3) := by decide +kernel
theorem dX4_make_64 : decode cX4_make 64 = .ok (.iadd, 1) := by decide +kernel
theorem dX4_make_65 : decode cX4_make 65 = .ok (.istore 9, 2) := by decide +kernel
theorem dX4_make_67 : decode cX4_make 67 = .ok (.aload_n 0, 1) := by decide +kernel
theorem dX4_make_68 : decode cX4_make 68 = .ok (.getfield 22, 3) := by decide +kernel
theorem dX4_make_71 : decode cX4_make 71 = .ok (.iload 7, 2) := by decide +kernel
theorem dX4_make_73 : decode cX4_make 73 = .ok (.iload 8, 2) := by decide +kernel
theorem dX4_make_75 : decode cX4_make 75 = .ok (.invokestatic 61, 3) := by decide +kernel
theorem dX4_make_78 : decode cX4_make 78 = .ok (.aload_n 0, 1) := by decide +kernel
theorem dX4_make_79 : decode cX4_make 79 = .ok (.getfield 26, 3) := by decide +kernel
theorem dX4_make_82 : decode cX4_make 82 = .ok (.iload 7, 2) := by decide +kernel
theorem dX4_make_84 : decode cX4_make 84 = .ok (.iload 9, 2) := by decide +kernel
theorem dX4_make_86 : decode cX4_make 86 = .ok (.invokestatic 61, 3) := by decide +kernel
theorem dX4_make_89 : decode cX4_make 89 = .ok (.aload_n 0, 1) := by decide +kernel
theorem dX4_make_90 : decode cX4_make 90 = .ok (.getfield 29, 3) := by decide +kernel
theorem dX4_make_93 : decode cX4_make 93 = .ok (.iload 7, 2) := by decide +kernel
theorem dX4_make_95 : decode cX4_make 95 = .ok (.aload_n 1, 1) := by decide +kernel
theorem dX4_make_96 : decode cX4_make 96 = .ok (.iload 8, 2) := by decide +kernel
theorem dX4_make_98 : decode cX4_make 98 = .ok (.iload 9, 2) := by decide +kernel
theorem dX4_make_100 : decode cX4_make 100 = .ok (.invokevirtual 65, 3) := by decide +kernel
theorem dX4_make_103 : decode cX4_make 103 = .ok (.invokestatic 61, 3) := by decide +kernel
theorem dX4_make_106 : decode cX4_make 106 = .ok (.aload_n 1, 1) := by decide +kernel
theorem dX4_make_107 : decode cX4_make 107 = .ok (.iload 8, 2) := by decide +kernel
theorem dX4_make_109 : decode cX4_make 109 = .ok (.iload 9, 2) := by decide +kernel
theorem dX4_make_111 : decode cX4_make 111 = .ok (.invokevirtual 68, 3) := by decide +kernel
theorem dX4_make_114 : decode cX4_make 114 = .ok (.istore 6, 2) := by decide +kernel
theorem dX4_make_116 : decode cX4_make 116 = .ok (.aload_n 0, 1) := by decide +kernel
theorem dX4_make_117 : decode cX4_make 117 = .ok (.getfield 32, 3) := by decide +kernel
theorem dX4_make_120 : decode cX4_make 120 = .ok (.iload 7, 2) := by decide +kernel
theorem dX4_make_122 : decode cX4_make 122 = .ok (.iload 6, 2) := by decide +kernel
theorem dX4_make_124 : decode cX4_make 124 = .ok (.invokestatic 61, 3) := by decide +kernel
theorem dX4_make_127 : decode cX4_make 127 = .ok (.aload_n 0, 1) := by decide +kernel
theorem dX4_make_128 : decode cX4_make 128 = .ok (.getfield 35, 3) := by decide +kernel
theorem dX4_make_131 : decode cX4_make 131 = .ok (.iload 7, 2) := by decide +kernel
theorem dX4_make_133 : decode cX4_make 133 = .ok (.aload_n 1, 1) := by decide +kernel
theorem dX4_make_134 : decode cX4_make 134 = .ok (.iload 8, 2) := by decide +kernel
theorem dX4_make_136 : decode cX4_make 136 = .ok (.iload 6, 2) := by decide +kernel
theorem dX4_make_138 : decode cX4_make 138 = .ok (.invokevirtual 71, 3) := by decide +kernel
theorem dX4_make_141 : decode cX4_make 141 = .ok (.invokestatic 61, 3) := by decide +kernel
theorem dX4_make_144 : decode cX4_make 144 = .ok (.iload 8, 2) := by decide +kernel
theorem dX4_make_146 : decode cX4_make 146 = .ok (.istore 5, 2) := by decide +kernel
theorem dX4_make_148 : decode cX4_make 148 = .ok (.iinc 7 1, 3) := by decide +kernel
theorem dX4_make_151 : decode cX4_make 151 = .ok (.goto (-117), 3) := by decide +kernel
theorem dX4_make_154 : decode cX4_make 154 = .ok (.return_, 1) := by decide +kernel
