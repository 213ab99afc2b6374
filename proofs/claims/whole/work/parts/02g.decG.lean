theorem dX9_plan_86 : decode cX9_plan 86 = .ok (.iload_n 1, 1) := by decide +kernel
theorem dX9_plan_87 : decode cX9_plan 87 = .ok (.if_icmp .ne 53, 3) := by decide +kernel
theorem dX9_plan_90 : decode cX9_plan 90 = .ok (.aload_n 0, 1) := by decide +kernel
theorem dX9_plan_91 : decode cX9_plan 91 = .ok (.getfield 205, 3) := by decide +kernel
theorem dX9_plan_94 : decode cX9_plan 94 = .ok (.iload_n 2, 1) := by decide +kernel
theorem dX9_plan_95 : decode cX9_plan 95 = .ok (.if_icmp .ge 45, 3) := by decide +kernel
theorem dX9_plan_98 : decode cX9_plan 98 = .ok (.aload_n 0, 1) := by decide +kernel
theorem dX9_plan_99 : decode cX9_plan 99 = .ok (.getfield 196, 3) := by decide +kernel
theorem dX9_plan_102 : decode cX9_plan 102 = .ok (.istore_n 1, 1) := by decide +kernel
theorem dX9_plan_103 : decode cX9_plan 103 = .ok (.aload_n 0, 1) := by decide +kernel
theorem dX9_plan_104 : decode cX9_plan 104 = .ok (.getfield 205, 3) := by decide +kernel
theorem dX9_plan_107 : decode cX9_plan 107 = .ok (.istore_n 2, 1) := by decide +kernel
theorem dX9_plan_108 : decode cX9_plan 108 = .ok (.iconst 0, 1) := by decide +kernel
theorem dX9_plan_109 : decode cX9_plan 109 = .ok (.istore 4, 2) := by decide +kernel
theorem dX9_plan_111 : decode cX9_plan 111 = .ok (.iload 4, 2) := by decide +kernel
theorem dX9_plan_113 : decode cX9_plan 113 = .ok (.aload_n 0, 1) := by decide +kernel
theorem dX9_plan_114 : decode cX9_plan 114 = .ok (.getfield 199, 3) := by decide +kernel
theorem dX9_plan_117 : decode cX9_plan 117 = .ok (.if_icmp .ge 23, 3) := by decide +kernel
theorem dX9_plan_120 : decode cX9_plan 120 = .ok (.aload_n 0, 1) := by decide +kernel
theorem dX9_plan_121 : decode cX9_plan 121 = .ok (.getfield 92, 3) := by decide +kernel
theorem dX9_plan_124 : decode cX9_plan 124 = .ok (.iload 4, 2) := by decide +kernel
theorem dX9_plan_126 : decode cX9_plan 126 = .ok (.aload_n 0, 1) := by decide +kernel
theorem dX9_plan_127 : decode cX9_plan 127 = .ok (.getfield 86, 3) := by decide +kernel
theorem dX9_plan_130 : decode cX9_plan 130 = .ok (.iload 4, 2) := by decide +kernel
theorem dX9_plan_132 : decode cX9_plan 132 = .ok (.iaload, 1) := by decide +kernel
theorem dX9_plan_133 : decode cX9_plan 133 = .ok (.iastore, 1) := by decide +kernel
theorem dX9_plan_134 : decode cX9_plan 134 = .ok (.iinc 4 1, 3) := by decide +kernel
theorem dX9_plan_137 : decode cX9_plan 137 = .ok (.goto (-26), 3) := by decide +kernel
theorem dX9_plan_140 : decode cX9_plan 140 = .ok (.aload_n 0, 1) := by decide +kernel
theorem dX9_plan_141 : decode cX9_plan 141 = .ok (.invokevirtual 232, 3) := by decide +kernel
theorem dX9_plan_144 : decode cX9_plan 144 = .ok (.istore_n 3, 1) := by decide +kernel
theorem dX9_plan_145 : decode cX9_plan 145 = .ok (.goto (-87), 3) := by decide +kernel
theorem dX9_plan_148 : decode cX9_plan 148 = .ok (.iload_n 1, 1) := by decide +kernel
theorem dX9_plan_149 : decode cX9_plan 149 = .ok (.iconst (-1), 1) := by decide +kernel
theorem dX9_plan_150 : decode cX9_plan 150 = .ok (.if_icmp .ne 5, 3) := by decide +kernel
theorem dX9_plan_153 : decode cX9_plan 153 = .ok (.iconst (-1), 1) := by decide +kernel
theorem dX9_plan_154 : decode cX9_plan 154 = .ok (.ireturn, 1) := by decide +kernel
theorem dX9_plan_155 : decode cX9_plan 155 = .ok (.aload_n 0, 1) := by decide +kernel
theorem dX9_plan_156 : decode cX9_plan 156 = .ok (.invokevirtual 235, 3) := by decide +kernel
theorem dX9_plan_159 : decode cX9_plan 159 = .ok (.iload_n 1, 1) := by decide +kernel
theorem dX9_plan_160 : decode cX9_plan 160 = .ok (.ireturn, 1) := by decide +kernel
theorem dX9_comes_0 : decode cX9_comes 0 = .ok (.aload_n 0, 1) := by decide +kernel
theorem dX9_comes_1 : decode cX9_comes 1 = .ok (.iconst 1, 1) := by decide +kernel
theorem dX9_comes_2 : decode cX9_comes 2 = .ok (.putfield 238, 3) := by decide +kernel
theorem dX9_comes_5 : decode cX9_comes 5 = .ok (.aload_n 0, 1) := by decide +kernel
theorem dX9_comes_6 : decode cX9_comes 6 = .ok (.iconst 0, 1) := by decide +kernel
theorem dX9_comes_7 : decode cX9_comes 7 = .ok (.putfield 242, 3) := by decide +kernel
theorem dX9_comes_10 : decode cX9_comes 10 = .ok (.aload_n 0, 1) := by decide +kernel
theorem dX9_comes_11 : decode cX9_comes 11 = .ok (.aload_n 0, 1) := by decide +kernel
theorem dX9_comes_12 : decode cX9_comes 12 = .ok (.getfield 193, 3) := by decide +kernel
theorem dX9_comes_15 : decode cX9_comes 15 = .ok (.putfield 245, 3) := by decide +kernel
theorem dX9_comes_18 : decode cX9_comes 18 = .ok (.aload_n 0, 1) := by decide +kernel
theorem dX9_comes_19 : decode cX9_comes 19 = .ok (.aload_n 0, 1) := by decide +kernel
theorem dX9_comes_20 : decode cX9_comes 20 = .ok (.getfield 199, 3) := by decide +kernel
theorem dX9_comes_23 : decode cX9_comes 23 = .ok (.putfield 248, 3) := by decide +kernel
theorem dX9_comes_26 : decode cX9_comes 26 = .ok (.aload_n 0, 1) := by decide +kernel
theorem dX9_comes_27 : decode cX9_comes 27 = .ok (.iconst 0, 1) := by decide +kernel
theorem dX9_comes_28 : decode cX9_comes 28 = .ok (.putfield 251, 3) := by decide +kernel
theorem dX9_comes_31 : decode cX9_comes 31 = .ok (.aload_n 0, 1) := by decide +kernel
theorem dX9_comes_32 : decode cX9_comes 32 = .ok (.getfield 190, 3) := by decide +kernel
theorem dX9_comes_35 : decode cX9_comes 35 = .ok (.istore_n 1, 1) := by decide +kernel
theorem dX9_comes_36 : decode cX9_comes 36 = .ok (.aload_n 0, 1) := by decide +kernel
theorem dX9_comes_37 : decode cX9_comes 37 = .ok (.getfield 193, 3) := by decide +kernel
theorem dX9_comes_40 : decode cX9_comes 40 = .ok (.istore_n 2, 1) := by decide +kernel
theorem dX9_comes_41 : decode cX9_comes 41 = .ok (.iconst 0, 1) := by decide +kernel
theorem dX9_comes_42 : decode cX9_comes 42 = .ok (.istore_n 3, 1) := by decide +kernel
theorem dX9_comes_43 : decode cX9_comes 43 = .ok (.iload_n 3, 1) := by decide +kernel
theorem dX9_comes_44 : decode cX9_comes 44 = .ok (.aload_n 0, 1) := by decide +kernel
theorem dX9_comes_45 : decode cX9_comes 45 = .ok (.getfield 199, 3) := by decide +kernel
theorem dX9_comes_48 : decode cX9_comes 48 = .ok (.if_icmp .ge 145, 3) := by decide +kernel
theorem dX9_comes_51 : decode cX9_comes 51 = .ok (.aload_n 0, 1) := by decide +kernel
theorem dX9_comes_52 : decode cX9_comes 52 = .ok (.getfield 92, 3) := by decide +kernel
theorem dX9_comes_55 : decode cX9_comes 55 = .ok (.iload_n 3, 1) := by decide +kernel
theorem dX9_comes_56 : decode cX9_comes 56 = .ok (.iaload, 1) := by decide +kernel
theorem dX9_comes_57 : decode cX9_comes 57 = .ok (.istore 4, 2) := by decide +kernel
theorem dX9_comes_59 : decode cX9_comes 59 = .ok (.aload_n 0, 1) := by decide +kernel
theorem dX9_comes_60 : decode cX9_comes 60 = .ok (.getfield 71, 3) := by decide +kernel
theorem dX9_comes_63 : decode cX9_comes 63 = .ok (.iload_n 3, 1) := by decide +kernel
theorem dX9_comes_64 : decode cX9_comes 64 = .ok (.iload 4, 2) := by decide +kernel
theorem dX9_comes_66 : decode cX9_comes 66 = .ok (.iastore, 1) := by decide +kernel
theorem dX9_comes_67 : decode cX9_comes 67 = .ok (.aload_n 0, 1) := by decide +kernel
theorem dX9_comes_68 : decode cX9_comes 68 = .ok (.getfield 74, 3) := by decide +kernel
theorem dX9_comes_71 : decode cX9_comes 71 = .ok (.iload_n 3, 1) := by decide +kernel
theorem dX9_comes_72 : decode cX9_comes 72 = .ok (.iload 4, 2) := by decide +kernel
theorem dX9_comes_74 : decode cX9_comes 74 = .ok (.iload_n 1, 1) := by decide +kernel
theorem dX9_comes_75 : decode cX9_comes 75 = .ok (.if_icmp .ne 7, 3) := by decide +kernel
theorem dX9_comes_78 : decode cX9_comes 78 = .ok (.iload_n 2, 1) := by decide +kernel
theorem dX9_comes_79 : decode cX9_comes 79 = .ok (.goto 19, 3) := by decide +kernel
theorem dX9_comes_82 : decode cX9_comes 82 = .ok (.iload_n 2, 1) := by decide +kernel
theorem dX9_comes_83 : decode cX9_comes 83 = .ok (.aload_n 0, 1) := by decide +kernel
theorem dX9_comes_84 : decode cX9_comes 84 = .ok (.getfield 62, 3) := by decide +kernel
theorem dX9_comes_87 : decode cX9_comes 87 = .ok (.bipush 8, 2) := by decide +kernel
theorem dX9_comes_89 : decode cX9_comes 89 = .ok (.iload_n 1, 1) := by decide +kernel
theorem dX9_comes_90 : decode cX9_comes 90 = .ok (.imul, 1) := by decide +kernel
theorem dX9_comes_91 : decode cX9_comes 91 = .ok (.iload 4, 2) := by decide +kernel
theorem dX9_comes_93 : decode cX9_comes 93 = .ok (.iadd, 1) := by decide +kernel
theorem dX9_comes_94 : decode cX9_comes 94 = .ok (.iaload, 1) := by decide +kernel
theorem dX9_comes_95 : decode cX9_comes 95 = .ok (.iadd, 1) := by decide +kernel
theorem dX9_comes_96 : decode cX9_comes 96 = .ok (.iconst 1, 1) := by decide +kernel
theorem dX9_comes_97 : decode cX9_comes 97 = .ok (.isub, 1) := by decide +kernel
theorem dX9_comes_98 : decode cX9_comes 98 = .ok (.iastore, 1) := by decide +kernel
theorem dX9_comes_99 : decode cX9_comes 99 = .ok (.aload_n 0, 1) := by decide +kernel
theorem dX9_comes_100 : decode cX9_comes 100 = .ok (.getfield 77, 3) := by decide +kernel
theorem dX9_comes_103 : decode cX9_comes 103 = .ok (.iload_n 3, 1) := by decide +kernel
theorem dX9_comes_104 : decode cX9_comes 104 = .ok (.aload_n 0, 1) := by decide +kernel
theorem dX9_comes_105 : decode cX9_comes 105 = .ok (.getfield 74, 3) := by decide +kernel
theorem dX9_comes_108 : decode cX9_comes 108 = .ok (.iload_n 3, 1) := by decide +kernel
theorem dX9_comes_109 : decode cX9_comes 109 = .ok (.iaload, 1) := by decide +kernel
theorem dX9_comes_110 : decode cX9_comes 110 = .ok (.aload_n 0, 1) := by decide +kernel
theorem dX9_comes_111 : decode cX9_comes 111 = .ok (.getfield 44, 3) := by decide +kernel
theorem dX9_comes_114 : decode cX9_comes 114 = .ok (.iload 4, 2) := by decide +kernel
theorem dX9_comes_116 : decode cX9_comes 116 = .ok (.iaload, 1) := by decide +kernel
theorem dX9_comes_117 : decode cX9_comes 117 = .ok (.invokestatic 187, 3) := by decide +kernel
theorem dX9_comes_120 : decode cX9_comes 120 = .ok (.iastore, 1) := by decide +kernel
theorem dX9_comes_121 : decode cX9_comes 121 = .ok (.aload_n 0, 1) := by decide +kernel
theorem dX9_comes_122 : decode cX9_comes 122 = .ok (.getfield 80, 3) := by decide +kernel
theorem dX9_comes_125 : decode cX9_comes 125 = .ok (.iload_n 3, 1) := by decide +kernel
theorem dX9_comes_126 : decode cX9_comes 126 = .ok (.aload_n 0, 1) := by decide +kernel
theorem dX9_comes_127 : decode cX9_comes 127 = .ok (.getfield 77, 3) := by decide +kernel
theorem dX9_comes_130 : decode cX9_comes 130 = .ok (.iload_n 3, 1) := by decide +kernel
theorem dX9_comes_131 : decode cX9_comes 131 = .ok (.iaload, 1) := by decide +kernel
theorem dX9_comes_132 : decode cX9_comes 132 = .ok (.aload_n 0, 1) := by decide +kernel
theorem dX9_comes_133 : decode cX9_comes 133 = .ok (.getfield 32, 3) := by decide +kernel
theorem dX9_comes_136 : decode cX9_comes 136 = .ok (.iload 4, 2) := by decide +kernel
theorem dX9_comes_138 : decode cX9_comes 138 = .ok (.iaload, 1) := by decide +kernel
theorem dX9_comes_139 : decode cX9_comes 139 = .ok (.aload_n 0, 1) := by decide +kernel
theorem dX9_comes_140 : decode cX9_comes 140 = .ok (.getfield 89, 3) := by decide +kernel
theorem dX9_comes_143 : decode cX9_comes 143 = .ok (.iload 4, 2) := by decide +kernel
theorem dX9_comes_145 : decode cX9_comes 145 = .ok (.iaload, 1) := by decide +kernel
theorem dX9_comes_146 : decode cX9_comes 146 = .ok (.iadd, 1) := by decide +kernel
theorem dX9_comes_147 : decode cX9_comes 147 = .ok (.iconst 1, 1) := by decide +kernel
theorem dX9_comes_148 : decode cX9_comes 148 = .ok (.isub, 1) := by decide +kernel
theorem dX9_comes_149 : decode cX9_comes 149 = .ok (.aload_n 0, 1) := by decide +kernel
theorem dX9_comes_150 : decode cX9_comes 150 = .ok (.getfield 89, 3) := by decide +kernel
theorem dX9_comes_153 : decode cX9_comes 153 = .ok (.iload 4, 2) := by decide +kernel
theorem dX9_comes_155 : decode cX9_comes 155 = .ok (.iaload, 1) := by decide +kernel
theorem dX9_comes_156 : decode cX9_comes 156 = .ok (.idiv, 1) := by decide +kernel
theorem dX9_comes_157 : decode cX9_comes 157 = .ok (.iadd, 1) := by decide +kernel
theorem dX9_comes_158 : decode cX9_comes 158 = .ok (.iastore, 1) := by decide +kernel
theorem dX9_comes_159 : decode cX9_comes 159 = .ok (.aload_n 0, 1) := by decide +kernel
theorem dX9_comes_160 : decode cX9_comes 160 = .ok (.getfield 83, 3) := by decide +kernel
theorem dX9_comes_163 : decode cX9_comes 163 = .ok (.iload_n 3, 1) := by decide +kernel
theorem dX9_comes_164 : decode cX9_comes 164 = .ok (.aload_n 0, 1) := by decide +kernel
theorem dX9_comes_165 : decode cX9_comes 165 = .ok (.aload_n 0, 1) := by decide +kernel
theorem dX9_comes_166 : decode cX9_comes 166 = .ok (.getfield 80, 3) := by decide +kernel
theorem dX9_comes_169 : decode cX9_comes 169 = .ok (.iload_n 3, 1) := by decide +kernel
theorem dX9_comes_170 : decode cX9_comes 170 = .ok (.iaload, 1) := by decide +kernel
theorem dX9_comes_171 : decode cX9_comes 171 = .ok (.iload 4, 2) := by decide +kernel
theorem dX9_comes_173 : decode cX9_comes 173 = .ok (.invokevirtual 202, 3) := by decide +kernel
theorem dX9_comes_176 : decode cX9_comes 176 = .ok (.iastore, 1) := by decide +kernel
theorem dX9_comes_177 : decode cX9_comes 177 = .ok (.aload_n 0, 1) := by decide +kernel
theorem dX9_comes_178 : decode cX9_comes 178 = .ok (.getfield 80, 3) := by decide +kernel
theorem dX9_comes_181 : decode cX9_comes 181 = .ok (.iload_n 3, 1) := by decide +kernel
theorem dX9_comes_182 : decode cX9_comes 182 = .ok (.iaload, 1) := by decide +kernel
theorem dX9_comes_183 : decode cX9_comes 183 = .ok (.istore_n 2, 1) := by decide +kernel
theorem dX9_comes_184 : decode cX9_comes 184 = .ok (.iload 4, 2) := by decide +kernel
theorem dX9_comes_186 : decode cX9_comes 186 = .ok (.istore_n 1, 1) := by decide +kernel
theorem dX9_comes_187 : decode cX9_comes 187 = .ok (.iinc 3 1, 3) := by decide +kernel
theorem dX9_comes_190 : decode cX9_comes 190 = .ok (.goto (-147), 3) := by decide +kernel
theorem dX9_comes_193 : decode cX9_comes 193 = .ok (.return_, 1) := by decide +kernel
theorem dX9_planned_0 : decode cX9_planned 0 = .ok (.aload_n 0, 1) := by decide +kernel
theorem dX9_planned_1 : decode cX9_planned 1 = .ok (.iconst 0, 1) := by decide +kernel
theorem dX9_planned_2 : decode cX9_planned 2 = .ok (.putfield 95, 3) := by decide +kernel
theorem dX9_planned_5 : decode cX9_planned 5 = .ok (.aload_n 0, 1) := by decide +kernel
theorem dX9_planned_6 : decode cX9_planned 6 = .ok (.getfield 238, 3) := by decide +kernel
theorem dX9_planned_9 : decode cX9_planned 9 = .ok (.ifCond .eq 15, 3) := by decide +kernel
theorem dX9_planned_12 : decode cX9_planned 12 = .ok (.iload_n 1, 1) := by decide +kernel
theorem dX9_planned_13 : decode cX9_planned 13 = .ok (.ifCond .lt 11, 3) := by decide +kernel
theorem dX9_planned_16 : decode cX9_planned 16 = .ok (.iload_n 1, 1) := by decide +kernel
theorem dX9_planned_17 : decode cX9_planned 17 = .ok (.aload_n 0, 1) := by decide +kernel
theorem dX9_planned_18 : decode cX9_planned 18 = .ok (.getfield 248, 3) := by decide +kernel
theorem dX9_planned_21 : decode cX9_planned 21 = .ok (.if_icmp .lt 5, 3) := by decide +kernel
theorem dX9_planned_24 : decode cX9_planned 24 = .ok (.iconst (-1), 1) := by decide +kernel
theorem dX9_planned_25 : decode cX9_planned 25 = .ok (.ireturn, 1) := by decide +kernel
theorem dX9_planned_26 : decode cX9_planned 26 = .ok (.iload_n 2, 1) := by decide +kernel
theorem dX9_planned_27 : decode cX9_planned 27 = .ok (.tableswitch 68 0 4 #[33, 40, 47, 54, 61], 33) := by decide +kernel
theorem dX9_planned_60 : decode cX9_planned 60 = .ok (.aload_n 0, 1) := by decide +kernel
theorem dX9_planned_61 : decode cX9_planned 61 = .ok (.getfield 71, 3) := by decide +kernel
theorem dX9_planned_64 : decode cX9_planned 64 = .ok (.iload_n 1, 1) := by decide +kernel
theorem dX9_planned_65 : decode cX9_planned 65 = .ok (.iaload, 1) := by decide +kernel
theorem dX9_planned_66 : decode cX9_planned 66 = .ok (.ireturn, 1) := by decide +kernel
theorem dX9_planned_67 : decode cX9_planned 67 = .ok (.aload_n 0, 1) := by decide +kernel
theorem dX9_planned_68 : decode cX9_planned 68 = .ok (.getfield 74, 3) := by decide +kernel
theorem dX9_planned_71 : decode cX9_planned 71 = .ok (.iload_n 1, 1) := by decide +kernel
theorem dX9_planned_72 : decode cX9_planned 72 = .ok (.iaload, 1) := by decide +kernel
theorem dX9_planned_73 : decode cX9_planned 73 = .ok (.ireturn, 1) := by decide +kernel
theorem dX9_planned_74 : decode cX9_planned 74 = .ok (.aload_n 0, 1) := by decide +kernel
theorem dX9_planned_75 : decode cX9_planned 75 = .ok (.getfield 77, 3) := by decide +kernel
theorem dX9_planned_78 : decode cX9_planned 78 = .ok (.iload_n 1, 1) := by decide +kernel
theorem dX9_planned_79 : decode cX9_planned 79 = .ok (.iaload, 1) := by decide +kernel
theorem dX9_planned_80 : decode cX9_planned 80 = .ok (.ireturn, 1) := by decide +kernel
theorem dX9_planned_81 : decode cX9_planned 81 = .ok (.aload_n 0, 1) := by decide +kernel
theorem dX9_planned_82 : decode cX9_planned 82 = .ok (.getfield 80, 3) := by decide +kernel
theorem dX9_planned_85 : decode cX9_planned 85 = .ok (.iload_n 1, 1) := by decide +kernel
theorem dX9_planned_86 : decode cX9_planned 86 = .ok (.iaload, 1) := by decide +kernel
theorem dX9_planned_87 : decode cX9_planned 87 = .ok (.ireturn, 1) := by decide +kernel
theorem dX9_planned_88 : decode cX9_planned 88 = .ok (.aload_n 0, 1) := by decide +kernel
theorem dX9_planned_89 : decode cX9_planned 89 = .ok (.getfield 83, 3) := by decide +kernel
theorem dX9_planned_92 : decode cX9_planned 92 = .ok (.iload_n 1, 1) := by decide +kernel
theorem dX9_planned_93 : decode cX9_planned 93 = .ok (.iaload, 1) := by decide +kernel
theorem dX9_planned_94 : decode cX9_planned 94 = .ok (.ireturn, 1) := by decide +kernel
theorem dX9_planned_95 : decode cX9_planned 95 = .ok (.iconst (-1), 1) := by decide +kernel
theorem dX9_planned_96 : decode cX9_planned 96 = .ok (.ireturn, 1) := by decide +kernel
theorem dX9_setsOut_0 : decode cX9_setsOut 0 = .ok (.aload_n 0, 1) := by decide +kernel
theorem dX9_setsOut_1 : decode cX9_setsOut 1 = .ok (.getfield 71, 3) := by decide +kernel
theorem dX9_setsOut_4 : decode cX9_setsOut 4 = .ok (.aload_n 0, 1) := by decide +kernel
theorem dX9_setsOut_5 : decode cX9_setsOut 5 = .ok (.getfield 251, 3) := by decide +kernel
theorem dX9_setsOut_8 : decode cX9_setsOut 8 = .ok (.iaload, 1) := by decide +kernel
theorem dX9_setsOut_9 : decode cX9_setsOut 9 = .ok (.istore_n 1, 1) := by decide +kernel
theorem dX9_setsOut_10 : decode cX9_setsOut 10 = .ok (.iload_n 1, 1) := by decide +kernel
theorem dX9_setsOut_11 : decode cX9_setsOut 11 = .ok (.aload_n 0, 1) := by decide +kernel
theorem dX9_setsOut_12 : decode cX9_setsOut 12 = .ok (.getfield 190, 3) := by decide +kernel
theorem dX9_setsOut_15 : decode cX9_setsOut 15 = .ok (.if_icmp .ne 5, 3) := by decide +kernel
theorem dX9_setsOut_18 : decode cX9_setsOut 18 = .ok (.iconst 1, 1) := by decide +kernel
theorem dX9_setsOut_19 : decode cX9_setsOut 19 = .ok (.ireturn, 1) := by decide +kernel
theorem dX9_setsOut_20 : decode cX9_setsOut 20 = .ok (.aload_n 0, 1) := by decide +kernel
theorem dX9_setsOut_21 : decode cX9_setsOut 21 = .ok (.getfield 62, 3) := by decide +kernel
theorem dX9_setsOut_24 : decode cX9_setsOut 24 = .ok (.bipush 8, 2) := by decide +kernel
theorem dX9_setsOut_26 : decode cX9_setsOut 26 = .ok (.aload_n 0, 1) := by decide +kernel
theorem dX9_setsOut_27 : decode cX9_setsOut 27 = .ok (.getfield 190, 3) := by decide +kernel
theorem dX9_setsOut_30 : decode cX9_setsOut 30 = .ok (.imul, 1) := by decide +kernel
theorem dX9_setsOut_31 : decode cX9_setsOut 31 = .ok (.iload_n 1, 1) := by decide +kernel
theorem dX9_setsOut_32 : decode cX9_setsOut 32 = .ok (.iadd, 1) := by decide +kernel
theorem dX9_setsOut_33 : decode cX9_setsOut 33 = .ok (.iaload, 1) := by decide +kernel
theorem dX9_setsOut_34 : decode cX9_setsOut 34 = .ok (.istore_n 2, 1) := by decide +kernel
theorem dX9_setsOut_35 : decode cX9_setsOut 35 = .ok (.iload_n 2, 1) := by decide +kernel
theorem dX9_setsOut_36 : decode cX9_setsOut 36 = .ok (.ifCond .ne 5, 3) := by decide +kernel
theorem dX9_setsOut_39 : decode cX9_setsOut 39 = .ok (.iconst 0, 1) := by decide +kernel
theorem dX9_setsOut_40 : decode cX9_setsOut 40 = .ok (.ireturn, 1) := by decide +kernel
theorem dX9_setsOut_41 : decode cX9_setsOut 41 = .ok (.aload_n 0, 1) := by decide +kernel
theorem dX9_setsOut_42 : decode cX9_setsOut 42 = .ok (.iload_n 2, 1) := by decide +kernel
theorem dX9_setsOut_43 : decode cX9_setsOut 43 = .ok (.iconst 1, 1) := by decide +kernel
theorem dX9_setsOut_44 : decode cX9_setsOut 44 = .ok (.isub, 1) := by decide +kernel
theorem dX9_setsOut_45 : decode cX9_setsOut 45 = .ok (.putfield 221, 3) := by decide +kernel
theorem dX9_setsOut_48 : decode cX9_setsOut 48 = .ok (.aload_n 0, 1) := by decide +kernel
theorem dX9_setsOut_49 : decode cX9_setsOut 49 = .ok (.iload_n 1, 1) := by decide +kernel
theorem dX9_setsOut_50 : decode cX9_setsOut 50 = .ok (.putfield 254, 3) := by decide +kernel
theorem dX9_setsOut_53 : decode cX9_setsOut 53 = .ok (.aload_n 0, 1) := by decide +kernel
theorem dX9_setsOut_54 : decode cX9_setsOut 54 = .ok (.getfield 221, 3) := by decide +kernel
theorem dX9_setsOut_57 : decode cX9_setsOut 57 = .ok (.ifCond .ne 8, 3) := by decide +kernel
theorem dX9_setsOut_60 : decode cX9_setsOut 60 = .ok (.aload_n 0, 1) := by decide +kernel
theorem dX9_setsOut_61 : decode cX9_setsOut 61 = .ok (.iload_n 1, 1) := by decide +kernel
theorem dX9_setsOut_62 : decode cX9_setsOut 62 = .ok (.putfield 190, 3) := by decide +kernel
theorem dX9_setsOut_65 : decode cX9_setsOut 65 = .ok (.iconst 1, 1) := by decide +kernel
theorem dX9_setsOut_66 : decode cX9_setsOut 66 = .ok (.ireturn, 1) := by decide +kernel
theorem dX9_out_0 : decode cX9_out 0 = .ok (.aload_n 0, 1) := by decide +kernel
theorem dX9_out_1 : decode cX9_out 1 = .ok (.iconst 0, 1) := by decide +kernel
theorem dX9_out_2 : decode cX9_out 2 = .ok (.putfield 95, 3) := by decide +kernel
theorem dX9_out_5 : decode cX9_out 5 = .ok (.aload_n 0, 1) := by decide +kernel
theorem dX9_out_6 : decode cX9_out 6 = .ok (.getfield 238, 3) := by decide +kernel
theorem dX9_out_9 : decode cX9_out 9 = .ok (.ifCond .eq 28, 3) := by decide +kernel
theorem dX9_out_12 : decode cX9_out 12 = .ok (.aload_n 0, 1) := by decide +kernel
theorem dX9_out_13 : decode cX9_out 13 = .ok (.getfield 242, 3) := by decide +kernel
theorem dX9_out_16 : decode cX9_out 16 = .ok (.ifCond .ne 21, 3) := by decide +kernel
theorem dX9_out_19 : decode cX9_out 19 = .ok (.aload_n 0, 1) := by decide +kernel
theorem dX9_out_20 : decode cX9_out 20 = .ok (.getfield 245, 3) := by decide +kernel
theorem dX9_out_23 : decode cX9_out 23 = .ok (.aload_n 0, 1) := by decide +kernel
theorem dX9_out_24 : decode cX9_out 24 = .ok (.getfield 193, 3) := by decide +kernel
theorem dX9_out_27 : decode cX9_out 27 = .ok (.if_icmp .ne 10, 3) := by decide +kernel
theorem dX9_out_30 : decode cX9_out 30 = .ok (.aload_n 0, 1) := by decide +kernel
theorem dX9_out_31 : decode cX9_out 31 = .ok (.invokevirtual 257, 3) := by decide +kernel
theorem dX9_out_34 : decode cX9_out 34 = .ok (.ifCond .ne 5, 3) := by decide +kernel
theorem dX9_out_37 : decode cX9_out 37 = .ok (.iconst 0, 1) := by decide +kernel
theorem dX9_out_38 : decode cX9_out 38 = .ok (.ireturn, 1) := by decide +kernel
theorem dX9_out_39 : decode cX9_out 39 = .ok (.aload_n 0, 1) := by decide +kernel
theorem dX9_out_40 : decode cX9_out 40 = .ok (.iconst 1, 1) := by decide +kernel
theorem dX9_out_41 : decode cX9_out 41 = .ok (.putfield 242, 3) := by decide +kernel
theorem dX9_out_44 : decode cX9_out 44 = .ok (.iconst 1, 1) := by decide +kernel
theorem dX9_out_45 : decode cX9_out 45 = .ok (.ireturn, 1) := by decide +kernel
theorem dX9_breaks_0 : decode cX9_breaks 0 = .ok (.aload_n 0, 1) := by decide +kernel
theorem dX9_breaks_1 : decode cX9_breaks 1 = .ok (.iconst 0, 1) := by decide +kernel
theorem dX9_breaks_2 : decode cX9_breaks 2 = .ok (.putfield 95, 3) := by decide +kernel
theorem dX9_breaks_5 : decode cX9_breaks 5 = .ok (.iload_n 1, 1) := by decide +kernel
theorem dX9_breaks_6 : decode cX9_breaks 6 = .ok (.iconst 1, 1) := by decide +kernel
theorem dX9_breaks_7 : decode cX9_breaks 7 = .ok (.if_icmp .lt 9, 3) := by decide +kernel
theorem dX9_breaks_10 : decode cX9_breaks 10 = .ok (.iload_n 1, 1) := by decide +kernel
theorem dX9_breaks_11 : decode cX9_breaks 11 = .ok (.bipush 9, 2) := by decide +kernel
theorem dX9_breaks_13 : decode cX9_breaks 13 = .ok (.if_icmp .le 5, 3) := by decide +kernel
theorem dX9_breaks_16 : decode cX9_breaks 16 = .ok (.iconst 0, 1) := by decide +kernel
theorem dX9_breaks_17 : decode cX9_breaks 17 = .ok (.ireturn, 1) := by decide +kernel
theorem dX9_breaks_18 : decode cX9_breaks 18 = .ok (.aload_n 0, 1) := by decide +kernel
theorem dX9_breaks_19 : decode cX9_breaks 19 = .ok (.iload_n 1, 1) := by decide +kernel
theorem dX9_breaks_20 : decode cX9_breaks 20 = .ok (.putfield 260, 3) := by decide +kernel
theorem dX9_breaks_23 : decode cX9_breaks 23 = .ok (.iconst 1, 1) := by decide +kernel
theorem dX9_breaks_24 : decode cX9_breaks 24 = .ok (.ireturn, 1) := by decide +kernel
theorem dX9_isAtWork_0 : decode cX9_isAtWork 0 = .ok (.aload_n 0, 1) := by decide +kernel
theorem dX9_isAtWork_1 : decode cX9_isAtWork 1 = .ok (.getfield 238, 3) := by decide +kernel
theorem dX9_isAtWork_4 : decode cX9_isAtWork 4 = .ok (.ifCond .eq 32, 3) := by decide +kernel
theorem dX9_isAtWork_7 : decode cX9_isAtWork 7 = .ok (.aload_n 0, 1) := by decide +kernel
theorem dX9_isAtWork_8 : decode cX9_isAtWork 8 = .ok (.getfield 242, 3) := by decide +kernel
theorem dX9_isAtWork_11 : decode cX9_isAtWork 11 = .ok (.ifCond .eq 25, 3) := by decide +kernel
theorem dX9_isAtWork_14 : decode cX9_isAtWork 14 = .ok (.aload_n 0, 1) := by decide +kernel
theorem dX9_isAtWork_15 : decode cX9_isAtWork 15 = .ok (.getfield 251, 3) := by decide +kernel
theorem dX9_isAtWork_18 : decode cX9_isAtWork 18 = .ok (.aload_n 0, 1) := by decide +kernel
theorem dX9_isAtWork_19 : decode cX9_isAtWork 19 = .ok (.getfield 248, 3) := by decide +kernel
theorem dX9_isAtWork_22 : decode cX9_isAtWork 22 = .ok (.if_icmp .ge 14, 3) := by decide +kernel
theorem dX9_isAtWork_25 : decode cX9_isAtWork 25 = .ok (.aload_n 0, 1) := by decide +kernel
theorem dX9_isAtWork_26 : decode cX9_isAtWork 26 = .ok (.getfield 221, 3) := by decide +kernel
theorem dX9_isAtWork_29 : decode cX9_isAtWork 29 = .ok (.ifCond .ne 7, 3) := by decide +kernel
theorem dX9_isAtWork_32 : decode cX9_isAtWork 32 = .ok (.iconst 1, 1) := by decide +kernel
theorem dX9_isAtWork_33 : decode cX9_isAtWork 33 = .ok (.goto 4, 3) := by decide +kernel
theorem dX9_isAtWork_36 : decode cX9_isAtWork 36 = .ok (.iconst 0, 1) := by decide +kernel
theorem dX9_isAtWork_37 : decode cX9_isAtWork 37 = .ok (.ireturn, 1) := by decide +kernel
theorem dX9_threshes_0 : decode cX9_threshes 0 = .ok (.aload_n 0, 1) := by decide +kernel
theorem dX9_threshes_1 : decode cX9_threshes 1 = .ok (.getfield 32, 3) := by decide +kernel
theorem dX9_threshes_4 : decode cX9_threshes 4 = .ok (.iload_n 1, 1) := by decide +kernel
theorem dX9_threshes_5 : decode cX9_threshes 5 = .ok (.iaload, 1) := by decide +kernel
theorem dX9_threshes_6 : decode cX9_threshes 6 = .ok (.aload_n 0, 1) := by decide +kernel
theorem dX9_threshes_7 : decode cX9_threshes 7 = .ok (.iload_n 1, 1) := by decide +kernel
theorem dX9_threshes_8 : decode cX9_threshes 8 = .ok (.invokevirtual 224, 3) := by decide +kernel
theorem dX9_threshes_11 : decode cX9_threshes 11 = .ok (.invokestatic 175, 3) := by decide +kernel
theorem dX9_threshes_14 : decode cX9_threshes 14 = .ok (.istore_n 2, 1) := by decide +kernel
theorem dX9_threshes_15 : decode cX9_threshes 15 = .ok (.aload_n 0, 1) := by decide +kernel
theorem dX9_threshes_16 : decode cX9_threshes 16 = .ok (.getfield 32, 3) := by decide +kernel
theorem dX9_threshes_19 : decode cX9_threshes 19 = .ok (.iload_n 1, 1) := by decide +kernel
theorem dX9_threshes_20 : decode cX9_threshes 20 = .ok (.dup2, 1) := by decide +kernel
theorem dX9_threshes_21 : decode cX9_threshes 21 = .ok (.iaload, 1) := by decide +kernel
theorem dX9_threshes_22 : decode cX9_threshes 22 = .ok (.iload_n 2, 1) := by decide +kernel
theorem dX9_threshes_23 : decode cX9_threshes 23 = .ok (.isub, 1) := by decide +kernel
theorem dX9_threshes_24 : decode cX9_threshes 24 = .ok (.iastore, 1) := by decide +kernel
theorem dX9_threshes_25 : decode cX9_threshes 25 = .ok (.aload_n 0, 1) := by decide +kernel
theorem dX9_threshes_26 : decode cX9_threshes 26 = .ok (.getfield 50, 3) := by decide +kernel
theorem dX9_threshes_29 : decode cX9_threshes 29 = .ok (.iload_n 1, 1) := by decide +kernel
theorem dX9_threshes_30 : decode cX9_threshes 30 = .ok (.dup2, 1) := by decide +kernel
theorem dX9_threshes_31 : decode cX9_threshes 31 = .ok (.iaload, 1) := by decide +kernel
theorem dX9_threshes_32 : decode cX9_threshes 32 = .ok (.iconst 1, 1) := by decide +kernel
theorem dX9_threshes_33 : decode cX9_threshes 33 = .ok (.iadd, 1) := by decide +kernel
theorem dX9_threshes_34 : decode cX9_threshes 34 = .ok (.iastore, 1) := by decide +kernel
theorem dX9_threshes_35 : decode cX9_threshes 35 = .ok (.iconst 1, 1) := by decide +kernel
theorem dX9_threshes_36 : decode cX9_threshes 36 = .ok (.istore_n 3, 1) := by decide +kernel
theorem dX9_threshes_37 : decode cX9_threshes 37 = .ok (.iload_n 3, 1) := by decide +kernel
theorem dX9_threshes_38 : decode cX9_threshes 38 = .ok (.aload_n 0, 1) := by decide +kernel
theorem dX9_threshes_39 : decode cX9_threshes 39 = .ok (.getfield 166, 3) := by decide +kernel
theorem dX9_threshes_42 : decode cX9_threshes 42 = .ok (.if_icmp .gt 49, 3) := by decide +kernel
theorem dX9_threshes_45 : decode cX9_threshes 45 = .ok (.aload_n 0, 1) := by decide +kernel
theorem dX9_threshes_46 : decode cX9_threshes 46 = .ok (.getfield 65, 3) := by decide +kernel
theorem dX9_threshes_49 : decode cX9_threshes 49 = .ok (.bipush 8, 2) := by decide +kernel
theorem dX9_threshes_51 : decode cX9_threshes 51 = .ok (.iload_n 1, 1) := by decide +kernel
theorem dX9_threshes_52 : decode cX9_threshes 52 = .ok (.imul, 1) := by decide +kernel
theorem dX9_threshes_53 : decode cX9_threshes 53 = .ok (.iload_n 3, 1) := by decide +kernel
theorem dX9_threshes_54 : decode cX9_threshes 54 = .ok (.iadd, 1) := by decide +kernel
theorem dX9_threshes_55 : decode cX9_threshes 55 = .ok (.dup2, 1) := by decide +kernel
theorem dX9_threshes_56 : decode cX9_threshes 56 = .ok (.iaload, 1) := by decide +kernel
theorem dX9_threshes_57 : decode cX9_threshes 57 = .ok (.aload_n 0, 1) := by decide +kernel
theorem dX9_threshes_58 : decode cX9_threshes 58 = .ok (.getfield 68, 3) := by decide +kernel
theorem dX9_threshes_61 : decode cX9_threshes 61 = .ok (.iload_n 3, 1) := by decide +kernel
theorem dX9_threshes_62 : decode cX9_threshes 62 = .ok (.iaload, 1) := by decide +kernel
theorem dX9_threshes_63 : decode cX9_threshes 63 = .ok (.iadd, 1) := by decide +kernel
theorem dX9_threshes_64 : decode cX9_threshes 64 = .ok (.iastore, 1) := by decide +kernel
theorem dX9_threshes_65 : decode cX9_threshes 65 = .ok (.aload_n 0, 1) := by decide +kernel
theorem dX9_threshes_66 : decode cX9_threshes 66 = .ok (.getfield 65, 3) := by decide +kernel
theorem dX9_threshes_69 : decode cX9_threshes 69 = .ok (.bipush 8, 2) := by decide +kernel
theorem dX9_threshes_71 : decode cX9_threshes 71 = .ok (.iload_n 3, 1) := by decide +kernel
theorem dX9_threshes_72 : decode cX9_threshes 72 = .ok (.imul, 1) := by decide +kernel
theorem dX9_threshes_73 : decode cX9_threshes 73 = .ok (.iload_n 1, 1) := by decide +kernel
theorem dX9_threshes_74 : decode cX9_threshes 74 = .ok (.iadd, 1) := by decide +kernel
theorem dX9_threshes_75 : decode cX9_threshes 75 = .ok (.dup2, 1) := by decide +kernel
theorem dX9_threshes_76 : decode cX9_threshes 76 = .ok (.iaload, 1) := by decide +kernel
theorem dX9_threshes_77 : decode cX9_threshes 77 = .ok (.aload_n 0, 1) := by decide +kernel
theorem dX9_threshes_78 : decode cX9_threshes 78 = .ok (.getfield 68, 3) := by decide +kernel
theorem dX9_threshes_81 : decode cX9_threshes 81 = .ok (.iload_n 3, 1) := by decide +kernel
theorem dX9_threshes_82 : decode cX9_threshes 82 = .ok (.iaload, 1) := by decide +kernel
theorem dX9_threshes_83 : decode cX9_threshes 83 = .ok (.isub, 1) := by decide +kernel
theorem dX9_threshes_84 : decode cX9_threshes 84 = .ok (.iastore, 1) := by decide +kernel
theorem dX9_threshes_85 : decode cX9_threshes 85 = .ok (.iinc 3 1, 3) := by decide +kernel
theorem dX9_threshes_88 : decode cX9_threshes 88 = .ok (.goto (-51), 3) := by decide +kernel
theorem dX9_threshes_91 : decode cX9_threshes 91 = .ok (.aload_n 0, 1) := by decide +kernel
theorem dX9_threshes_92 : decode cX9_threshes 92 = .ok (.getfield 32, 3) := by decide +kernel
theorem dX9_threshes_95 : decode cX9_threshes 95 = .ok (.iload_n 1, 1) := by decide +kernel
theorem dX9_threshes_96 : decode cX9_threshes 96 = .ok (.iaload, 1) := by decide +kernel
theorem dX9_threshes_97 : decode cX9_threshes 97 = .ok (.ifCond .le 4, 3) := by decide +kernel
theorem dX9_threshes_100 : decode cX9_threshes 100 = .ok (.return_, 1) := by decide +kernel
theorem dX9_threshes_101 : decode cX9_threshes 101 = .ok (.aload_n 0, 1) := by decide +kernel
theorem dX9_threshes_102 : decode cX9_threshes 102 = .ok (.getfield 53, 3) := by decide +kernel
theorem dX9_threshes_105 : decode cX9_threshes 105 = .ok (.iload_n 1, 1) := by decide +kernel
theorem dX9_threshes_106 : decode cX9_threshes 106 = .ok (.aload_n 0, 1) := by decide +kernel
theorem dX9_threshes_107 : decode cX9_threshes 107 = .ok (.getfield 193, 3) := by decide +kernel
theorem dX9_threshes_110 : decode cX9_threshes 110 = .ok (.iastore, 1) := by decide +kernel
theorem dX9_threshes_111 : decode cX9_threshes 111 = .ok (.aload_n 0, 1) := by decide +kernel
theorem dX9_threshes_112 : decode cX9_threshes 112 = .ok (.dup, 1) := by decide +kernel
theorem dX9_threshes_113 : decode cX9_threshes 113 = .ok (.getfield 251, 3) := by decide +kernel
theorem dX9_threshes_116 : decode cX9_threshes 116 = .ok (.iconst 1, 1) := by decide +kernel
theorem dX9_threshes_117 : decode cX9_threshes 117 = .ok (.iadd, 1) := by decide +kernel
theorem dX9_threshes_118 : decode cX9_threshes 118 = .ok (.putfield 251, 3) := by decide +kernel
theorem dX9_threshes_121 : decode cX9_threshes 121 = .ok (.aload_n 0, 1) := by decide +kernel
theorem dX9_threshes_122 : decode cX9_threshes 122 = .ok (.getfield 251, 3) := by decide +kernel
theorem dX9_threshes_125 : decode cX9_threshes 125 = .ok (.aload_n 0, 1) := by decide +kernel
theorem dX9_threshes_126 : decode cX9_threshes 126 = .ok (.getfield 248, 3) := by decide +kernel
theorem dX9_threshes_129 : decode cX9_threshes 129 = .ok (.if_icmp .ge 18, 3) := by decide +kernel
theorem dX9_threshes_132 : decode cX9_threshes 132 = .ok (.aload_n 0, 1) := by decide +kernel
theorem dX9_threshes_133 : decode cX9_threshes 133 = .ok (.invokevirtual 257, 3) := by decide +kernel
theorem dX9_threshes_136 : decode cX9_threshes 136 = .ok (.ifCond .ne 11, 3) := by decide +kernel
theorem dX9_threshes_139 : decode cX9_threshes 139 = .ok (.aload_n 0, 1) := by decide +kernel
theorem dX9_threshes_140 : decode cX9_threshes 140 = .ok (.aload_n 0, 1) := by decide +kernel
theorem dX9_threshes_141 : decode cX9_threshes 141 = .ok (.getfield 248, 3) := by decide +kernel
theorem dX9_threshes_144 : decode cX9_threshes 144 = .ok (.putfield 251, 3) := by decide +kernel
theorem dX9_threshes_147 : decode cX9_threshes 147 = .ok (.return_, 1) := by decide +kernel
theorem dX9_oneDay_0 : decode cX9_oneDay 0 = .ok (.aload_n 0, 1) := by decide +kernel
theorem dX9_oneDay_1 : decode cX9_oneDay 1 = .ok (.getfield 260, 3) := by decide +kernel
theorem dX9_oneDay_4 : decode cX9_oneDay 4 = .ok (.ifCond .le 16, 3) := by decide +kernel
theorem dX9_oneDay_7 : decode cX9_oneDay 7 = .ok (.aload_n 0, 1) := by decide +kernel
theorem dX9_oneDay_8 : decode cX9_oneDay 8 = .ok (.dup, 1) := by decide +kernel
theorem dX9_oneDay_9 : decode cX9_oneDay 9 = .ok (.getfield 260, 3) := by decide +kernel
theorem dX9_oneDay_12 : decode cX9_oneDay 12 = .ok (.iconst 1, 1) := by decide +kernel
theorem dX9_oneDay_13 : decode cX9_oneDay 13 = .ok (.isub, 1) := by decide +kernel
theorem dX9_oneDay_14 : decode cX9_oneDay 14 = .ok (.putfield 260, 3) := by decide +kernel
theorem dX9_oneDay_17 : decode cX9_oneDay 17 = .ok (.goto 79, 3) := by decide +kernel
theorem dX9_oneDay_20 : decode cX9_oneDay 20 = .ok (.aload_n 0, 1) := by decide +kernel
theorem dX9_oneDay_21 : decode cX9_oneDay 21 = .ok (.getfield 221, 3) := by decide +kernel
theorem dX9_oneDay_24 : decode cX9_oneDay 24 = .ok (.ifCond .le 31, 3) := by decide +kernel
theorem dX9_oneDay_27 : decode cX9_oneDay 27 = .ok (.aload_n 0, 1) := by decide +kernel
theorem dX9_oneDay_28 : decode cX9_oneDay 28 = .ok (.dup, 1) := by decide +kernel
theorem dX9_oneDay_29 : decode cX9_oneDay 29 = .ok (.getfield 221, 3) := by decide +kernel
theorem dX9_oneDay_32 : decode cX9_oneDay 32 = .ok (.iconst 1, 1) := by decide +kernel
theorem dX9_oneDay_33 : decode cX9_oneDay 33 = .ok (.isub, 1) := by decide +kernel
theorem dX9_oneDay_34 : decode cX9_oneDay 34 = .ok (.putfield 221, 3) := by decide +kernel
theorem dX9_oneDay_37 : decode cX9_oneDay 37 = .ok (.aload_n 0, 1) := by decide +kernel
theorem dX9_oneDay_38 : decode cX9_oneDay 38 = .ok (.getfield 221, 3) := by decide +kernel
theorem dX9_oneDay_41 : decode cX9_oneDay 41 = .ok (.ifCond .ne 55, 3) := by decide +kernel
theorem dX9_oneDay_44 : decode cX9_oneDay 44 = .ok (.aload_n 0, 1) := by decide +kernel
theorem dX9_oneDay_45 : decode cX9_oneDay 45 = .ok (.aload_n 0, 1) := by decide +kernel
theorem dX9_oneDay_46 : decode cX9_oneDay 46 = .ok (.getfield 254, 3) := by decide +kernel
theorem dX9_oneDay_49 : decode cX9_oneDay 49 = .ok (.putfield 190, 3) := by decide +kernel
theorem dX9_oneDay_52 : decode cX9_oneDay 52 = .ok (.goto 44, 3) := by decide +kernel
theorem dX9_oneDay_55 : decode cX9_oneDay 55 = .ok (.aload_n 0, 1) := by decide +kernel
theorem dX9_oneDay_56 : decode cX9_oneDay 56 = .ok (.invokevirtual 263, 3) := by decide +kernel
theorem dX9_oneDay_59 : decode cX9_oneDay 59 = .ok (.ifCond .eq 37, 3) := by decide +kernel
theorem dX9_oneDay_62 : decode cX9_oneDay 62 = .ok (.aload_n 0, 1) := by decide +kernel
theorem dX9_oneDay_63 : decode cX9_oneDay 63 = .ok (.getfield 193, 3) := by decide +kernel
theorem dX9_oneDay_66 : decode cX9_oneDay 66 = .ok (.aload_n 0, 1) := by decide +kernel
theorem dX9_oneDay_67 : decode cX9_oneDay 67 = .ok (.getfield 44, 3) := by decide +kernel
theorem dX9_oneDay_70 : decode cX9_oneDay 70 = .ok (.aload_n 0, 1) := by decide +kernel
theorem dX9_oneDay_71 : decode cX9_oneDay 71 = .ok (.getfield 71, 3) := by decide +kernel
theorem dX9_oneDay_74 : decode cX9_oneDay 74 = .ok (.aload_n 0, 1) := by decide +kernel
theorem dX9_oneDay_75 : decode cX9_oneDay 75 = .ok (.getfield 251, 3) := by decide +kernel
theorem dX9_oneDay_78 : decode cX9_oneDay 78 = .ok (.iaload, 1) := by decide +kernel
theorem dX9_oneDay_79 : decode cX9_oneDay 79 = .ok (.iaload, 1) := by decide +kernel
theorem dX9_oneDay_80 : decode cX9_oneDay 80 = .ok (.if_icmp .lt 16, 3) := by decide +kernel
theorem dX9_oneDay_83 : decode cX9_oneDay 83 = .ok (.aload_n 0, 1) := by decide +kernel
theorem dX9_oneDay_84 : decode cX9_oneDay 84 = .ok (.aload_n 0, 1) := by decide +kernel
theorem dX9_oneDay_85 : decode cX9_oneDay 85 = .ok (.getfield 71, 3) := by decide +kernel
theorem dX9_oneDay_88 : decode cX9_oneDay 88 = .ok (.aload_n 0, 1) := by decide +kernel
theorem dX9_oneDay_89 : decode cX9_oneDay 89 = .ok (.getfield 251, 3) := by decide +kernel
theorem dX9_oneDay_92 : decode cX9_oneDay 92 = .ok (.iaload, 1) := by decide +kernel
theorem dX9_oneDay_93 : decode cX9_oneDay 93 = .ok (.invokevirtual 266, 3) := by decide +kernel
theorem dX9_oneDay_96 : decode cX9_oneDay 96 = .ok (.aload_n 0, 1) := by decide +kernel
theorem dX9_oneDay_97 : decode cX9_oneDay 97 = .ok (.dup, 1) := by decide +kernel
theorem dX9_oneDay_98 : decode cX9_oneDay 98 = .ok (.getfield 193, 3) := by decide +kernel
theorem dX9_oneDay_101 : decode cX9_oneDay 101 = .ok (.iconst 1, 1) := by decide +kernel
theorem dX9_oneDay_102 : decode cX9_oneDay 102 = .ok (.iadd, 1) := by decide +kernel
theorem dX9_oneDay_103 : decode cX9_oneDay 103 = .ok (.putfield 193, 3) := by decide +kernel
theorem dX9_oneDay_106 : decode cX9_oneDay 106 = .ok (.return_, 1) := by decide +kernel
theorem dX9_day_0 : decode cX9_day 0 = .ok (.aload_n 0, 1) := by decide +kernel
theorem dX9_day_1 : decode cX9_day 1 = .ok (.iconst 0, 1) := by decide +kernel
theorem dX9_day_2 : decode cX9_day 2 = .ok (.putfield 95, 3) := by decide +kernel
theorem dX9_day_5 : decode cX9_day 5 = .ok (.iload_n 1, 1) := by decide +kernel
theorem dX9_day_6 : decode cX9_day 6 = .ok (.iconst 1, 1) := by decide +kernel
theorem dX9_day_7 : decode cX9_day 7 = .ok (.if_icmp .lt 21, 3) := by decide +kernel
theorem dX9_day_10 : decode cX9_day 10 = .ok (.iload_n 1, 1) := by decide +kernel
theorem dX9_day_11 : decode cX9_day 11 = .ok (.bipush 99, 2) := by decide +kernel
theorem dX9_day_13 : decode cX9_day 13 = .ok (.if_icmp .gt 15, 3) := by decide +kernel
theorem dX9_day_16 : decode cX9_day 16 = .ok (.aload_n 0, 1) := by decide +kernel
theorem dX9_day_17 : decode cX9_day 17 = .ok (.getfield 193, 3) := by decide +kernel
theorem dX9_day_20 : decode cX9_day 20 = .ok (.iload_n 1, 1) := by decide +kernel
theorem dX9_day_21 : decode cX9_day 21 = .ok (.iadd, 1) := by decide +kernel
theorem dX9_day_22 : decode cX9_day 22 = .ok (.sipush 999, 3) := by decide +kernel
theorem dX9_day_25 : decode cX9_day 25 = .ok (.if_icmp .le 5, 3) := by decide +kernel
theorem dX9_day_28 : decode cX9_day 28 = .ok (.iconst (-1), 1) := by decide +kernel
theorem dX9_day_29 : decode cX9_day 29 = .ok (.ireturn, 1) := by decide +kernel
theorem dX9_day_30 : decode cX9_day 30 = .ok (.iconst 0, 1) := by decide +kernel
theorem dX9_day_31 : decode cX9_day 31 = .ok (.istore_n 2, 1) := by decide +kernel
theorem dX9_day_32 : decode cX9_day 32 = .ok (.iload_n 2, 1) := by decide +kernel
theorem dX9_day_33 : decode cX9_day 33 = .ok (.iload_n 1, 1) := by decide +kernel
theorem dX9_day_34 : decode cX9_day 34 = .ok (.if_icmp .ge 13, 3) := by decide +kernel
theorem dX9_day_37 : decode cX9_day 37 = .ok (.aload_n 0, 1) := by decide +kernel
theorem dX9_day_38 : decode cX9_day 38 = .ok (.invokevirtual 269, 3) := by decide +kernel
theorem dX9_day_41 : decode cX9_day 41 = .ok (.iinc 2 1, 3) := by decide +kernel
theorem dX9_day_44 : decode cX9_day 44 = .ok (.goto (-12), 3) := by decide +kernel
theorem dX9_day_47 : decode cX9_day 47 = .ok (.aload_n 0, 1) := by decide +kernel
theorem dX9_day_48 : decode cX9_day 48 = .ok (.getfield 193, 3) := by decide +kernel
theorem dX9_day_51 : decode cX9_day 51 = .ok (.ireturn, 1) := by decide +kernel
theorem dX9_sacksOf_0 : decode cX9_sacksOf 0 = .ok (.aload_n 0, 1) := by decide +kernel
theorem dX9_sacksOf_1 : decode cX9_sacksOf 1 = .ok (.getfield 29, 3) := by decide +kernel
theorem dX9_sacksOf_4 : decode cX9_sacksOf 4 = .ok (.iload_n 1, 1) := by decide +kernel
theorem dX9_sacksOf_5 : decode cX9_sacksOf 5 = .ok (.iaload, 1) := by decide +kernel
theorem dX9_sacksOf_6 : decode cX9_sacksOf 6 = .ok (.aload_n 0, 1) := by decide +kernel
theorem dX9_sacksOf_7 : decode cX9_sacksOf 7 = .ok (.getfield 32, 3) := by decide +kernel
theorem dX9_sacksOf_10 : decode cX9_sacksOf 10 = .ok (.iload_n 1, 1) := by decide +kernel
theorem dX9_sacksOf_11 : decode cX9_sacksOf 11 = .ok (.iaload, 1) := by decide +kernel
theorem dX9_sacksOf_12 : decode cX9_sacksOf 12 = .ok (.isub, 1) := by decide +kernel
theorem dX9_sacksOf_13 : decode cX9_sacksOf 13 = .ok (.bipush 100, 2) := by decide +kernel
theorem dX9_sacksOf_15 : decode cX9_sacksOf 15 = .ok (.aload_n 0, 1) := by decide +kernel
theorem dX9_sacksOf_16 : decode cX9_sacksOf 16 = .ok (.getfield 13, 3) := by decide +kernel
theorem dX9_sacksOf_19 : decode cX9_sacksOf 19 = .ok (.iconst 5, 1) := by decide +kernel
theorem dX9_sacksOf_20 : decode cX9_sacksOf 20 = .ok (.iaload, 1) := by decide +kernel
theorem dX9_sacksOf_21 : decode cX9_sacksOf 21 = .ok (.aload_n 0, 1) := by decide +kernel
theorem dX9_sacksOf_22 : decode cX9_sacksOf 22 = .ok (.getfield 35, 3) := by decide +kernel
theorem dX9_sacksOf_25 : decode cX9_sacksOf 25 = .ok (.iload_n 1, 1) := by decide +kernel
theorem dX9_sacksOf_26 : decode cX9_sacksOf 26 = .ok (.iaload, 1) := by decide +kernel
theorem dX9_sacksOf_27 : decode cX9_sacksOf 27 = .ok (.imul, 1) := by decide +kernel
theorem dX9_sacksOf_28 : decode cX9_sacksOf 28 = .ok (.isub, 1) := by decide +kernel
theorem dX9_sacksOf_29 : decode cX9_sacksOf 29 = .ok (.imul, 1) := by decide +kernel
theorem dX9_sacksOf_30 : decode cX9_sacksOf 30 = .ok (.bipush 100, 2) := by decide +kernel
theorem dX9_sacksOf_32 : decode cX9_sacksOf 32 = .ok (.aload_n 0, 1) := by decide +kernel
theorem dX9_sacksOf_33 : decode cX9_sacksOf 33 = .ok (.getfield 13, 3) := by decide +kernel
theorem dX9_sacksOf_36 : decode cX9_sacksOf 36 = .ok (.iconst 2, 1) := by decide +kernel
theorem dX9_sacksOf_37 : decode cX9_sacksOf 37 = .ok (.iaload, 1) := by decide +kernel
theorem dX9_sacksOf_38 : decode cX9_sacksOf 38 = .ok (.imul, 1) := by decide +kernel
theorem dX9_sacksOf_39 : decode cX9_sacksOf 39 = .ok (.idiv, 1) := by decide +kernel
theorem dX9_sacksOf_40 : decode cX9_sacksOf 40 = .ok (.ireturn, 1) := by decide +kernel
theorem dX9_look_0 : decode cX9_look 0 = .ok (.aload_n 0, 1) := by decide +kernel
theorem dX9_look_1 : decode cX9_look 1 = .ok (.iconst 0, 1) := by decide +kernel
theorem dX9_look_2 : decode cX9_look 2 = .ok (.putfield 95, 3) := by decide +kernel
theorem dX9_look_5 : decode cX9_look 5 = .ok (.aload_n 0, 1) := by decide +kernel
theorem dX9_look_6 : decode cX9_look 6 = .ok (.iload_n 1, 1) := by decide +kernel
theorem dX9_look_7 : decode cX9_look 7 = .ok (.invokevirtual 172, 3) := by decide +kernel
theorem dX9_look_10 : decode cX9_look 10 = .ok (.ifCond .ne 5, 3) := by decide +kernel
theorem dX9_look_13 : decode cX9_look 13 = .ok (.iconst (-1), 1) := by decide +kernel
theorem dX9_look_14 : decode cX9_look 14 = .ok (.ireturn, 1) := by decide +kernel
theorem dX9_look_15 : decode cX9_look 15 = .ok (.iload_n 2, 1) := by decide +kernel
theorem dX9_look_16 : decode cX9_look 16 = .ok (.tableswitch 150 0 7 #[48, 55, 61, 68, 75, 106, 116, 122], 48) := by decide +kernel
theorem dX9_look_64 : decode cX9_look 64 = .ok (.aload_n 0, 1) := by decide +kernel
theorem dX9_look_65 : decode cX9_look 65 = .ok (.getfield 32, 3) := by decide +kernel
theorem dX9_look_68 : decode cX9_look 68 = .ok (.iload_n 1, 1) := by decide +kernel
theorem dX9_look_69 : decode cX9_look 69 = .ok (.iaload, 1) := by decide +kernel
theorem dX9_look_70 : decode cX9_look 70 = .ok (.ireturn, 1) := by decide +kernel
theorem dX9_look_71 : decode cX9_look 71 = .ok (.aload_n 0, 1) := by decide +kernel
theorem dX9_look_72 : decode cX9_look 72 = .ok (.iload_n 1, 1) := by decide +kernel
theorem dX9_look_73 : decode cX9_look 73 = .ok (.invokevirtual 272, 3) := by decide +kernel
theorem dX9_look_76 : decode cX9_look 76 = .ok (.ireturn, 1) := by decide +kernel
theorem dX9_look_77 : decode cX9_look 77 = .ok (.aload_n 0, 1) := by decide +kernel
theorem dX9_look_78 : decode cX9_look 78 = .ok (.getfield 50, 3) := by decide +kernel
theorem dX9_look_81 : decode cX9_look 81 = .ok (.iload_n 1, 1) := by decide +kernel
theorem dX9_look_82 : decode cX9_look 82 = .ok (.iaload, 1) := by decide +kernel
theorem dX9_look_83 : decode cX9_look 83 = .ok (.ireturn, 1) := by decide +kernel
theorem dX9_look_84 : decode cX9_look 84 = .ok (.aload_n 0, 1) := by decide +kernel
theorem dX9_look_85 : decode cX9_look 85 = .ok (.getfield 53, 3) := by decide +kernel
theorem dX9_look_88 : decode cX9_look 88 = .ok (.iload_n 1, 1) := by decide +kernel
theorem dX9_look_89 : decode cX9_look 89 = .ok (.iaload, 1) := by decide +kernel
theorem dX9_look_90 : decode cX9_look 90 = .ok (.ireturn, 1) := by decide +kernel
theorem dX9_look_91 : decode cX9_look 91 = .ok (.aload_n 0, 1) := by decide +kernel
theorem dX9_look_92 : decode cX9_look 92 = .ok (.getfield 59, 3) := by decide +kernel
theorem dX9_look_95 : decode cX9_look 95 = .ok (.iload_n 1, 1) := by decide +kernel
theorem dX9_look_96 : decode cX9_look 96 = .ok (.iaload, 1) := by decide +kernel
theorem dX9_look_97 : decode cX9_look 97 = .ok (.aload_n 0, 1) := by decide +kernel
theorem dX9_look_98 : decode cX9_look 98 = .ok (.getfield 56, 3) := by decide +kernel
theorem dX9_look_101 : decode cX9_look 101 = .ok (.iload_n 1, 1) := by decide +kernel
theorem dX9_look_102 : decode cX9_look 102 = .ok (.iaload, 1) := by decide +kernel
theorem dX9_look_103 : decode cX9_look 103 = .ok (.ifCond .ne 12, 3) := by decide +kernel
theorem dX9_look_106 : decode cX9_look 106 = .ok (.aload_n 0, 1) := by decide +kernel
theorem dX9_look_107 : decode cX9_look 107 = .ok (.getfield 50, 3) := by decide +kernel
theorem dX9_look_110 : decode cX9_look 110 = .ok (.iload_n 1, 1) := by decide +kernel
theorem dX9_look_111 : decode cX9_look 111 = .ok (.iaload, 1) := by decide +kernel
theorem dX9_look_112 : decode cX9_look 112 = .ok (.goto 8, 3) := by decide +kernel
theorem dX9_look_115 : decode cX9_look 115 = .ok (.aload_n 0, 1) := by decide +kernel
theorem dX9_look_116 : decode cX9_look 116 = .ok (.iload_n 1, 1) := by decide +kernel
theorem dX9_look_117 : decode cX9_look 117 = .ok (.invokevirtual 272, 3) := by decide +kernel
theorem dX9_look_120 : decode cX9_look 120 = .ok (.imul, 1) := by decide +kernel
theorem dX9_look_121 : decode cX9_look 121 = .ok (.ireturn, 1) := by decide +kernel
theorem dX9_look_122 : decode cX9_look 122 = .ok (.aload_n 0, 1) := by decide +kernel
theorem dX9_look_123 : decode cX9_look 123 = .ok (.iload_n 1, 1) := by decide +kernel
theorem dX9_look_124 : decode cX9_look 124 = .ok (.invokevirtual 184, 3) := by decide +kernel
theorem dX9_look_127 : decode cX9_look 127 = .ok (.aload_n 0, 1) := by decide +kernel
theorem dX9_look_128 : decode cX9_look 128 = .ok (.getfield 181, 3) := by decide +kernel
theorem dX9_look_131 : decode cX9_look 131 = .ok (.ireturn, 1) := by decide +kernel
theorem dX9_look_132 : decode cX9_look 132 = .ok (.aload_n 0, 1) := by decide +kernel
theorem dX9_look_133 : decode cX9_look 133 = .ok (.iload_n 1, 1) := by decide +kernel
theorem dX9_look_134 : decode cX9_look 134 = .ok (.invokevirtual 224, 3) := by decide +kernel
theorem dX9_look_137 : decode cX9_look 137 = .ok (.ireturn, 1) := by decide +kernel
theorem dX9_look_138 : decode cX9_look 138 = .ok (.aload_n 0, 1) := by decide +kernel
theorem dX9_look_139 : decode cX9_look 139 = .ok (.getfield 53, 3) := by decide +kernel
theorem dX9_look_142 : decode cX9_look 142 = .ok (.iload_n 1, 1) := by decide +kernel
theorem dX9_look_143 : decode cX9_look 143 = .ok (.iaload, 1) := by decide +kernel
theorem dX9_look_144 : decode cX9_look 144 = .ok (.iconst (-1), 1) := by decide +kernel
theorem dX9_look_145 : decode cX9_look 145 = .ok (.if_icmp .ne 7, 3) := by decide +kernel
theorem dX9_look_148 : decode cX9_look 148 = .ok (.iconst 0, 1) := by decide +kernel
theorem dX9_look_149 : decode cX9_look 149 = .ok (.goto 16, 3) := by decide +kernel
theorem dX9_look_152 : decode cX9_look 152 = .ok (.aload_n 0, 1) := by decide +kernel
theorem dX9_look_153 : decode cX9_look 153 = .ok (.aload_n 0, 1) := by decide +kernel
theorem dX9_look_154 : decode cX9_look 154 = .ok (.getfield 53, 3) := by decide +kernel
theorem dX9_look_157 : decode cX9_look 157 = .ok (.iload_n 1, 1) := by decide +kernel
theorem dX9_look_158 : decode cX9_look 158 = .ok (.iaload, 1) := by decide +kernel
theorem dX9_look_159 : decode cX9_look 159 = .ok (.iconst 1, 1) := by decide +kernel
theorem dX9_look_160 : decode cX9_look 160 = .ok (.iadd, 1) := by decide +kernel
theorem dX9_look_161 : decode cX9_look 161 = .ok (.iload_n 1, 1) := by decide +kernel
theorem dX9_look_162 : decode cX9_look 162 = .ok (.invokevirtual 202, 3) := by decide +kernel
theorem dX9_look_165 : decode cX9_look 165 = .ok (.ireturn, 1) := by decide +kernel
theorem dX9_look_166 : decode cX9_look 166 = .ok (.iconst (-1), 1) := by decide +kernel
theorem dX9_look_167 : decode cX9_look 167 = .ok (.ireturn, 1) := by decide +kernel
theorem dX9_owed_0 : decode cX9_owed 0 = .ok (.aload_n 0, 1) := by decide +kernel
theorem dX9_owed_1 : decode cX9_owed 1 = .ok (.iconst 0, 1) := by decide +kernel
theorem dX9_owed_2 : decode cX9_owed 2 = .ok (.putfield 95, 3) := by decide +kernel
theorem dX9_owed_5 : decode cX9_owed 5 = .ok (.aload_n 0, 1) := by decide +kernel
theorem dX9_owed_6 : decode cX9_owed 6 = .ok (.iload_n 1, 1) := by decide +kernel
theorem dX9_owed_7 : decode cX9_owed 7 = .ok (.invokevirtual 172, 3) := by decide +kernel
theorem dX9_owed_10 : decode cX9_owed 10 = .ok (.ifCond .eq 16, 3) := by decide +kernel
theorem dX9_owed_13 : decode cX9_owed 13 = .ok (.aload_n 0, 1) := by decide +kernel
theorem dX9_owed_14 : decode cX9_owed 14 = .ok (.iload_n 2, 1) := by decide +kernel
theorem dX9_owed_15 : decode cX9_owed 15 = .ok (.invokevirtual 172, 3) := by decide +kernel
theorem dX9_owed_18 : decode cX9_owed 18 = .ok (.ifCond .eq 8, 3) := by decide +kernel
theorem dX9_owed_21 : decode cX9_owed 21 = .ok (.iload_n 1, 1) := by decide +kernel
theorem dX9_owed_22 : decode cX9_owed 22 = .ok (.iload_n 2, 1) := by decide +kernel
theorem dX9_owed_23 : decode cX9_owed 23 = .ok (.if_icmp .ne 9, 3) := by decide +kernel
theorem dX9_owed_26 : decode cX9_owed 26 = .ok (.ldc_w 277, 3) := by decide +kernel
theorem dX9_owed_29 : decode cX9_owed 29 = .ok (.goto 14, 3) := by decide +kernel
theorem dX9_owed_32 : decode cX9_owed 32 = .ok (.aload_n 0, 1) := by decide +kernel
theorem dX9_owed_33 : decode cX9_owed 33 = .ok (.getfield 65, 3) := by decide +kernel
theorem dX9_owed_36 : decode cX9_owed 36 = .ok (.bipush 8, 2) := by decide +kernel
theorem dX9_owed_38 : decode cX9_owed 38 = .ok (.iload_n 1, 1) := by decide +kernel
theorem dX9_owed_39 : decode cX9_owed 39 = .ok (.imul, 1) := by decide +kernel
theorem dX9_owed_40 : decode cX9_owed 40 = .ok (.iload_n 2, 1) := by decide +kernel
theorem dX9_owed_41 : decode cX9_owed 41 = .ok (.iadd, 1) := by decide +kernel
theorem dX9_owed_42 : decode cX9_owed 42 = .ok (.iaload, 1) := by decide +kernel
theorem dX9_owed_43 : decode cX9_owed 43 = .ok (.ireturn, 1) := by decide +kernel
theorem dX9_lent_0 : decode cX9_lent 0 = .ok (.aload_n 0, 1) := by decide +kernel
theorem dX9_lent_1 : decode cX9_lent 1 = .ok (.iconst 0, 1) := by decide +kernel
theorem dX9_lent_2 : decode cX9_lent 2 = .ok (.putfield 95, 3) := by decide +kernel
theorem dX9_lent_5 : decode cX9_lent 5 = .ok (.aload_n 0, 1) := by decide +kernel
theorem dX9_lent_6 : decode cX9_lent 6 = .ok (.iload_n 1, 1) := by decide +kernel
theorem dX9_lent_7 : decode cX9_lent 7 = .ok (.invokevirtual 172, 3) := by decide +kernel
theorem dX9_lent_10 : decode cX9_lent 10 = .ok (.ifCond .eq 16, 3) := by decide +kernel
theorem dX9_lent_13 : decode cX9_lent 13 = .ok (.aload_n 0, 1) := by decide +kernel
theorem dX9_lent_14 : decode cX9_lent 14 = .ok (.iload_n 2, 1) := by decide +kernel
theorem dX9_lent_15 : decode cX9_lent 15 = .ok (.invokevirtual 172, 3) := by decide +kernel
theorem dX9_lent_18 : decode cX9_lent 18 = .ok (.ifCond .eq 8, 3) := by decide +kernel
theorem dX9_lent_21 : decode cX9_lent 21 = .ok (.iload_n 1, 1) := by decide +kernel
theorem dX9_lent_22 : decode cX9_lent 22 = .ok (.iload_n 2, 1) := by decide +kernel
theorem dX9_lent_23 : decode cX9_lent 23 = .ok (.if_icmp .ne 5, 3) := by decide +kernel
theorem dX9_lent_26 : decode cX9_lent 26 = .ok (.iconst (-1), 1) := by decide +kernel
theorem dX9_lent_27 : decode cX9_lent 27 = .ok (.ireturn, 1) := by decide +kernel
theorem dX9_lent_28 : decode cX9_lent 28 = .ok (.aload_n 0, 1) := by decide +kernel
theorem dX9_lent_29 : decode cX9_lent 29 = .ok (.iload_n 1, 1) := by decide +kernel
theorem dX9_lent_30 : decode cX9_lent 30 = .ok (.invokevirtual 184, 3) := by decide +kernel
theorem dX9_lent_33 : decode cX9_lent 33 = .ok (.aload_n 0, 1) := by decide +kernel
theorem dX9_lent_34 : decode cX9_lent 34 = .ok (.getfield 68, 3) := by decide +kernel
theorem dX9_lent_37 : decode cX9_lent 37 = .ok (.iload_n 2, 1) := by decide +kernel
theorem dX9_lent_38 : decode cX9_lent 38 = .ok (.iaload, 1) := by decide +kernel
theorem dX9_lent_39 : decode cX9_lent 39 = .ok (.ireturn, 1) := by decide +kernel
theorem dX9_count_0 : decode cX9_count 0 = .ok (.aload_n 0, 1) := by decide +kernel
theorem dX9_count_1 : decode cX9_count 1 = .ok (.iconst 0, 1) := by decide +kernel
theorem dX9_count_2 : decode cX9_count 2 = .ok (.putfield 95, 3) := by decide +kernel
theorem dX9_count_5 : decode cX9_count 5 = .ok (.iconst 0, 1) := by decide +kernel
theorem dX9_count_6 : decode cX9_count 6 = .ok (.istore_n 2, 1) := by decide +kernel
theorem dX9_count_7 : decode cX9_count 7 = .ok (.iconst 1, 1) := by decide +kernel
theorem dX9_count_8 : decode cX9_count 8 = .ok (.istore_n 3, 1) := by decide +kernel
theorem dX9_count_9 : decode cX9_count 9 = .ok (.iload_n 3, 1) := by decide +kernel
theorem dX9_count_10 : decode cX9_count 10 = .ok (.aload_n 0, 1) := by decide +kernel
theorem dX9_count_11 : decode cX9_count 11 = .ok (.getfield 166, 3) := by decide +kernel
theorem dX9_count_14 : decode cX9_count 14 = .ok (.if_icmp .gt 25, 3) := by decide +kernel
theorem dX9_count_17 : decode cX9_count 17 = .ok (.iload_n 2, 1) := by decide +kernel
theorem dX9_count_18 : decode cX9_count 18 = .ok (.aload_n 0, 1) := by decide +kernel
theorem dX9_count_19 : decode cX9_count 19 = .ok (.iload_n 3, 1) := by decide +kernel
theorem dX9_count_20 : decode cX9_count 20 = .ok (.invokevirtual 215, 3) := by decide +kernel
theorem dX9_count_23 : decode cX9_count 23 = .ok (.ifCond .eq 7, 3) := by decide +kernel
theorem dX9_count_26 : decode cX9_count 26 = .ok (.iconst 1, 1) := by decide +kernel
theorem dX9_count_27 : decode cX9_count 27 = .ok (.goto 4, 3) := by decide +kernel
theorem dX9_count_30 : decode cX9_count 30 = .ok (.iconst 0, 1) := by decide +kernel
theorem dX9_count_31 : decode cX9_count 31 = .ok (.iadd, 1) := by decide +kernel
theorem dX9_count_32 : decode cX9_count 32 = .ok (.istore_n 2, 1) := by decide +kernel
theorem dX9_count_33 : decode cX9_count 33 = .ok (.iinc 3 1, 3) := by decide +kernel
theorem dX9_count_36 : decode cX9_count 36 = .ok (.goto (-27), 3) := by decide +kernel
theorem dX9_count_39 : decode cX9_count 39 = .ok (.iload_n 1, 1) := by decide +kernel
theorem dX9_count_40 : decode cX9_count 40 = .ok (.tableswitch 134 0 6 #[44, 49, 68, 73, 78, 83, 85], 44) := by decide +kernel
theorem dX9_count_84 : decode cX9_count 84 = .ok (.aload_n 0, 1) := by decide +kernel
theorem dX9_count_85 : decode cX9_count 85 = .ok (.getfield 193, 3) := by decide +kernel
theorem dX9_count_88 : decode cX9_count 88 = .ok (.ireturn, 1) := by decide +kernel
theorem dX9_count_89 : decode cX9_count 89 = .ok (.aload_n 0, 1) := by decide +kernel
theorem dX9_count_90 : decode cX9_count 90 = .ok (.getfield 221, 3) := by decide +kernel
theorem dX9_count_93 : decode cX9_count 93 = .ok (.ifCond .le 10, 3) := by decide +kernel
theorem dX9_count_96 : decode cX9_count 96 = .ok (.aload_n 0, 1) := by decide +kernel
theorem dX9_count_97 : decode cX9_count 97 = .ok (.getfield 254, 3) := by decide +kernel
theorem dX9_count_100 : decode cX9_count 100 = .ok (.goto 7, 3) := by decide +kernel
theorem dX9_count_103 : decode cX9_count 103 = .ok (.aload_n 0, 1) := by decide +kernel
theorem dX9_count_104 : decode cX9_count 104 = .ok (.getfield 190, 3) := by decide +kernel
theorem dX9_count_107 : decode cX9_count 107 = .ok (.ireturn, 1) := by decide +kernel
theorem dX9_count_108 : decode cX9_count 108 = .ok (.aload_n 0, 1) := by decide +kernel
theorem dX9_count_109 : decode cX9_count 109 = .ok (.getfield 221, 3) := by decide +kernel
theorem dX9_count_112 : decode cX9_count 112 = .ok (.ireturn, 1) := by decide +kernel
theorem dX9_count_113 : decode cX9_count 113 = .ok (.aload_n 0, 1) := by decide +kernel
theorem dX9_count_114 : decode cX9_count 114 = .ok (.getfield 260, 3) := by decide +kernel
theorem dX9_count_117 : decode cX9_count 117 = .ok (.ireturn, 1) := by decide +kernel
theorem dX9_count_118 : decode cX9_count 118 = .ok (.aload_n 0, 1) := by decide +kernel
theorem dX9_count_119 : decode cX9_count 119 = .ok (.getfield 166, 3) := by decide +kernel
theorem dX9_count_122 : decode cX9_count 122 = .ok (.ireturn, 1) := by decide +kernel
theorem dX9_count_123 : decode cX9_count 123 = .ok (.iload_n 2, 1) := by decide +kernel
theorem dX9_count_124 : decode cX9_count 124 = .ok (.ireturn, 1) := by decide +kernel
theorem dX9_count_125 : decode cX9_count 125 = .ok (.aload_n 0, 1) := by decide +kernel
theorem dX9_count_126 : decode cX9_count 126 = .ok (.getfield 221, 3) := by decide +kernel
theorem dX9_count_129 : decode cX9_count 129 = .ok (.ifCond .le 7, 3) := by decide +kernel
theorem dX9_count_132 : decode cX9_count 132 = .ok (.iconst 1, 1) := by decide +kernel
theorem dX9_count_133 : decode cX9_count 133 = .ok (.goto 40, 3) := by decide +kernel
theorem dX9_count_136 : decode cX9_count 136 = .ok (.aload_n 0, 1) := by decide +kernel
theorem dX9_count_137 : decode cX9_count 137 = .ok (.invokevirtual 263, 3) := by decide +kernel
theorem dX9_count_140 : decode cX9_count 140 = .ok (.ifCond .ne 7, 3) := by decide +kernel
theorem dX9_count_143 : decode cX9_count 143 = .ok (.iconst 0, 1) := by decide +kernel
theorem dX9_count_144 : decode cX9_count 144 = .ok (.goto 29, 3) := by decide +kernel
theorem dX9_count_147 : decode cX9_count 147 = .ok (.aload_n 0, 1) := by decide +kernel
theorem dX9_count_148 : decode cX9_count 148 = .ok (.getfield 193, 3) := by decide +kernel
theorem dX9_count_151 : decode cX9_count 151 = .ok (.aload_n 0, 1) := by decide +kernel
theorem dX9_count_152 : decode cX9_count 152 = .ok (.getfield 44, 3) := by decide +kernel
theorem dX9_count_155 : decode cX9_count 155 = .ok (.aload_n 0, 1) := by decide +kernel
theorem dX9_count_156 : decode cX9_count 156 = .ok (.getfield 71, 3) := by decide +kernel
theorem dX9_count_159 : decode cX9_count 159 = .ok (.aload_n 0, 1) := by decide +kernel
theorem dX9_count_160 : decode cX9_count 160 = .ok (.getfield 251, 3) := by decide +kernel
theorem dX9_count_163 : decode cX9_count 163 = .ok (.iaload, 1) := by decide +kernel
theorem dX9_count_164 : decode cX9_count 164 = .ok (.iaload, 1) := by decide +kernel
theorem dX9_count_165 : decode cX9_count 165 = .ok (.if_icmp .ge 7, 3) := by decide +kernel
theorem dX9_count_168 : decode cX9_count 168 = .ok (.iconst 2, 1) := by decide +kernel
theorem dX9_count_169 : decode cX9_count 169 = .ok (.goto 4, 3) := by decide +kernel
theorem dX9_count_172 : decode cX9_count 172 = .ok (.iconst 3, 1) := by decide +kernel
theorem dX9_count_173 : decode cX9_count 173 = .ok (.ireturn, 1) := by decide +kernel
theorem dX9_count_174 : decode cX9_count 174 = .ok (.iconst (-1), 1) := by decide +kernel
theorem dX9_count_175 : decode cX9_count 175 = .ok (.ireturn, 1) := by decide +kernel
