theorem dX9_init_0 : decode cX9_init 0 = .ok (.aload_n 0, 1) := by decide +kernel
theorem dX9_init_1 : decode cX9_init 1 = .ok (.invokespecial 1, 3) := by decide +kernel
theorem dX9_init_4 : decode cX9_init 4 = .ok (.aload_n 0, 1) := by decide +kernel
theorem dX9_init_5 : decode cX9_init 5 = .ok (.sipush 300, 3) := by decide +kernel
theorem dX9_init_8 : decode cX9_init 8 = .ok (.newarray .int, 2) := by decide +kernel
theorem dX9_init_10 : decode cX9_init 10 = .ok (.putfield 7, 3) := by decide +kernel
theorem dX9_init_13 : decode cX9_init 13 = .ok (.aload_n 0, 1) := by decide +kernel
theorem dX9_init_14 : decode cX9_init 14 = .ok (.bipush 12, 2) := by decide +kernel
theorem dX9_init_16 : decode cX9_init 16 = .ok (.newarray .int, 2) := by decide +kernel
theorem dX9_init_18 : decode cX9_init 18 = .ok (.dup, 1) := by decide +kernel
theorem dX9_init_19 : decode cX9_init 19 = .ok (.iconst 0, 1) := by decide +kernel
theorem dX9_init_20 : decode cX9_init 20 = .ok (.bipush 8, 2) := by decide +kernel
theorem dX9_init_22 : decode cX9_init 22 = .ok (.iastore, 1) := by decide +kernel
theorem dX9_init_23 : decode cX9_init 23 = .ok (.dup, 1) := by decide +kernel
theorem dX9_init_24 : decode cX9_init 24 = .ok (.iconst 1, 1) := by decide +kernel
theorem dX9_init_25 : decode cX9_init 25 = .ok (.bipush 10, 2) := by decide +kernel
theorem dX9_init_27 : decode cX9_init 27 = .ok (.iastore, 1) := by decide +kernel
theorem dX9_init_28 : decode cX9_init 28 = .ok (.dup, 1) := by decide +kernel
theorem dX9_init_29 : decode cX9_init 29 = .ok (.iconst 2, 1) := by decide +kernel
theorem dX9_init_30 : decode cX9_init 30 = .ok (.iconst 4, 1) := by decide +kernel
theorem dX9_init_31 : decode cX9_init 31 = .ok (.iastore, 1) := by decide +kernel
theorem dX9_init_32 : decode cX9_init 32 = .ok (.dup, 1) := by decide +kernel
theorem dX9_init_33 : decode cX9_init 33 = .ok (.iconst 3, 1) := by decide +kernel
theorem dX9_init_34 : decode cX9_init 34 = .ok (.iconst 1, 1) := by decide +kernel
theorem dX9_init_35 : decode cX9_init 35 = .ok (.iastore, 1) := by decide +kernel
theorem dX9_init_36 : decode cX9_init 36 = .ok (.dup, 1) := by decide +kernel
theorem dX9_init_37 : decode cX9_init 37 = .ok (.iconst 4, 1) := by decide +kernel
theorem dX9_init_38 : decode cX9_init 38 = .ok (.iconst 0, 1) := by decide +kernel
theorem dX9_init_39 : decode cX9_init 39 = .ok (.iastore, 1) := by decide +kernel
theorem dX9_init_40 : decode cX9_init 40 = .ok (.dup, 1) := by decide +kernel
theorem dX9_init_41 : decode cX9_init 41 = .ok (.iconst 5, 1) := by decide +kernel
theorem dX9_init_42 : decode cX9_init 42 = .ok (.iconst 5, 1) := by decide +kernel
theorem dX9_init_43 : decode cX9_init 43 = .ok (.iastore, 1) := by decide +kernel
theorem dX9_init_44 : decode cX9_init 44 = .ok (.dup, 1) := by decide +kernel
theorem dX9_init_45 : decode cX9_init 45 = .ok (.bipush 6, 2) := by decide +kernel
theorem dX9_init_47 : decode cX9_init 47 = .ok (.iconst 0, 1) := by decide +kernel
theorem dX9_init_48 : decode cX9_init 48 = .ok (.iastore, 1) := by decide +kernel
theorem dX9_init_49 : decode cX9_init 49 = .ok (.dup, 1) := by decide +kernel
theorem dX9_init_50 : decode cX9_init 50 = .ok (.bipush 7, 2) := by decide +kernel
theorem dX9_init_52 : decode cX9_init 52 = .ok (.iconst 0, 1) := by decide +kernel
theorem dX9_init_53 : decode cX9_init 53 = .ok (.iastore, 1) := by decide +kernel
theorem dX9_init_54 : decode cX9_init 54 = .ok (.dup, 1) := by decide +kernel
theorem dX9_init_55 : decode cX9_init 55 = .ok (.bipush 8, 2) := by decide +kernel
theorem dX9_init_57 : decode cX9_init 57 = .ok (.iconst 0, 1) := by decide +kernel
theorem dX9_init_58 : decode cX9_init 58 = .ok (.iastore, 1) := by decide +kernel
theorem dX9_init_59 : decode cX9_init 59 = .ok (.dup, 1) := by decide +kernel
theorem dX9_init_60 : decode cX9_init 60 = .ok (.bipush 9, 2) := by decide +kernel
theorem dX9_init_62 : decode cX9_init 62 = .ok (.iconst 0, 1) := by decide +kernel
theorem dX9_init_63 : decode cX9_init 63 = .ok (.iastore, 1) := by decide +kernel
theorem dX9_init_64 : decode cX9_init 64 = .ok (.dup, 1) := by decide +kernel
theorem dX9_init_65 : decode cX9_init 65 = .ok (.bipush 10, 2) := by decide +kernel
theorem dX9_init_67 : decode cX9_init 67 = .ok (.iconst 0, 1) := by decide +kernel
theorem dX9_init_68 : decode cX9_init 68 = .ok (.iastore, 1) := by decide +kernel
theorem dX9_init_69 : decode cX9_init 69 = .ok (.dup, 1) := by decide +kernel
theorem dX9_init_70 : decode cX9_init 70 = .ok (.bipush 11, 2) := by decide +kernel
theorem dX9_init_72 : decode cX9_init 72 = .ok (.iconst 0, 1) := by decide +kernel
theorem dX9_init_73 : decode cX9_init 73 = .ok (.iastore, 1) := by decide +kernel
theorem dX9_init_74 : decode cX9_init 74 = .ok (.putfield 13, 3) := by decide +kernel
theorem dX9_init_77 : decode cX9_init 77 = .ok (.aload_n 0, 1) := by decide +kernel
theorem dX9_init_78 : decode cX9_init 78 = .ok (.bipush 6, 2) := by decide +kernel
theorem dX9_init_80 : decode cX9_init 80 = .ok (.newarray .int, 2) := by decide +kernel
theorem dX9_init_82 : decode cX9_init 82 = .ok (.dup, 1) := by decide +kernel
theorem dX9_init_83 : decode cX9_init 83 = .ok (.iconst 0, 1) := by decide +kernel
theorem dX9_init_84 : decode cX9_init 84 = .ok (.bipush 8, 2) := by decide +kernel
theorem dX9_init_86 : decode cX9_init 86 = .ok (.iastore, 1) := by decide +kernel
theorem dX9_init_87 : decode cX9_init 87 = .ok (.dup, 1) := by decide +kernel
theorem dX9_init_88 : decode cX9_init 88 = .ok (.iconst 1, 1) := by decide +kernel
theorem dX9_init_89 : decode cX9_init 89 = .ok (.bipush 10, 2) := by decide +kernel
theorem dX9_init_91 : decode cX9_init 91 = .ok (.iastore, 1) := by decide +kernel
theorem dX9_init_92 : decode cX9_init 92 = .ok (.dup, 1) := by decide +kernel
theorem dX9_init_93 : decode cX9_init 93 = .ok (.iconst 2, 1) := by decide +kernel
theorem dX9_init_94 : decode cX9_init 94 = .ok (.iconst 4, 1) := by decide +kernel
theorem dX9_init_95 : decode cX9_init 95 = .ok (.iastore, 1) := by decide +kernel
theorem dX9_init_96 : decode cX9_init 96 = .ok (.dup, 1) := by decide +kernel
theorem dX9_init_97 : decode cX9_init 97 = .ok (.iconst 3, 1) := by decide +kernel
theorem dX9_init_98 : decode cX9_init 98 = .ok (.iconst 1, 1) := by decide +kernel
theorem dX9_init_99 : decode cX9_init 99 = .ok (.iastore, 1) := by decide +kernel
theorem dX9_init_100 : decode cX9_init 100 = .ok (.dup, 1) := by decide +kernel
theorem dX9_init_101 : decode cX9_init 101 = .ok (.iconst 4, 1) := by decide +kernel
theorem dX9_init_102 : decode cX9_init 102 = .ok (.iconst 0, 1) := by decide +kernel
theorem dX9_init_103 : decode cX9_init 103 = .ok (.iastore, 1) := by decide +kernel
theorem dX9_init_104 : decode cX9_init 104 = .ok (.dup, 1) := by decide +kernel
theorem dX9_init_105 : decode cX9_init 105 = .ok (.iconst 5, 1) := by decide +kernel
theorem dX9_init_106 : decode cX9_init 106 = .ok (.iconst 5, 1) := by decide +kernel
theorem dX9_init_107 : decode cX9_init 107 = .ok (.iastore, 1) := by decide +kernel
theorem dX9_init_108 : decode cX9_init 108 = .ok (.putfield 16, 3) := by decide +kernel
theorem dX9_init_111 : decode cX9_init 111 = .ok (.aload_n 0, 1) := by decide +kernel
theorem dX9_init_112 : decode cX9_init 112 = .ok (.bipush 6, 2) := by decide +kernel
theorem dX9_init_114 : decode cX9_init 114 = .ok (.newarray .int, 2) := by decide +kernel
theorem dX9_init_116 : decode cX9_init 116 = .ok (.dup, 1) := by decide +kernel
theorem dX9_init_117 : decode cX9_init 117 = .ok (.iconst 0, 1) := by decide +kernel
theorem dX9_init_118 : decode cX9_init 118 = .ok (.iconst 1, 1) := by decide +kernel
theorem dX9_init_119 : decode cX9_init 119 = .ok (.iastore, 1) := by decide +kernel
theorem dX9_init_120 : decode cX9_init 120 = .ok (.dup, 1) := by decide +kernel
theorem dX9_init_121 : decode cX9_init 121 = .ok (.iconst 1, 1) := by decide +kernel
theorem dX9_init_122 : decode cX9_init 122 = .ok (.iconst 1, 1) := by decide +kernel
theorem dX9_init_123 : decode cX9_init 123 = .ok (.iastore, 1) := by decide +kernel
theorem dX9_init_124 : decode cX9_init 124 = .ok (.dup, 1) := by decide +kernel
theorem dX9_init_125 : decode cX9_init 125 = .ok (.iconst 2, 1) := by decide +kernel
theorem dX9_init_126 : decode cX9_init 126 = .ok (.iconst 1, 1) := by decide +kernel
theorem dX9_init_127 : decode cX9_init 127 = .ok (.iastore, 1) := by decide +kernel
theorem dX9_init_128 : decode cX9_init 128 = .ok (.dup, 1) := by decide +kernel
theorem dX9_init_129 : decode cX9_init 129 = .ok (.iconst 3, 1) := by decide +kernel
theorem dX9_init_130 : decode cX9_init 130 = .ok (.iconst 0, 1) := by decide +kernel
theorem dX9_init_131 : decode cX9_init 131 = .ok (.iastore, 1) := by decide +kernel
theorem dX9_init_132 : decode cX9_init 132 = .ok (.dup, 1) := by decide +kernel
theorem dX9_init_133 : decode cX9_init 133 = .ok (.iconst 4, 1) := by decide +kernel
theorem dX9_init_134 : decode cX9_init 134 = .ok (.iconst 1, 1) := by decide +kernel
theorem dX9_init_135 : decode cX9_init 135 = .ok (.iastore, 1) := by decide +kernel
theorem dX9_init_136 : decode cX9_init 136 = .ok (.dup, 1) := by decide +kernel
theorem dX9_init_137 : decode cX9_init 137 = .ok (.iconst 5, 1) := by decide +kernel
theorem dX9_init_138 : decode cX9_init 138 = .ok (.iconst 0, 1) := by decide +kernel
theorem dX9_init_139 : decode cX9_init 139 = .ok (.iastore, 1) := by decide +kernel
theorem dX9_init_140 : decode cX9_init 140 = .ok (.putfield 19, 3) := by decide +kernel
theorem dX9_init_143 : decode cX9_init 143 = .ok (.aload_n 0, 1) := by decide +kernel
theorem dX9_init_144 : decode cX9_init 144 = .ok (.bipush 6, 2) := by decide +kernel
theorem dX9_init_146 : decode cX9_init 146 = .ok (.newarray .int, 2) := by decide +kernel
theorem dX9_init_148 : decode cX9_init 148 = .ok (.dup, 1) := by decide +kernel
theorem dX9_init_149 : decode cX9_init 149 = .ok (.iconst 0, 1) := by decide +kernel
theorem dX9_init_150 : decode cX9_init 150 = .ok (.bipush 20, 2) := by decide +kernel
theorem dX9_init_152 : decode cX9_init 152 = .ok (.iastore, 1) := by decide +kernel
theorem dX9_init_153 : decode cX9_init 153 = .ok (.dup, 1) := by decide +kernel
theorem dX9_init_154 : decode cX9_init 154 = .ok (.iconst 1, 1) := by decide +kernel
theorem dX9_init_155 : decode cX9_init 155 = .ok (.bipush 99, 2) := by decide +kernel
theorem dX9_init_157 : decode cX9_init 157 = .ok (.iastore, 1) := by decide +kernel
theorem dX9_init_158 : decode cX9_init 158 = .ok (.dup, 1) := by decide +kernel
theorem dX9_init_159 : decode cX9_init 159 = .ok (.iconst 2, 1) := by decide +kernel
theorem dX9_init_160 : decode cX9_init 160 = .ok (.bipush 50, 2) := by decide +kernel
theorem dX9_init_162 : decode cX9_init 162 = .ok (.iastore, 1) := by decide +kernel
theorem dX9_init_163 : decode cX9_init 163 = .ok (.dup, 1) := by decide +kernel
theorem dX9_init_164 : decode cX9_init 164 = .ok (.iconst 3, 1) := by decide +kernel
theorem dX9_init_165 : decode cX9_init 165 = .ok (.bipush 99, 2) := by decide +kernel
theorem dX9_init_167 : decode cX9_init 167 = .ok (.iastore, 1) := by decide +kernel
theorem dX9_init_168 : decode cX9_init 168 = .ok (.dup, 1) := by decide +kernel
theorem dX9_init_169 : decode cX9_init 169 = .ok (.iconst 4, 1) := by decide +kernel
theorem dX9_init_170 : decode cX9_init 170 = .ok (.bipush 7, 2) := by decide +kernel
theorem dX9_init_172 : decode cX9_init 172 = .ok (.iastore, 1) := by decide +kernel
theorem dX9_init_173 : decode cX9_init 173 = .ok (.dup, 1) := by decide +kernel
theorem dX9_init_174 : decode cX9_init 174 = .ok (.iconst 5, 1) := by decide +kernel
theorem dX9_init_175 : decode cX9_init 175 = .ok (.bipush 10, 2) := by decide +kernel
theorem dX9_init_177 : decode cX9_init 177 = .ok (.iastore, 1) := by decide +kernel
theorem dX9_init_178 : decode cX9_init 178 = .ok (.putfield 22, 3) := by decide +kernel
theorem dX9_init_181 : decode cX9_init 181 = .ok (.aload_n 0, 1) := by decide +kernel
theorem dX9_init_182 : decode cX9_init 182 = .ok (.iconst (-1), 1) := by decide +kernel
theorem dX9_init_183 : decode cX9_init 183 = .ok (.putfield 25, 3) := by decide +kernel
theorem dX9_init_186 : decode cX9_init 186 = .ok (.aload_n 0, 1) := by decide +kernel
theorem dX9_init_187 : decode cX9_init 187 = .ok (.bipush 8, 2) := by decide +kernel
theorem dX9_init_189 : decode cX9_init 189 = .ok (.newarray .int, 2) := by decide +kernel
theorem dX9_init_191 : decode cX9_init 191 = .ok (.putfield 29, 3) := by decide +kernel
theorem dX9_init_194 : decode cX9_init 194 = .ok (.aload_n 0, 1) := by decide +kernel
theorem dX9_init_195 : decode cX9_init 195 = .ok (.bipush 8, 2) := by decide +kernel
theorem dX9_init_197 : decode cX9_init 197 = .ok (.newarray .int, 2) := by decide +kernel
theorem dX9_init_199 : decode cX9_init 199 = .ok (.putfield 32, 3) := by decide +kernel
theorem dX9_init_202 : decode cX9_init 202 = .ok (.aload_n 0, 1) := by decide +kernel
theorem dX9_init_203 : decode cX9_init 203 = .ok (.bipush 8, 2) := by decide +kernel
theorem dX9_init_205 : decode cX9_init 205 = .ok (.newarray .int, 2) := by decide +kernel
theorem dX9_init_207 : decode cX9_init 207 = .ok (.putfield 35, 3) := by decide +kernel
theorem dX9_init_210 : decode cX9_init 210 = .ok (.aload_n 0, 1) := by decide +kernel
theorem dX9_init_211 : decode cX9_init 211 = .ok (.bipush 8, 2) := by decide +kernel
theorem dX9_init_213 : decode cX9_init 213 = .ok (.newarray .int, 2) := by decide +kernel
theorem dX9_init_215 : decode cX9_init 215 = .ok (.putfield 38, 3) := by decide +kernel
theorem dX9_init_218 : decode cX9_init 218 = .ok (.aload_n 0, 1) := by decide +kernel
theorem dX9_init_219 : decode cX9_init 219 = .ok (.bipush 8, 2) := by decide +kernel
theorem dX9_init_221 : decode cX9_init 221 = .ok (.newarray .int, 2) := by decide +kernel
theorem dX9_init_223 : decode cX9_init 223 = .ok (.putfield 41, 3) := by decide +kernel
theorem dX9_init_226 : decode cX9_init 226 = .ok (.aload_n 0, 1) := by decide +kernel
theorem dX9_init_227 : decode cX9_init 227 = .ok (.bipush 8, 2) := by decide +kernel
theorem dX9_init_229 : decode cX9_init 229 = .ok (.newarray .int, 2) := by decide +kernel
theorem dX9_init_231 : decode cX9_init 231 = .ok (.putfield 44, 3) := by decide +kernel
theorem dX9_init_234 : decode cX9_init 234 = .ok (.aload_n 0, 1) := by decide +kernel
theorem dX9_init_235 : decode cX9_init 235 = .ok (.bipush 8, 2) := by decide +kernel
theorem dX9_init_237 : decode cX9_init 237 = .ok (.newarray .int, 2) := by decide +kernel
theorem dX9_init_239 : decode cX9_init 239 = .ok (.putfield 47, 3) := by decide +kernel
theorem dX9_init_242 : decode cX9_init 242 = .ok (.aload_n 0, 1) := by decide +kernel
theorem dX9_init_243 : decode cX9_init 243 = .ok (.bipush 8, 2) := by decide +kernel
theorem dX9_init_245 : decode cX9_init 245 = .ok (.newarray .int, 2) := by decide +kernel
theorem dX9_init_247 : decode cX9_init 247 = .ok (.putfield 50, 3) := by decide +kernel
theorem dX9_init_250 : decode cX9_init 250 = .ok (.aload_n 0, 1) := by decide +kernel
theorem dX9_init_251 : decode cX9_init 251 = .ok (.bipush 8, 2) := by decide +kernel
theorem dX9_init_253 : decode cX9_init 253 = .ok (.newarray .int, 2) := by decide +kernel
theorem dX9_init_255 : decode cX9_init 255 = .ok (.putfield 53, 3) := by decide +kernel
theorem dX9_init_258 : decode cX9_init 258 = .ok (.aload_n 0, 1) := by decide +kernel
theorem dX9_init_259 : decode cX9_init 259 = .ok (.bipush 8, 2) := by decide +kernel
theorem dX9_init_261 : decode cX9_init 261 = .ok (.newarray .int, 2) := by decide +kernel
theorem dX9_init_263 : decode cX9_init 263 = .ok (.putfield 56, 3) := by decide +kernel
theorem dX9_init_266 : decode cX9_init 266 = .ok (.aload_n 0, 1) := by decide +kernel
theorem dX9_init_267 : decode cX9_init 267 = .ok (.bipush 8, 2) := by decide +kernel
theorem dX9_init_269 : decode cX9_init 269 = .ok (.newarray .int, 2) := by decide +kernel
theorem dX9_init_271 : decode cX9_init 271 = .ok (.putfield 59, 3) := by decide +kernel
theorem dX9_init_274 : decode cX9_init 274 = .ok (.aload_n 0, 1) := by decide +kernel
theorem dX9_init_275 : decode cX9_init 275 = .ok (.bipush 64, 2) := by decide +kernel
theorem dX9_init_277 : decode cX9_init 277 = .ok (.newarray .int, 2) := by decide +kernel
theorem dX9_init_279 : decode cX9_init 279 = .ok (.putfield 62, 3) := by decide +kernel
theorem dX9_init_282 : decode cX9_init 282 = .ok (.aload_n 0, 1) := by decide +kernel
theorem dX9_init_283 : decode cX9_init 283 = .ok (.bipush 64, 2) := by decide +kernel
theorem dX9_init_285 : decode cX9_init 285 = .ok (.newarray .int, 2) := by decide +kernel
theorem dX9_init_287 : decode cX9_init 287 = .ok (.putfield 65, 3) := by decide +kernel
theorem dX9_init_290 : decode cX9_init 290 = .ok (.aload_n 0, 1) := by decide +kernel
theorem dX9_init_291 : decode cX9_init 291 = .ok (.bipush 8, 2) := by decide +kernel
theorem dX9_init_293 : decode cX9_init 293 = .ok (.newarray .int, 2) := by decide +kernel
theorem dX9_init_295 : decode cX9_init 295 = .ok (.putfield 68, 3) := by decide +kernel
theorem dX9_init_298 : decode cX9_init 298 = .ok (.aload_n 0, 1) := by decide +kernel
theorem dX9_init_299 : decode cX9_init 299 = .ok (.bipush 7, 2) := by decide +kernel
theorem dX9_init_301 : decode cX9_init 301 = .ok (.newarray .int, 2) := by decide +kernel
theorem dX9_init_303 : decode cX9_init 303 = .ok (.putfield 71, 3) := by decide +kernel
theorem dX9_init_306 : decode cX9_init 306 = .ok (.aload_n 0, 1) := by decide +kernel
theorem dX9_init_307 : decode cX9_init 307 = .ok (.bipush 7, 2) := by decide +kernel
theorem dX9_init_309 : decode cX9_init 309 = .ok (.newarray .int, 2) := by decide +kernel
theorem dX9_init_311 : decode cX9_init 311 = .ok (.putfield 74, 3) := by decide +kernel
theorem dX9_init_314 : decode cX9_init 314 = .ok (.aload_n 0, 1) := by decide +kernel
theorem dX9_init_315 : decode cX9_init 315 = .ok (.bipush 7, 2) := by decide +kernel
theorem dX9_init_317 : decode cX9_init 317 = .ok (.newarray .int, 2) := by decide +kernel
theorem dX9_init_319 : decode cX9_init 319 = .ok (.putfield 77, 3) := by decide +kernel
theorem dX9_init_322 : decode cX9_init 322 = .ok (.aload_n 0, 1) := by decide +kernel
theorem dX9_init_323 : decode cX9_init 323 = .ok (.bipush 7, 2) := by decide +kernel
theorem dX9_init_325 : decode cX9_init 325 = .ok (.newarray .int, 2) := by decide +kernel
theorem dX9_init_327 : decode cX9_init 327 = .ok (.putfield 80, 3) := by decide +kernel
theorem dX9_init_330 : decode cX9_init 330 = .ok (.aload_n 0, 1) := by decide +kernel
theorem dX9_init_331 : decode cX9_init 331 = .ok (.bipush 7, 2) := by decide +kernel
theorem dX9_init_333 : decode cX9_init 333 = .ok (.newarray .int, 2) := by decide +kernel
theorem dX9_init_335 : decode cX9_init 335 = .ok (.putfield 83, 3) := by decide +kernel
theorem dX9_init_338 : decode cX9_init 338 = .ok (.aload_n 0, 1) := by decide +kernel
theorem dX9_init_339 : decode cX9_init 339 = .ok (.bipush 7, 2) := by decide +kernel
theorem dX9_init_341 : decode cX9_init 341 = .ok (.newarray .int, 2) := by decide +kernel
theorem dX9_init_343 : decode cX9_init 343 = .ok (.putfield 86, 3) := by decide +kernel
theorem dX9_init_346 : decode cX9_init 346 = .ok (.aload_n 0, 1) := by decide +kernel
theorem dX9_init_347 : decode cX9_init 347 = .ok (.bipush 8, 2) := by decide +kernel
theorem dX9_init_349 : decode cX9_init 349 = .ok (.newarray .int, 2) := by decide +kernel
theorem dX9_init_351 : decode cX9_init 351 = .ok (.putfield 89, 3) := by decide +kernel
theorem dX9_init_354 : decode cX9_init 354 = .ok (.aload_n 0, 1) := by decide +kernel
theorem dX9_init_355 : decode cX9_init 355 = .ok (.bipush 7, 2) := by decide +kernel
theorem dX9_init_357 : decode cX9_init 357 = .ok (.newarray .int, 2) := by decide +kernel
theorem dX9_init_359 : decode cX9_init 359 = .ok (.putfield 92, 3) := by decide +kernel
theorem dX9_init_362 : decode cX9_init 362 = .ok (.return_, 1) := by decide +kernel
theorem dX9_feed_0 : decode cX9_feed 0 = .ok (.aload_n 0, 1) := by decide +kernel
theorem dX9_feed_1 : decode cX9_feed 1 = .ok (.iconst 0, 1) := by decide +kernel
theorem dX9_feed_2 : decode cX9_feed 2 = .ok (.putfield 95, 3) := by decide +kernel
theorem dX9_feed_5 : decode cX9_feed 5 = .ok (.aload_n 0, 1) := by decide +kernel
theorem dX9_feed_6 : decode cX9_feed 6 = .ok (.getfield 98, 3) := by decide +kernel
theorem dX9_feed_9 : decode cX9_feed 9 = .ok (.sipush 280, 3) := by decide +kernel
theorem dX9_feed_12 : decode cX9_feed 12 = .ok (.if_icmp .le 5, 3) := by decide +kernel
theorem dX9_feed_15 : decode cX9_feed 15 = .ok (.iconst (-1), 1) := by decide +kernel
theorem dX9_feed_16 : decode cX9_feed 16 = .ok (.ireturn, 1) := by decide +kernel
theorem dX9_feed_17 : decode cX9_feed 17 = .ok (.iconst 0, 1) := by decide +kernel
theorem dX9_feed_18 : decode cX9_feed 18 = .ok (.istore 6, 2) := by decide +kernel
theorem dX9_feed_20 : decode cX9_feed 20 = .ok (.iload 6, 2) := by decide +kernel
theorem dX9_feed_22 : decode cX9_feed 22 = .ok (.bipush 20, 2) := by decide +kernel
theorem dX9_feed_24 : decode cX9_feed 24 = .ok (.if_icmp .ge 86, 3) := by decide +kernel
theorem dX9_feed_27 : decode cX9_feed 27 = .ok (.iload 6, 2) := by decide +kernel
theorem dX9_feed_29 : decode cX9_feed 29 = .ok (.iconst 4, 1) := by decide +kernel
theorem dX9_feed_30 : decode cX9_feed 30 = .ok (.if_icmp .ge 7, 3) := by decide +kernel
theorem dX9_feed_33 : decode cX9_feed 33 = .ok (.iload_n 1, 1) := by decide +kernel
theorem dX9_feed_34 : decode cX9_feed 34 = .ok (.goto 39, 3) := by decide +kernel
theorem dX9_feed_37 : decode cX9_feed 37 = .ok (.iload 6, 2) := by decide +kernel
theorem dX9_feed_39 : decode cX9_feed 39 = .ok (.bipush 8, 2) := by decide +kernel
theorem dX9_feed_41 : decode cX9_feed 41 = .ok (.if_icmp .ge 7, 3) := by decide +kernel
theorem dX9_feed_44 : decode cX9_feed 44 = .ok (.iload_n 2, 1) := by decide +kernel
theorem dX9_feed_45 : decode cX9_feed 45 = .ok (.goto 28, 3) := by decide +kernel
theorem dX9_feed_48 : decode cX9_feed 48 = .ok (.iload 6, 2) := by decide +kernel
theorem dX9_feed_50 : decode cX9_feed 50 = .ok (.bipush 12, 2) := by decide +kernel
theorem dX9_feed_52 : decode cX9_feed 52 = .ok (.if_icmp .ge 7, 3) := by decide +kernel
theorem dX9_feed_55 : decode cX9_feed 55 = .ok (.iload_n 3, 1) := by decide +kernel
theorem dX9_feed_56 : decode cX9_feed 56 = .ok (.goto 17, 3) := by decide +kernel
theorem dX9_feed_59 : decode cX9_feed 59 = .ok (.iload 6, 2) := by decide +kernel
theorem dX9_feed_61 : decode cX9_feed 61 = .ok (.bipush 16, 2) := by decide +kernel
theorem dX9_feed_63 : decode cX9_feed 63 = .ok (.if_icmp .ge 8, 3) := by decide +kernel
theorem dX9_feed_66 : decode cX9_feed 66 = .ok (.iload 4, 2) := by decide +kernel
theorem dX9_feed_68 : decode cX9_feed 68 = .ok (.goto 5, 3) := by decide +kernel
theorem dX9_feed_71 : decode cX9_feed 71 = .ok (.iload 5, 2) := by decide +kernel
theorem dX9_feed_73 : decode cX9_feed 73 = .ok (.istore 7, 2) := by decide +kernel
theorem dX9_feed_75 : decode cX9_feed 75 = .ok (.aload_n 0, 1) := by decide +kernel
theorem dX9_feed_76 : decode cX9_feed 76 = .ok (.getfield 7, 3) := by decide +kernel
theorem dX9_feed_79 : decode cX9_feed 79 = .ok (.aload_n 0, 1) := by decide +kernel
theorem dX9_feed_80 : decode cX9_feed 80 = .ok (.getfield 98, 3) := by decide +kernel
theorem dX9_feed_83 : decode cX9_feed 83 = .ok (.iload 6, 2) := by decide +kernel
theorem dX9_feed_85 : decode cX9_feed 85 = .ok (.iadd, 1) := by decide +kernel
theorem dX9_feed_86 : decode cX9_feed 86 = .ok (.iload 7, 2) := by decide +kernel
theorem dX9_feed_88 : decode cX9_feed 88 = .ok (.bipush 24, 2) := by decide +kernel
theorem dX9_feed_90 : decode cX9_feed 90 = .ok (.bipush 8, 2) := by decide +kernel
theorem dX9_feed_92 : decode cX9_feed 92 = .ok (.iload 6, 2) := by decide +kernel
theorem dX9_feed_94 : decode cX9_feed 94 = .ok (.iconst 4, 1) := by decide +kernel
theorem dX9_feed_95 : decode cX9_feed 95 = .ok (.irem, 1) := by decide +kernel
theorem dX9_feed_96 : decode cX9_feed 96 = .ok (.imul, 1) := by decide +kernel
theorem dX9_feed_97 : decode cX9_feed 97 = .ok (.isub, 1) := by decide +kernel
theorem dX9_feed_98 : decode cX9_feed 98 = .ok (.ishr, 1) := by decide +kernel
theorem dX9_feed_99 : decode cX9_feed 99 = .ok (.sipush 255, 3) := by decide +kernel
theorem dX9_feed_102 : decode cX9_feed 102 = .ok (.iand, 1) := by decide +kernel
theorem dX9_feed_103 : decode cX9_feed 103 = .ok (.iastore, 1) := by decide +kernel
theorem dX9_feed_104 : decode cX9_feed 104 = .ok (.iinc 6 1, 3) := by decide +kernel
theorem dX9_feed_107 : decode cX9_feed 107 = .ok (.goto (-87), 3) := by decide +kernel
theorem dX9_feed_110 : decode cX9_feed 110 = .ok (.aload_n 0, 1) := by decide +kernel
theorem dX9_feed_111 : decode cX9_feed 111 = .ok (.dup, 1) := by decide +kernel
theorem dX9_feed_112 : decode cX9_feed 112 = .ok (.getfield 98, 3) := by decide +kernel
theorem dX9_feed_115 : decode cX9_feed 115 = .ok (.bipush 20, 2) := by decide +kernel
theorem dX9_feed_117 : decode cX9_feed 117 = .ok (.iadd, 1) := by decide +kernel
theorem dX9_feed_118 : decode cX9_feed 118 = .ok (.putfield 98, 3) := by decide +kernel
theorem dX9_feed_121 : decode cX9_feed 121 = .ok (.aload_n 0, 1) := by decide +kernel
theorem dX9_feed_122 : decode cX9_feed 122 = .ok (.getfield 98, 3) := by decide +kernel
theorem dX9_feed_125 : decode cX9_feed 125 = .ok (.ireturn, 1) := by decide +kernel
theorem dX9_here_0 : decode cX9_here 0 = .ok (.aload_n 0, 1) := by decide +kernel
theorem dX9_here_1 : decode cX9_here 1 = .ok (.getfield 101, 3) := by decide +kernel
theorem dX9_here_4 : decode cX9_here 4 = .ok (.aload_n 0, 1) := by decide +kernel
theorem dX9_here_5 : decode cX9_here 5 = .ok (.getfield 104, 3) := by decide +kernel
theorem dX9_here_8 : decode cX9_here 8 = .ok (.if_icmp .ge 15, 3) := by decide +kernel
theorem dX9_here_11 : decode cX9_here 11 = .ok (.aload_n 0, 1) := by decide +kernel
theorem dX9_here_12 : decode cX9_here 12 = .ok (.getfield 7, 3) := by decide +kernel
theorem dX9_here_15 : decode cX9_here 15 = .ok (.aload_n 0, 1) := by decide +kernel
theorem dX9_here_16 : decode cX9_here 16 = .ok (.getfield 101, 3) := by decide +kernel
theorem dX9_here_19 : decode cX9_here 19 = .ok (.iaload, 1) := by decide +kernel
theorem dX9_here_20 : decode cX9_here 20 = .ok (.goto 4, 3) := by decide +kernel
theorem dX9_here_23 : decode cX9_here 23 = .ok (.iconst (-1), 1) := by decide +kernel
theorem dX9_here_24 : decode cX9_here 24 = .ok (.ireturn, 1) := by decide +kernel
theorem dX9_isSmall_0 : decode cX9_isSmall 0 = .ok (.iload_n 0, 1) := by decide +kernel
theorem dX9_isSmall_1 : decode cX9_isSmall 1 = .ok (.bipush 97, 2) := by decide +kernel
theorem dX9_isSmall_3 : decode cX9_isSmall 3 = .ok (.if_icmp .lt 13, 3) := by decide +kernel
theorem dX9_isSmall_6 : decode cX9_isSmall 6 = .ok (.iload_n 0, 1) := by decide +kernel
theorem dX9_isSmall_7 : decode cX9_isSmall 7 = .ok (.bipush 122, 2) := by decide +kernel
theorem dX9_isSmall_9 : decode cX9_isSmall 9 = .ok (.if_icmp .gt 7, 3) := by decide +kernel
theorem dX9_isSmall_12 : decode cX9_isSmall 12 = .ok (.iconst 1, 1) := by decide +kernel
theorem dX9_isSmall_13 : decode cX9_isSmall 13 = .ok (.goto 4, 3) := by decide +kernel
theorem dX9_isSmall_16 : decode cX9_isSmall 16 = .ok (.iconst 0, 1) := by decide +kernel
theorem dX9_isSmall_17 : decode cX9_isSmall 17 = .ok (.ireturn, 1) := by decide +kernel
theorem dX9_isDigit_0 : decode cX9_isDigit 0 = .ok (.iload_n 0, 1) := by decide +kernel
theorem dX9_isDigit_1 : decode cX9_isDigit 1 = .ok (.bipush 48, 2) := by decide +kernel
theorem dX9_isDigit_3 : decode cX9_isDigit 3 = .ok (.if_icmp .lt 13, 3) := by decide +kernel
theorem dX9_isDigit_6 : decode cX9_isDigit 6 = .ok (.iload_n 0, 1) := by decide +kernel
theorem dX9_isDigit_7 : decode cX9_isDigit 7 = .ok (.bipush 57, 2) := by decide +kernel
theorem dX9_isDigit_9 : decode cX9_isDigit 9 = .ok (.if_icmp .gt 7, 3) := by decide +kernel
theorem dX9_isDigit_12 : decode cX9_isDigit 12 = .ok (.iconst 1, 1) := by decide +kernel
theorem dX9_isDigit_13 : decode cX9_isDigit 13 = .ok (.goto 4, 3) := by decide +kernel
theorem dX9_isDigit_16 : decode cX9_isDigit 16 = .ok (.iconst 0, 1) := by decide +kernel
theorem dX9_isDigit_17 : decode cX9_isDigit 17 = .ok (.ireturn, 1) := by decide +kernel
theorem dX9_next_0 : decode cX9_next 0 = .ok (.aload_n 0, 1) := by decide +kernel
theorem dX9_next_1 : decode cX9_next 1 = .ok (.invokevirtual 107, 3) := by decide +kernel
theorem dX9_next_4 : decode cX9_next 4 = .ok (.bipush 10, 2) := by decide +kernel
theorem dX9_next_6 : decode cX9_next 6 = .ok (.if_icmp .eq 12, 3) := by decide +kernel
theorem dX9_next_9 : decode cX9_next 9 = .ok (.aload_n 0, 1) := by decide +kernel
theorem dX9_next_10 : decode cX9_next 10 = .ok (.invokevirtual 107, 3) := by decide +kernel
theorem dX9_next_13 : decode cX9_next 13 = .ok (.bipush 32, 2) := by decide +kernel
theorem dX9_next_15 : decode cX9_next 15 = .ok (.if_icmp .ne 16, 3) := by decide +kernel
theorem dX9_next_18 : decode cX9_next 18 = .ok (.aload_n 0, 1) := by decide +kernel
theorem dX9_next_19 : decode cX9_next 19 = .ok (.dup, 1) := by decide +kernel
theorem dX9_next_20 : decode cX9_next 20 = .ok (.getfield 101, 3) := by decide +kernel
theorem dX9_next_23 : decode cX9_next 23 = .ok (.iconst 1, 1) := by decide +kernel
theorem dX9_next_24 : decode cX9_next 24 = .ok (.iadd, 1) := by decide +kernel
theorem dX9_next_25 : decode cX9_next 25 = .ok (.putfield 101, 3) := by decide +kernel
theorem dX9_next_28 : decode cX9_next 28 = .ok (.goto (-28), 3) := by decide +kernel
theorem dX9_next_31 : decode cX9_next 31 = .ok (.aload_n 0, 1) := by decide +kernel
theorem dX9_next_32 : decode cX9_next 32 = .ok (.aload_n 0, 1) := by decide +kernel
theorem dX9_next_33 : decode cX9_next 33 = .ok (.getfield 101, 3) := by decide +kernel
theorem dX9_next_36 : decode cX9_next 36 = .ok (.putfield 111, 3) := by decide +kernel
theorem dX9_next_39 : decode cX9_next 39 = .ok (.aload_n 0, 1) := by decide +kernel
theorem dX9_next_40 : decode cX9_next 40 = .ok (.invokevirtual 107, 3) := by decide +kernel
theorem dX9_next_43 : decode cX9_next 43 = .ok (.istore_n 1, 1) := by decide +kernel
theorem dX9_next_44 : decode cX9_next 44 = .ok (.iload_n 1, 1) := by decide +kernel
theorem dX9_next_45 : decode cX9_next 45 = .ok (.iconst (-1), 1) := by decide +kernel
theorem dX9_next_46 : decode cX9_next 46 = .ok (.if_icmp .ne 11, 3) := by decide +kernel
theorem dX9_next_49 : decode cX9_next 49 = .ok (.aload_n 0, 1) := by decide +kernel
theorem dX9_next_50 : decode cX9_next 50 = .ok (.iconst 3, 1) := by decide +kernel
theorem dX9_next_51 : decode cX9_next 51 = .ok (.putfield 114, 3) := by decide +kernel
theorem dX9_next_54 : decode cX9_next 54 = .ok (.goto 162, 3) := by decide +kernel
theorem dX9_next_57 : decode cX9_next 57 = .ok (.iload_n 1, 1) := by decide +kernel
theorem dX9_next_58 : decode cX9_next 58 = .ok (.invokestatic 117, 3) := by decide +kernel
theorem dX9_next_61 : decode cX9_next 61 = .ok (.ifCond .eq 54, 3) := by decide +kernel
theorem dX9_next_64 : decode cX9_next 64 = .ok (.aload_n 0, 1) := by decide +kernel
theorem dX9_next_65 : decode cX9_next 65 = .ok (.invokevirtual 107, 3) := by decide +kernel
theorem dX9_next_68 : decode cX9_next 68 = .ok (.invokestatic 117, 3) := by decide +kernel
theorem dX9_next_71 : decode cX9_next 71 = .ok (.ifCond .eq 16, 3) := by decide +kernel
theorem dX9_next_74 : decode cX9_next 74 = .ok (.aload_n 0, 1) := by decide +kernel
theorem dX9_next_75 : decode cX9_next 75 = .ok (.dup, 1) := by decide +kernel
theorem dX9_next_76 : decode cX9_next 76 = .ok (.getfield 101, 3) := by decide +kernel
theorem dX9_next_79 : decode cX9_next 79 = .ok (.iconst 1, 1) := by decide +kernel
theorem dX9_next_80 : decode cX9_next 80 = .ok (.iadd, 1) := by decide +kernel
theorem dX9_next_81 : decode cX9_next 81 = .ok (.putfield 101, 3) := by decide +kernel
theorem dX9_next_84 : decode cX9_next 84 = .ok (.goto (-20), 3) := by decide +kernel
theorem dX9_next_87 : decode cX9_next 87 = .ok (.aload_n 0, 1) := by decide +kernel
theorem dX9_next_88 : decode cX9_next 88 = .ok (.aload_n 0, 1) := by decide +kernel
theorem dX9_next_89 : decode cX9_next 89 = .ok (.invokevirtual 121, 3) := by decide +kernel
theorem dX9_next_92 : decode cX9_next 92 = .ok (.putfield 124, 3) := by decide +kernel
theorem dX9_next_95 : decode cX9_next 95 = .ok (.aload_n 0, 1) := by decide +kernel
theorem dX9_next_96 : decode cX9_next 96 = .ok (.aload_n 0, 1) := by decide +kernel
theorem dX9_next_97 : decode cX9_next 97 = .ok (.getfield 124, 3) := by decide +kernel
theorem dX9_next_100 : decode cX9_next 100 = .ok (.iconst (-1), 1) := by decide +kernel
theorem dX9_next_101 : decode cX9_next 101 = .ok (.if_icmp .ne 7, 3) := by decide +kernel
theorem dX9_next_104 : decode cX9_next 104 = .ok (.iconst 4, 1) := by decide +kernel
theorem dX9_next_105 : decode cX9_next 105 = .ok (.goto 4, 3) := by decide +kernel
theorem dX9_next_108 : decode cX9_next 108 = .ok (.iconst 0, 1) := by decide +kernel
theorem dX9_next_109 : decode cX9_next 109 = .ok (.putfield 114, 3) := by decide +kernel
theorem dX9_next_112 : decode cX9_next 112 = .ok (.goto 104, 3) := by decide +kernel
theorem dX9_next_115 : decode cX9_next 115 = .ok (.iload_n 1, 1) := by decide +kernel
theorem dX9_next_116 : decode cX9_next 116 = .ok (.invokestatic 127, 3) := by decide +kernel
theorem dX9_next_119 : decode cX9_next 119 = .ok (.ifCond .eq 72, 3) := by decide +kernel
theorem dX9_next_122 : decode cX9_next 122 = .ok (.aload_n 0, 1) := by decide +kernel
theorem dX9_next_123 : decode cX9_next 123 = .ok (.iconst 1, 1) := by decide +kernel
theorem dX9_next_124 : decode cX9_next 124 = .ok (.putfield 114, 3) := by decide +kernel
theorem dX9_next_127 : decode cX9_next 127 = .ok (.aload_n 0, 1) := by decide +kernel
theorem dX9_next_128 : decode cX9_next 128 = .ok (.iconst 0, 1) := by decide +kernel
theorem dX9_next_129 : decode cX9_next 129 = .ok (.putfield 124, 3) := by decide +kernel
theorem dX9_next_132 : decode cX9_next 132 = .ok (.aload_n 0, 1) := by decide +kernel
theorem dX9_next_133 : decode cX9_next 133 = .ok (.invokevirtual 107, 3) := by decide +kernel
theorem dX9_next_136 : decode cX9_next 136 = .ok (.invokestatic 127, 3) := by decide +kernel
theorem dX9_next_139 : decode cX9_next 139 = .ok (.ifCond .eq 77, 3) := by decide +kernel
theorem dX9_next_142 : decode cX9_next 142 = .ok (.aload_n 0, 1) := by decide +kernel
theorem dX9_next_143 : decode cX9_next 143 = .ok (.aload_n 0, 1) := by decide +kernel
theorem dX9_next_144 : decode cX9_next 144 = .ok (.getfield 124, 3) := by decide +kernel
theorem dX9_next_147 : decode cX9_next 147 = .ok (.sipush 9999, 3) := by decide +kernel
theorem dX9_next_150 : decode cX9_next 150 = .ok (.if_icmp .le 10, 3) := by decide +kernel
theorem dX9_next_153 : decode cX9_next 153 = .ok (.aload_n 0, 1) := by decide +kernel
theorem dX9_next_154 : decode cX9_next 154 = .ok (.getfield 124, 3) := by decide +kernel
theorem dX9_next_157 : decode cX9_next 157 = .ok (.goto 18, 3) := by decide +kernel
theorem dX9_next_160 : decode cX9_next 160 = .ok (.bipush 10, 2) := by decide +kernel
theorem dX9_next_162 : decode cX9_next 162 = .ok (.aload_n 0, 1) := by decide +kernel
theorem dX9_next_163 : decode cX9_next 163 = .ok (.getfield 124, 3) := by decide +kernel
theorem dX9_next_166 : decode cX9_next 166 = .ok (.imul, 1) := by decide +kernel
theorem dX9_next_167 : decode cX9_next 167 = .ok (.aload_n 0, 1) := by decide +kernel
theorem dX9_next_168 : decode cX9_next 168 = .ok (.invokevirtual 107, 3) := by decide +kernel
theorem dX9_next_171 : decode cX9_next 171 = .ok (.iadd, 1) := by decide +kernel
theorem dX9_next_172 : decode cX9_next 172 = .ok (.bipush 48, 2) := by decide +kernel
theorem dX9_next_174 : decode cX9_next 174 = .ok (.isub, 1) := by decide +kernel
theorem dX9_next_175 : decode cX9_next 175 = .ok (.putfield 124, 3) := by decide +kernel
theorem dX9_next_178 : decode cX9_next 178 = .ok (.aload_n 0, 1) := by decide +kernel
theorem dX9_next_179 : decode cX9_next 179 = .ok (.dup, 1) := by decide +kernel
theorem dX9_next_180 : decode cX9_next 180 = .ok (.getfield 101, 3) := by decide +kernel
theorem dX9_next_183 : decode cX9_next 183 = .ok (.iconst 1, 1) := by decide +kernel
theorem dX9_next_184 : decode cX9_next 184 = .ok (.iadd, 1) := by decide +kernel
theorem dX9_next_185 : decode cX9_next 185 = .ok (.putfield 101, 3) := by decide +kernel
theorem dX9_next_188 : decode cX9_next 188 = .ok (.goto (-56), 3) := by decide +kernel
theorem dX9_next_191 : decode cX9_next 191 = .ok (.aload_n 0, 1) := by decide +kernel
theorem dX9_next_192 : decode cX9_next 192 = .ok (.dup, 1) := by decide +kernel
theorem dX9_next_193 : decode cX9_next 193 = .ok (.getfield 101, 3) := by decide +kernel
theorem dX9_next_196 : decode cX9_next 196 = .ok (.iconst 1, 1) := by decide +kernel
theorem dX9_next_197 : decode cX9_next 197 = .ok (.iadd, 1) := by decide +kernel
theorem dX9_next_198 : decode cX9_next 198 = .ok (.putfield 101, 3) := by decide +kernel
theorem dX9_next_201 : decode cX9_next 201 = .ok (.aload_n 0, 1) := by decide +kernel
theorem dX9_next_202 : decode cX9_next 202 = .ok (.iload_n 1, 1) := by decide +kernel
theorem dX9_next_203 : decode cX9_next 203 = .ok (.bipush 59, 2) := by decide +kernel
theorem dX9_next_205 : decode cX9_next 205 = .ok (.if_icmp .ne 7, 3) := by decide +kernel
theorem dX9_next_208 : decode cX9_next 208 = .ok (.iconst 2, 1) := by decide +kernel
theorem dX9_next_209 : decode cX9_next 209 = .ok (.goto 4, 3) := by decide +kernel
theorem dX9_next_212 : decode cX9_next 212 = .ok (.iconst 4, 1) := by decide +kernel
theorem dX9_next_213 : decode cX9_next 213 = .ok (.putfield 114, 3) := by decide +kernel
theorem dX9_next_216 : decode cX9_next 216 = .ok (.return_, 1) := by decide +kernel
theorem dX9_wordOf_0 : decode cX9_wordOf 0 = .ok (.iconst 0, 1) := by decide +kernel
theorem dX9_wordOf_1 : decode cX9_wordOf 1 = .ok (.istore_n 1, 1) := by decide +kernel
theorem dX9_wordOf_2 : decode cX9_wordOf 2 = .ok (.iconst 0, 1) := by decide +kernel
theorem dX9_wordOf_3 : decode cX9_wordOf 3 = .ok (.istore_n 2, 1) := by decide +kernel
theorem dX9_wordOf_4 : decode cX9_wordOf 4 = .ok (.iload_n 2, 1) := by decide +kernel
theorem dX9_wordOf_5 : decode cX9_wordOf 5 = .ok (.ldc 130, 2) := by decide +kernel
theorem dX9_wordOf_7 : decode cX9_wordOf 7 = .ok (.invokevirtual 132, 3) := by decide +kernel
theorem dX9_wordOf_10 : decode cX9_wordOf 10 = .ok (.if_icmp .ge 113, 3) := by decide +kernel
theorem dX9_wordOf_13 : decode cX9_wordOf 13 = .ok (.iconst 0, 1) := by decide +kernel
theorem dX9_wordOf_14 : decode cX9_wordOf 14 = .ok (.istore_n 3, 1) := by decide +kernel
theorem dX9_wordOf_15 : decode cX9_wordOf 15 = .ok (.ldc 130, 2) := by decide +kernel
theorem dX9_wordOf_17 : decode cX9_wordOf 17 = .ok (.iload_n 2, 1) := by decide +kernel
theorem dX9_wordOf_18 : decode cX9_wordOf 18 = .ok (.iload_n 3, 1) := by decide +kernel
theorem dX9_wordOf_19 : decode cX9_wordOf 19 = .ok (.iadd, 1) := by decide +kernel
theorem dX9_wordOf_20 : decode cX9_wordOf 20 = .ok (.invokevirtual 137, 3) := by decide +kernel
theorem dX9_wordOf_23 : decode cX9_wordOf 23 = .ok (.bipush 32, 2) := by decide +kernel
theorem dX9_wordOf_25 : decode cX9_wordOf 25 = .ok (.if_icmp .eq 44, 3) := by decide +kernel
theorem dX9_wordOf_28 : decode cX9_wordOf 28 = .ok (.aload_n 0, 1) := by decide +kernel
theorem dX9_wordOf_29 : decode cX9_wordOf 29 = .ok (.getfield 111, 3) := by decide +kernel
theorem dX9_wordOf_32 : decode cX9_wordOf 32 = .ok (.iload_n 3, 1) := by decide +kernel
theorem dX9_wordOf_33 : decode cX9_wordOf 33 = .ok (.iadd, 1) := by decide +kernel
theorem dX9_wordOf_34 : decode cX9_wordOf 34 = .ok (.aload_n 0, 1) := by decide +kernel
theorem dX9_wordOf_35 : decode cX9_wordOf 35 = .ok (.getfield 101, 3) := by decide +kernel
theorem dX9_wordOf_38 : decode cX9_wordOf 38 = .ok (.if_icmp .ge 31, 3) := by decide +kernel
theorem dX9_wordOf_41 : decode cX9_wordOf 41 = .ok (.aload_n 0, 1) := by decide +kernel
theorem dX9_wordOf_42 : decode cX9_wordOf 42 = .ok (.getfield 7, 3) := by decide +kernel
theorem dX9_wordOf_45 : decode cX9_wordOf 45 = .ok (.aload_n 0, 1) := by decide +kernel
theorem dX9_wordOf_46 : decode cX9_wordOf 46 = .ok (.getfield 111, 3) := by decide +kernel
theorem dX9_wordOf_49 : decode cX9_wordOf 49 = .ok (.iload_n 3, 1) := by decide +kernel
theorem dX9_wordOf_50 : decode cX9_wordOf 50 = .ok (.iadd, 1) := by decide +kernel
theorem dX9_wordOf_51 : decode cX9_wordOf 51 = .ok (.iaload, 1) := by decide +kernel
theorem dX9_wordOf_52 : decode cX9_wordOf 52 = .ok (.ldc 130, 2) := by decide +kernel
theorem dX9_wordOf_54 : decode cX9_wordOf 54 = .ok (.iload_n 2, 1) := by decide +kernel
theorem dX9_wordOf_55 : decode cX9_wordOf 55 = .ok (.iload_n 3, 1) := by decide +kernel
theorem dX9_wordOf_56 : decode cX9_wordOf 56 = .ok (.iadd, 1) := by decide +kernel
theorem dX9_wordOf_57 : decode cX9_wordOf 57 = .ok (.invokevirtual 137, 3) := by decide +kernel
theorem dX9_wordOf_60 : decode cX9_wordOf 60 = .ok (.if_icmp .ne 9, 3) := by decide +kernel
theorem dX9_wordOf_63 : decode cX9_wordOf 63 = .ok (.iinc 3 1, 3) := by decide +kernel
theorem dX9_wordOf_66 : decode cX9_wordOf 66 = .ok (.goto (-51), 3) := by decide +kernel
theorem dX9_wordOf_69 : decode cX9_wordOf 69 = .ok (.ldc 130, 2) := by decide +kernel
theorem dX9_wordOf_71 : decode cX9_wordOf 71 = .ok (.iload_n 2, 1) := by decide +kernel
theorem dX9_wordOf_72 : decode cX9_wordOf 72 = .ok (.iload_n 3, 1) := by decide +kernel
theorem dX9_wordOf_73 : decode cX9_wordOf 73 = .ok (.iadd, 1) := by decide +kernel
theorem dX9_wordOf_74 : decode cX9_wordOf 74 = .ok (.invokevirtual 137, 3) := by decide +kernel
theorem dX9_wordOf_77 : decode cX9_wordOf 77 = .ok (.bipush 32, 2) := by decide +kernel
theorem dX9_wordOf_79 : decode cX9_wordOf 79 = .ok (.if_icmp .ne 18, 3) := by decide +kernel
theorem dX9_wordOf_82 : decode cX9_wordOf 82 = .ok (.aload_n 0, 1) := by decide +kernel
theorem dX9_wordOf_83 : decode cX9_wordOf 83 = .ok (.getfield 111, 3) := by decide +kernel
theorem dX9_wordOf_86 : decode cX9_wordOf 86 = .ok (.iload_n 3, 1) := by decide +kernel
theorem dX9_wordOf_87 : decode cX9_wordOf 87 = .ok (.iadd, 1) := by decide +kernel
theorem dX9_wordOf_88 : decode cX9_wordOf 88 = .ok (.aload_n 0, 1) := by decide +kernel
theorem dX9_wordOf_89 : decode cX9_wordOf 89 = .ok (.getfield 101, 3) := by decide +kernel
theorem dX9_wordOf_92 : decode cX9_wordOf 92 = .ok (.if_icmp .ne 5, 3) := by decide +kernel
theorem dX9_wordOf_95 : decode cX9_wordOf 95 = .ok (.iload_n 1, 1) := by decide +kernel
theorem dX9_wordOf_96 : decode cX9_wordOf 96 = .ok (.ireturn, 1) := by decide +kernel
theorem dX9_wordOf_97 : decode cX9_wordOf 97 = .ok (.ldc 130, 2) := by decide +kernel
theorem dX9_wordOf_99 : decode cX9_wordOf 99 = .ok (.iload_n 2, 1) := by decide +kernel
theorem dX9_wordOf_100 : decode cX9_wordOf 100 = .ok (.invokevirtual 137, 3) := by decide +kernel
theorem dX9_wordOf_103 : decode cX9_wordOf 103 = .ok (.bipush 32, 2) := by decide +kernel
theorem dX9_wordOf_105 : decode cX9_wordOf 105 = .ok (.if_icmp .eq 9, 3) := by decide +kernel
theorem dX9_wordOf_108 : decode cX9_wordOf 108 = .ok (.iinc 2 1, 3) := by decide +kernel
theorem dX9_wordOf_111 : decode cX9_wordOf 111 = .ok (.goto (-14), 3) := by decide +kernel
theorem dX9_wordOf_114 : decode cX9_wordOf 114 = .ok (.iinc 2 1, 3) := by decide +kernel
theorem dX9_wordOf_117 : decode cX9_wordOf 117 = .ok (.iinc 1 1, 3) := by decide +kernel
theorem dX9_wordOf_120 : decode cX9_wordOf 120 = .ok (.goto (-116), 3) := by decide +kernel
theorem dX9_wordOf_123 : decode cX9_wordOf 123 = .ok (.iconst (-1), 1) := by decide +kernel
theorem dX9_wordOf_124 : decode cX9_wordOf 124 = .ok (.ireturn, 1) := by decide +kernel
theorem dX9_wrong_0 : decode cX9_wrong 0 = .ok (.aload_n 0, 1) := by decide +kernel
theorem dX9_wrong_1 : decode cX9_wrong 1 = .ok (.getfield 141, 3) := by decide +kernel
theorem dX9_wrong_4 : decode cX9_wrong 4 = .ok (.ifCond .eq 4, 3) := by decide +kernel
theorem dX9_wrong_7 : decode cX9_wrong 7 = .ok (.return_, 1) := by decide +kernel
theorem dX9_wrong_8 : decode cX9_wrong 8 = .ok (.aload_n 0, 1) := by decide +kernel
theorem dX9_wrong_9 : decode cX9_wrong 9 = .ok (.iload_n 1, 1) := by decide +kernel
theorem dX9_wrong_10 : decode cX9_wrong 10 = .ok (.putfield 141, 3) := by decide +kernel
theorem dX9_wrong_13 : decode cX9_wrong 13 = .ok (.aload_n 0, 1) := by decide +kernel
theorem dX9_wrong_14 : decode cX9_wrong 14 = .ok (.aload_n 0, 1) := by decide +kernel
theorem dX9_wrong_15 : decode cX9_wrong 15 = .ok (.getfield 111, 3) := by decide +kernel
theorem dX9_wrong_18 : decode cX9_wrong 18 = .ok (.putfield 144, 3) := by decide +kernel
theorem dX9_wrong_21 : decode cX9_wrong 21 = .ok (.return_, 1) := by decide +kernel
theorem dX9_line_0 : decode cX9_line 0 = .ok (.aload_n 0, 1) := by decide +kernel
theorem dX9_line_1 : decode cX9_line 1 = .ok (.getfield 114, 3) := by decide +kernel
theorem dX9_line_4 : decode cX9_line 4 = .ok (.ifCond .eq 11, 3) := by decide +kernel
theorem dX9_line_7 : decode cX9_line 7 = .ok (.aload_n 0, 1) := by decide +kernel
theorem dX9_line_8 : decode cX9_line 8 = .ok (.iconst 1, 1) := by decide +kernel
theorem dX9_line_9 : decode cX9_line 9 = .ok (.invokevirtual 147, 3) := by decide +kernel
theorem dX9_line_12 : decode cX9_line 12 = .ok (.goto 23, 3) := by decide +kernel
theorem dX9_line_15 : decode cX9_line 15 = .ok (.aload_n 0, 1) := by decide +kernel
theorem dX9_line_16 : decode cX9_line 16 = .ok (.getfield 151, 3) := by decide +kernel
theorem dX9_line_19 : decode cX9_line 19 = .ok (.aload_n 0, 1) := by decide +kernel
theorem dX9_line_20 : decode cX9_line 20 = .ok (.getfield 124, 3) := by decide +kernel
theorem dX9_line_23 : decode cX9_line 23 = .ok (.ishr, 1) := by decide +kernel
theorem dX9_line_24 : decode cX9_line 24 = .ok (.iconst 1, 1) := by decide +kernel
theorem dX9_line_25 : decode cX9_line 25 = .ok (.iand, 1) := by decide +kernel
theorem dX9_line_26 : decode cX9_line 26 = .ok (.iconst 1, 1) := by decide +kernel
theorem dX9_line_27 : decode cX9_line 27 = .ok (.if_icmp .ne 8, 3) := by decide +kernel
theorem dX9_line_30 : decode cX9_line 30 = .ok (.aload_n 0, 1) := by decide +kernel
theorem dX9_line_31 : decode cX9_line 31 = .ok (.iconst 3, 1) := by decide +kernel
theorem dX9_line_32 : decode cX9_line 32 = .ok (.invokevirtual 147, 3) := by decide +kernel
theorem dX9_line_35 : decode cX9_line 35 = .ok (.aload_n 0, 1) := by decide +kernel
theorem dX9_line_36 : decode cX9_line 36 = .ok (.getfield 141, 3) := by decide +kernel
theorem dX9_line_39 : decode cX9_line 39 = .ok (.ifCond .eq 4, 3) := by decide +kernel
theorem dX9_line_42 : decode cX9_line 42 = .ok (.return_, 1) := by decide +kernel
theorem dX9_line_43 : decode cX9_line 43 = .ok (.aload_n 0, 1) := by decide +kernel
theorem dX9_line_44 : decode cX9_line 44 = .ok (.getfield 124, 3) := by decide +kernel
theorem dX9_line_47 : decode cX9_line 47 = .ok (.istore_n 1, 1) := by decide +kernel
theorem dX9_line_48 : decode cX9_line 48 = .ok (.aload_n 0, 1) := by decide +kernel
theorem dX9_line_49 : decode cX9_line 49 = .ok (.dup, 1) := by decide +kernel
theorem dX9_line_50 : decode cX9_line 50 = .ok (.getfield 151, 3) := by decide +kernel
theorem dX9_line_53 : decode cX9_line 53 = .ok (.iconst 1, 1) := by decide +kernel
theorem dX9_line_54 : decode cX9_line 54 = .ok (.iload_n 1, 1) := by decide +kernel
theorem dX9_line_55 : decode cX9_line 55 = .ok (.ishl, 1) := by decide +kernel
theorem dX9_line_56 : decode cX9_line 56 = .ok (.ior, 1) := by decide +kernel
theorem dX9_line_57 : decode cX9_line 57 = .ok (.putfield 151, 3) := by decide +kernel
theorem dX9_line_60 : decode cX9_line 60 = .ok (.aload_n 0, 1) := by decide +kernel
theorem dX9_line_61 : decode cX9_line 61 = .ok (.invokevirtual 154, 3) := by decide +kernel
theorem dX9_line_64 : decode cX9_line 64 = .ok (.aload_n 0, 1) := by decide +kernel
theorem dX9_line_65 : decode cX9_line 65 = .ok (.getfield 114, 3) := by decide +kernel
theorem dX9_line_68 : decode cX9_line 68 = .ok (.iconst 1, 1) := by decide +kernel
theorem dX9_line_69 : decode cX9_line 69 = .ok (.if_icmp .eq 11, 3) := by decide +kernel
theorem dX9_line_72 : decode cX9_line 72 = .ok (.aload_n 0, 1) := by decide +kernel
theorem dX9_line_73 : decode cX9_line 73 = .ok (.iconst 1, 1) := by decide +kernel
theorem dX9_line_74 : decode cX9_line 74 = .ok (.invokevirtual 147, 3) := by decide +kernel
theorem dX9_line_77 : decode cX9_line 77 = .ok (.goto 34, 3) := by decide +kernel
theorem dX9_line_80 : decode cX9_line 80 = .ok (.aload_n 0, 1) := by decide +kernel
theorem dX9_line_81 : decode cX9_line 81 = .ok (.getfield 124, 3) := by decide +kernel
theorem dX9_line_84 : decode cX9_line 84 = .ok (.aload_n 0, 1) := by decide +kernel
theorem dX9_line_85 : decode cX9_line 85 = .ok (.getfield 19, 3) := by decide +kernel
theorem dX9_line_88 : decode cX9_line 88 = .ok (.iload_n 1, 1) := by decide +kernel
theorem dX9_line_89 : decode cX9_line 89 = .ok (.iaload, 1) := by decide +kernel
theorem dX9_line_90 : decode cX9_line 90 = .ok (.if_icmp .lt 16, 3) := by decide +kernel
theorem dX9_line_93 : decode cX9_line 93 = .ok (.aload_n 0, 1) := by decide +kernel
theorem dX9_line_94 : decode cX9_line 94 = .ok (.getfield 124, 3) := by decide +kernel
theorem dX9_line_97 : decode cX9_line 97 = .ok (.aload_n 0, 1) := by decide +kernel
theorem dX9_line_98 : decode cX9_line 98 = .ok (.getfield 22, 3) := by decide +kernel
theorem dX9_line_101 : decode cX9_line 101 = .ok (.iload_n 1, 1) := by decide +kernel
theorem dX9_line_102 : decode cX9_line 102 = .ok (.iaload, 1) := by decide +kernel
theorem dX9_line_103 : decode cX9_line 103 = .ok (.if_icmp .le 8, 3) := by decide +kernel
theorem dX9_line_106 : decode cX9_line 106 = .ok (.aload_n 0, 1) := by decide +kernel
theorem dX9_line_107 : decode cX9_line 107 = .ok (.iconst 2, 1) := by decide +kernel
theorem dX9_line_108 : decode cX9_line 108 = .ok (.invokevirtual 147, 3) := by decide +kernel
theorem dX9_line_111 : decode cX9_line 111 = .ok (.aload_n 0, 1) := by decide +kernel
theorem dX9_line_112 : decode cX9_line 112 = .ok (.getfield 141, 3) := by decide +kernel
theorem dX9_line_115 : decode cX9_line 115 = .ok (.ifCond .eq 4, 3) := by decide +kernel
theorem dX9_line_118 : decode cX9_line 118 = .ok (.return_, 1) := by decide +kernel
theorem dX9_line_119 : decode cX9_line 119 = .ok (.aload_n 0, 1) := by decide +kernel
theorem dX9_line_120 : decode cX9_line 120 = .ok (.getfield 13, 3) := by decide +kernel
theorem dX9_line_123 : decode cX9_line 123 = .ok (.bipush 6, 2) := by decide +kernel
theorem dX9_line_125 : decode cX9_line 125 = .ok (.iload_n 1, 1) := by decide +kernel
theorem dX9_line_126 : decode cX9_line 126 = .ok (.iadd, 1) := by decide +kernel
theorem dX9_line_127 : decode cX9_line 127 = .ok (.aload_n 0, 1) := by decide +kernel
theorem dX9_line_128 : decode cX9_line 128 = .ok (.getfield 124, 3) := by decide +kernel
theorem dX9_line_131 : decode cX9_line 131 = .ok (.iastore, 1) := by decide +kernel
theorem dX9_line_132 : decode cX9_line 132 = .ok (.aload_n 0, 1) := by decide +kernel
theorem dX9_line_133 : decode cX9_line 133 = .ok (.invokevirtual 154, 3) := by decide +kernel
theorem dX9_line_136 : decode cX9_line 136 = .ok (.aload_n 0, 1) := by decide +kernel
theorem dX9_line_137 : decode cX9_line 137 = .ok (.getfield 114, 3) := by decide +kernel
theorem dX9_line_140 : decode cX9_line 140 = .ok (.iconst 2, 1) := by decide +kernel
theorem dX9_line_141 : decode cX9_line 141 = .ok (.if_icmp .eq 8, 3) := by decide +kernel
theorem dX9_line_144 : decode cX9_line 144 = .ok (.aload_n 0, 1) := by decide +kernel
theorem dX9_line_145 : decode cX9_line 145 = .ok (.iconst 1, 1) := by decide +kernel
theorem dX9_line_146 : decode cX9_line 146 = .ok (.invokevirtual 147, 3) := by decide +kernel
theorem dX9_line_149 : decode cX9_line 149 = .ok (.aload_n 0, 1) := by decide +kernel
theorem dX9_line_150 : decode cX9_line 150 = .ok (.getfield 141, 3) := by decide +kernel
theorem dX9_line_153 : decode cX9_line 153 = .ok (.ifCond .eq 4, 3) := by decide +kernel
theorem dX9_line_156 : decode cX9_line 156 = .ok (.return_, 1) := by decide +kernel
theorem dX9_line_157 : decode cX9_line 157 = .ok (.aload_n 0, 1) := by decide +kernel
theorem dX9_line_158 : decode cX9_line 158 = .ok (.dup, 1) := by decide +kernel
theorem dX9_line_159 : decode cX9_line 159 = .ok (.getfield 157, 3) := by decide +kernel
theorem dX9_line_162 : decode cX9_line 162 = .ok (.iconst 1, 1) := by decide +kernel
theorem dX9_line_163 : decode cX9_line 163 = .ok (.iadd, 1) := by decide +kernel
theorem dX9_line_164 : decode cX9_line 164 = .ok (.putfield 157, 3) := by decide +kernel
theorem dX9_line_167 : decode cX9_line 167 = .ok (.aload_n 0, 1) := by decide +kernel
theorem dX9_line_168 : decode cX9_line 168 = .ok (.invokevirtual 154, 3) := by decide +kernel
theorem dX9_line_171 : decode cX9_line 171 = .ok (.return_, 1) := by decide +kernel
theorem dX9_customs_0 : decode cX9_customs 0 = .ok (.aload_n 0, 1) := by decide +kernel
theorem dX9_customs_1 : decode cX9_customs 1 = .ok (.iconst 0, 1) := by decide +kernel
theorem dX9_customs_2 : decode cX9_customs 2 = .ok (.putfield 95, 3) := by decide +kernel
theorem dX9_customs_5 : decode cX9_customs 5 = .ok (.iload_n 1, 1) := by decide +kernel
theorem dX9_customs_6 : decode cX9_customs 6 = .ok (.ifCond .lt 11, 3) := by decide +kernel
theorem dX9_customs_9 : decode cX9_customs 9 = .ok (.iload_n 1, 1) := by decide +kernel
theorem dX9_customs_10 : decode cX9_customs 10 = .ok (.aload_n 0, 1) := by decide +kernel
theorem dX9_customs_11 : decode cX9_customs 11 = .ok (.getfield 98, 3) := by decide +kernel
theorem dX9_customs_14 : decode cX9_customs 14 = .ok (.if_icmp .le 6, 3) := by decide +kernel
theorem dX9_customs_17 : decode cX9_customs 17 = .ok (.bipush (-2), 2) := by decide +kernel
theorem dX9_customs_19 : decode cX9_customs 19 = .ok (.ireturn, 1) := by decide +kernel
theorem dX9_customs_20 : decode cX9_customs 20 = .ok (.aload_n 0, 1) := by decide +kernel
theorem dX9_customs_21 : decode cX9_customs 21 = .ok (.iload_n 1, 1) := by decide +kernel
theorem dX9_customs_22 : decode cX9_customs 22 = .ok (.putfield 104, 3) := by decide +kernel
theorem dX9_customs_25 : decode cX9_customs 25 = .ok (.aload_n 0, 1) := by decide +kernel
theorem dX9_customs_26 : decode cX9_customs 26 = .ok (.iconst 0, 1) := by decide +kernel
theorem dX9_customs_27 : decode cX9_customs 27 = .ok (.putfield 98, 3) := by decide +kernel
theorem dX9_customs_30 : decode cX9_customs 30 = .ok (.aload_n 0, 1) := by decide +kernel
theorem dX9_customs_31 : decode cX9_customs 31 = .ok (.iconst 0, 1) := by decide +kernel
theorem dX9_customs_32 : decode cX9_customs 32 = .ok (.putfield 101, 3) := by decide +kernel
theorem dX9_customs_35 : decode cX9_customs 35 = .ok (.aload_n 0, 1) := by decide +kernel
theorem dX9_customs_36 : decode cX9_customs 36 = .ok (.iconst 0, 1) := by decide +kernel
theorem dX9_customs_37 : decode cX9_customs 37 = .ok (.putfield 141, 3) := by decide +kernel
theorem dX9_customs_40 : decode cX9_customs 40 = .ok (.aload_n 0, 1) := by decide +kernel
theorem dX9_customs_41 : decode cX9_customs 41 = .ok (.iconst (-1), 1) := by decide +kernel
theorem dX9_customs_42 : decode cX9_customs 42 = .ok (.putfield 144, 3) := by decide +kernel
theorem dX9_customs_45 : decode cX9_customs 45 = .ok (.aload_n 0, 1) := by decide +kernel
theorem dX9_customs_46 : decode cX9_customs 46 = .ok (.iconst 0, 1) := by decide +kernel
theorem dX9_customs_47 : decode cX9_customs 47 = .ok (.putfield 151, 3) := by decide +kernel
theorem dX9_customs_50 : decode cX9_customs 50 = .ok (.aload_n 0, 1) := by decide +kernel
theorem dX9_customs_51 : decode cX9_customs 51 = .ok (.iconst 0, 1) := by decide +kernel
theorem dX9_customs_52 : decode cX9_customs 52 = .ok (.putfield 157, 3) := by decide +kernel
theorem dX9_customs_55 : decode cX9_customs 55 = .ok (.iconst 0, 1) := by decide +kernel
theorem dX9_customs_56 : decode cX9_customs 56 = .ok (.istore_n 2, 1) := by decide +kernel
theorem dX9_customs_57 : decode cX9_customs 57 = .ok (.iload_n 2, 1) := by decide +kernel
theorem dX9_customs_58 : decode cX9_customs 58 = .ok (.bipush 6, 2) := by decide +kernel
theorem dX9_customs_60 : decode cX9_customs 60 = .ok (.if_icmp .ge 24, 3) := by decide +kernel
theorem dX9_customs_63 : decode cX9_customs 63 = .ok (.aload_n 0, 1) := by decide +kernel
theorem dX9_customs_64 : decode cX9_customs 64 = .ok (.getfield 13, 3) := by decide +kernel
theorem dX9_customs_67 : decode cX9_customs 67 = .ok (.bipush 6, 2) := by decide +kernel
theorem dX9_customs_69 : decode cX9_customs 69 = .ok (.iload_n 2, 1) := by decide +kernel
theorem dX9_customs_70 : decode cX9_customs 70 = .ok (.iadd, 1) := by decide +kernel
theorem dX9_customs_71 : decode cX9_customs 71 = .ok (.aload_n 0, 1) := by decide +kernel
theorem dX9_customs_72 : decode cX9_customs 72 = .ok (.getfield 16, 3) := by decide +kernel
theorem dX9_customs_75 : decode cX9_customs 75 = .ok (.iload_n 2, 1) := by decide +kernel
theorem dX9_customs_76 : decode cX9_customs 76 = .ok (.iaload, 1) := by decide +kernel
theorem dX9_customs_77 : decode cX9_customs 77 = .ok (.iastore, 1) := by decide +kernel
theorem dX9_customs_78 : decode cX9_customs 78 = .ok (.iinc 2 1, 3) := by decide +kernel
theorem dX9_customs_81 : decode cX9_customs 81 = .ok (.goto (-24), 3) := by decide +kernel
theorem dX9_customs_84 : decode cX9_customs 84 = .ok (.aload_n 0, 1) := by decide +kernel
theorem dX9_customs_85 : decode cX9_customs 85 = .ok (.invokevirtual 154, 3) := by decide +kernel
theorem dX9_customs_88 : decode cX9_customs 88 = .ok (.aload_n 0, 1) := by decide +kernel
theorem dX9_customs_89 : decode cX9_customs 89 = .ok (.getfield 141, 3) := by decide +kernel
theorem dX9_customs_92 : decode cX9_customs 92 = .ok (.ifCond .ne 18, 3) := by decide +kernel
theorem dX9_customs_95 : decode cX9_customs 95 = .ok (.aload_n 0, 1) := by decide +kernel
theorem dX9_customs_96 : decode cX9_customs 96 = .ok (.getfield 114, 3) := by decide +kernel
theorem dX9_customs_99 : decode cX9_customs 99 = .ok (.iconst 3, 1) := by decide +kernel
theorem dX9_customs_100 : decode cX9_customs 100 = .ok (.if_icmp .eq 10, 3) := by decide +kernel
theorem dX9_customs_103 : decode cX9_customs 103 = .ok (.aload_n 0, 1) := by decide +kernel
theorem dX9_customs_104 : decode cX9_customs 104 = .ok (.invokevirtual 160, 3) := by decide +kernel
theorem dX9_customs_107 : decode cX9_customs 107 = .ok (.goto (-19), 3) := by decide +kernel
theorem dX9_customs_110 : decode cX9_customs 110 = .ok (.aload_n 0, 1) := by decide +kernel
theorem dX9_customs_111 : decode cX9_customs 111 = .ok (.aload_n 0, 1) := by decide +kernel
theorem dX9_customs_112 : decode cX9_customs 112 = .ok (.getfield 141, 3) := by decide +kernel
theorem dX9_customs_115 : decode cX9_customs 115 = .ok (.putfield 163, 3) := by decide +kernel
theorem dX9_customs_118 : decode cX9_customs 118 = .ok (.aload_n 0, 1) := by decide +kernel
theorem dX9_customs_119 : decode cX9_customs 119 = .ok (.aload_n 0, 1) := by decide +kernel
theorem dX9_customs_120 : decode cX9_customs 120 = .ok (.getfield 144, 3) := by decide +kernel
theorem dX9_customs_123 : decode cX9_customs 123 = .ok (.putfield 25, 3) := by decide +kernel
theorem dX9_customs_126 : decode cX9_customs 126 = .ok (.aload_n 0, 1) := by decide +kernel
theorem dX9_customs_127 : decode cX9_customs 127 = .ok (.getfield 141, 3) := by decide +kernel
theorem dX9_customs_130 : decode cX9_customs 130 = .ok (.ifCond .eq 5, 3) := by decide +kernel
theorem dX9_customs_133 : decode cX9_customs 133 = .ok (.iconst (-1), 1) := by decide +kernel
theorem dX9_customs_134 : decode cX9_customs 134 = .ok (.ireturn, 1) := by decide +kernel
theorem dX9_customs_135 : decode cX9_customs 135 = .ok (.iconst 0, 1) := by decide +kernel
theorem dX9_customs_136 : decode cX9_customs 136 = .ok (.istore_n 2, 1) := by decide +kernel
theorem dX9_customs_137 : decode cX9_customs 137 = .ok (.iload_n 2, 1) := by decide +kernel
theorem dX9_customs_138 : decode cX9_customs 138 = .ok (.bipush 6, 2) := by decide +kernel
theorem dX9_customs_140 : decode cX9_customs 140 = .ok (.if_icmp .ge 24, 3) := by decide +kernel
theorem dX9_customs_143 : decode cX9_customs 143 = .ok (.aload_n 0, 1) := by decide +kernel
theorem dX9_customs_144 : decode cX9_customs 144 = .ok (.getfield 13, 3) := by decide +kernel
theorem dX9_customs_147 : decode cX9_customs 147 = .ok (.iload_n 2, 1) := by decide +kernel
theorem dX9_customs_148 : decode cX9_customs 148 = .ok (.aload_n 0, 1) := by decide +kernel
theorem dX9_customs_149 : decode cX9_customs 149 = .ok (.getfield 13, 3) := by decide +kernel
