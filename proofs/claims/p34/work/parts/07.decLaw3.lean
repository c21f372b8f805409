theorem dL_below_0 : decode cL_below 0 = .ok (.iload_n 0, 1) := by decide +kernel
theorem dL_below_1 : decode cL_below 1 = .ok (.ldc 7, 2) := by decide +kernel
theorem dL_below_3 : decode cL_below 3 = .ok (.iand, 1) := by decide +kernel
theorem dL_below_4 : decode cL_below 4 = .ok (.iload_n 1, 1) := by decide +kernel
theorem dL_below_5 : decode cL_below 5 = .ok (.irem, 1) := by decide +kernel
theorem dL_below_6 : decode cL_below 6 = .ok (.ireturn, 1) := by decide +kernel
theorem dL_cell_0 : decode cL_cell 0 = .ok (.iload_n 1, 1) := by decide +kernel
theorem dL_cell_1 : decode cL_cell 1 = .ok (.aload_n 0, 1) := by decide +kernel
theorem dL_cell_2 : decode cL_cell 2 = .ok (.arraylength, 1) := by decide +kernel
theorem dL_cell_3 : decode cL_cell 3 = .ok (.if_icmp .ge 9, 3) := by decide +kernel
theorem dL_cell_6 : decode cL_cell 6 = .ok (.aload_n 0, 1) := by decide +kernel
theorem dL_cell_7 : decode cL_cell 7 = .ok (.iload_n 1, 1) := by decide +kernel
theorem dL_cell_8 : decode cL_cell 8 = .ok (.iaload, 1) := by decide +kernel
theorem dL_cell_9 : decode cL_cell 9 = .ok (.goto 9, 3) := by decide +kernel
theorem dL_cell_12 : decode cL_cell 12 = .ok (.ldc 8, 2) := by decide +kernel
theorem dL_cell_14 : decode cL_cell 14 = .ok (.iload_n 1, 1) := by decide +kernel
theorem dL_cell_15 : decode cL_cell 15 = .ok (.iconst 3, 1) := by decide +kernel
theorem dL_cell_16 : decode cL_cell 16 = .ok (.iadd, 1) := by decide +kernel
theorem dL_cell_17 : decode cL_cell 17 = .ok (.imul, 1) := by decide +kernel
theorem dL_cell_18 : decode cL_cell 18 = .ok (.ireturn, 1) := by decide +kernel
theorem dL_program_0 : decode cL_program 0 = .ok (.iload_n 2, 1) := by decide +kernel
theorem dL_program_1 : decode cL_program 1 = .ok (.anewarray 9, 3) := by decide +kernel
theorem dL_program_4 : decode cL_program 4 = .ok (.astore_n 3, 1) := by decide +kernel
theorem dL_program_5 : decode cL_program 5 = .ok (.bipush 29, 2) := by decide +kernel
theorem dL_program_7 : decode cL_program 7 = .ok (.newarray .int, 2) := by decide +kernel
theorem dL_program_9 : decode cL_program 9 = .ok (.dup, 1) := by decide +kernel
theorem dL_program_10 : decode cL_program 10 = .ok (.iconst 0, 1) := by decide +kernel
theorem dL_program_11 : decode cL_program 11 = .ok (.iconst 0, 1) := by decide +kernel
theorem dL_program_12 : decode cL_program 12 = .ok (.iastore, 1) := by decide +kernel
theorem dL_program_13 : decode cL_program 13 = .ok (.dup, 1) := by decide +kernel
theorem dL_program_14 : decode cL_program 14 = .ok (.iconst 1, 1) := by decide +kernel
theorem dL_program_15 : decode cL_program 15 = .ok (.iconst 0, 1) := by decide +kernel
theorem dL_program_16 : decode cL_program 16 = .ok (.iastore, 1) := by decide +kernel
theorem dL_program_17 : decode cL_program 17 = .ok (.dup, 1) := by decide +kernel
theorem dL_program_18 : decode cL_program 18 = .ok (.iconst 2, 1) := by decide +kernel
theorem dL_program_19 : decode cL_program 19 = .ok (.iconst 1, 1) := by decide +kernel
theorem dL_program_20 : decode cL_program 20 = .ok (.iastore, 1) := by decide +kernel
theorem dL_program_21 : decode cL_program 21 = .ok (.dup, 1) := by decide +kernel
theorem dL_program_22 : decode cL_program 22 = .ok (.iconst 3, 1) := by decide +kernel
theorem dL_program_23 : decode cL_program 23 = .ok (.iconst 2, 1) := by decide +kernel
theorem dL_program_24 : decode cL_program 24 = .ok (.iastore, 1) := by decide +kernel
theorem dL_program_25 : decode cL_program 25 = .ok (.dup, 1) := by decide +kernel
theorem dL_program_26 : decode cL_program 26 = .ok (.iconst 4, 1) := by decide +kernel
theorem dL_program_27 : decode cL_program 27 = .ok (.iconst 3, 1) := by decide +kernel
theorem dL_program_28 : decode cL_program 28 = .ok (.iastore, 1) := by decide +kernel
theorem dL_program_29 : decode cL_program 29 = .ok (.dup, 1) := by decide +kernel
theorem dL_program_30 : decode cL_program 30 = .ok (.iconst 5, 1) := by decide +kernel
theorem dL_program_31 : decode cL_program 31 = .ok (.iconst 4, 1) := by decide +kernel
theorem dL_program_32 : decode cL_program 32 = .ok (.iastore, 1) := by decide +kernel
theorem dL_program_33 : decode cL_program 33 = .ok (.dup, 1) := by decide +kernel
theorem dL_program_34 : decode cL_program 34 = .ok (.bipush 6, 2) := by decide +kernel
theorem dL_program_36 : decode cL_program 36 = .ok (.iconst 5, 1) := by decide +kernel
theorem dL_program_37 : decode cL_program 37 = .ok (.iastore, 1) := by decide +kernel
theorem dL_program_38 : decode cL_program 38 = .ok (.dup, 1) := by decide +kernel
theorem dL_program_39 : decode cL_program 39 = .ok (.bipush 7, 2) := by decide +kernel
theorem dL_program_41 : decode cL_program 41 = .ok (.bipush 6, 2) := by decide +kernel
theorem dL_program_43 : decode cL_program 43 = .ok (.iastore, 1) := by decide +kernel
theorem dL_program_44 : decode cL_program 44 = .ok (.dup, 1) := by decide +kernel
theorem dL_program_45 : decode cL_program 45 = .ok (.bipush 8, 2) := by decide +kernel
theorem dL_program_47 : decode cL_program 47 = .ok (.bipush 7, 2) := by decide +kernel
theorem dL_program_49 : decode cL_program 49 = .ok (.iastore, 1) := by decide +kernel
theorem dL_program_50 : decode cL_program 50 = .ok (.dup, 1) := by decide +kernel
theorem dL_program_51 : decode cL_program 51 = .ok (.bipush 9, 2) := by decide +kernel
theorem dL_program_53 : decode cL_program 53 = .ok (.bipush 8, 2) := by decide +kernel
theorem dL_program_55 : decode cL_program 55 = .ok (.iastore, 1) := by decide +kernel
theorem dL_program_56 : decode cL_program 56 = .ok (.dup, 1) := by decide +kernel
theorem dL_program_57 : decode cL_program 57 = .ok (.bipush 10, 2) := by decide +kernel
theorem dL_program_59 : decode cL_program 59 = .ok (.bipush 9, 2) := by decide +kernel
theorem dL_program_61 : decode cL_program 61 = .ok (.iastore, 1) := by decide +kernel
theorem dL_program_62 : decode cL_program 62 = .ok (.dup, 1) := by decide +kernel
theorem dL_program_63 : decode cL_program 63 = .ok (.bipush 11, 2) := by decide +kernel
theorem dL_program_65 : decode cL_program 65 = .ok (.bipush 10, 2) := by decide +kernel
theorem dL_program_67 : decode cL_program 67 = .ok (.iastore, 1) := by decide +kernel
theorem dL_program_68 : decode cL_program 68 = .ok (.dup, 1) := by decide +kernel
theorem dL_program_69 : decode cL_program 69 = .ok (.bipush 12, 2) := by decide +kernel
theorem dL_program_71 : decode cL_program 71 = .ok (.bipush 11, 2) := by decide +kernel
theorem dL_program_73 : decode cL_program 73 = .ok (.iastore, 1) := by decide +kernel
theorem dL_program_74 : decode cL_program 74 = .ok (.dup, 1) := by decide +kernel
theorem dL_program_75 : decode cL_program 75 = .ok (.bipush 13, 2) := by decide +kernel
theorem dL_program_77 : decode cL_program 77 = .ok (.bipush 12, 2) := by decide +kernel
theorem dL_program_79 : decode cL_program 79 = .ok (.iastore, 1) := by decide +kernel
theorem dL_program_80 : decode cL_program 80 = .ok (.dup, 1) := by decide +kernel
theorem dL_program_81 : decode cL_program 81 = .ok (.bipush 14, 2) := by decide +kernel
theorem dL_program_83 : decode cL_program 83 = .ok (.bipush 13, 2) := by decide +kernel
theorem dL_program_85 : decode cL_program 85 = .ok (.iastore, 1) := by decide +kernel
theorem dL_program_86 : decode cL_program 86 = .ok (.dup, 1) := by decide +kernel
theorem dL_program_87 : decode cL_program 87 = .ok (.bipush 15, 2) := by decide +kernel
theorem dL_program_89 : decode cL_program 89 = .ok (.bipush 13, 2) := by decide +kernel
theorem dL_program_91 : decode cL_program 91 = .ok (.iastore, 1) := by decide +kernel
theorem dL_program_92 : decode cL_program 92 = .ok (.dup, 1) := by decide +kernel
theorem dL_program_93 : decode cL_program 93 = .ok (.bipush 16, 2) := by decide +kernel
theorem dL_program_95 : decode cL_program 95 = .ok (.bipush 14, 2) := by decide +kernel
theorem dL_program_97 : decode cL_program 97 = .ok (.iastore, 1) := by decide +kernel
theorem dL_program_98 : decode cL_program 98 = .ok (.dup, 1) := by decide +kernel
theorem dL_program_99 : decode cL_program 99 = .ok (.bipush 17, 2) := by decide +kernel
theorem dL_program_101 : decode cL_program 101 = .ok (.bipush 15, 2) := by decide +kernel
theorem dL_program_103 : decode cL_program 103 = .ok (.iastore, 1) := by decide +kernel
theorem dL_program_104 : decode cL_program 104 = .ok (.dup, 1) := by decide +kernel
theorem dL_program_105 : decode cL_program 105 = .ok (.bipush 18, 2) := by decide +kernel
theorem dL_program_107 : decode cL_program 107 = .ok (.bipush 16, 2) := by decide +kernel
theorem dL_program_109 : decode cL_program 109 = .ok (.iastore, 1) := by decide +kernel
theorem dL_program_110 : decode cL_program 110 = .ok (.dup, 1) := by decide +kernel
theorem dL_program_111 : decode cL_program 111 = .ok (.bipush 19, 2) := by decide +kernel
theorem dL_program_113 : decode cL_program 113 = .ok (.bipush 17, 2) := by decide +kernel
theorem dL_program_115 : decode cL_program 115 = .ok (.iastore, 1) := by decide +kernel
theorem dL_program_116 : decode cL_program 116 = .ok (.dup, 1) := by decide +kernel
theorem dL_program_117 : decode cL_program 117 = .ok (.bipush 20, 2) := by decide +kernel
theorem dL_program_119 : decode cL_program 119 = .ok (.bipush 17, 2) := by decide +kernel
theorem dL_program_121 : decode cL_program 121 = .ok (.iastore, 1) := by decide +kernel
theorem dL_program_122 : decode cL_program 122 = .ok (.dup, 1) := by decide +kernel
theorem dL_program_123 : decode cL_program 123 = .ok (.bipush 21, 2) := by decide +kernel
theorem dL_program_125 : decode cL_program 125 = .ok (.bipush 18, 2) := by decide +kernel
theorem dL_program_127 : decode cL_program 127 = .ok (.iastore, 1) := by decide +kernel
theorem dL_program_128 : decode cL_program 128 = .ok (.dup, 1) := by decide +kernel
theorem dL_program_129 : decode cL_program 129 = .ok (.bipush 22, 2) := by decide +kernel
theorem dL_program_131 : decode cL_program 131 = .ok (.bipush 18, 2) := by decide +kernel
theorem dL_program_133 : decode cL_program 133 = .ok (.iastore, 1) := by decide +kernel
theorem dL_program_134 : decode cL_program 134 = .ok (.dup, 1) := by decide +kernel
theorem dL_program_135 : decode cL_program 135 = .ok (.bipush 23, 2) := by decide +kernel
theorem dL_program_137 : decode cL_program 137 = .ok (.bipush 19, 2) := by decide +kernel
theorem dL_program_139 : decode cL_program 139 = .ok (.iastore, 1) := by decide +kernel
theorem dL_program_140 : decode cL_program 140 = .ok (.dup, 1) := by decide +kernel
theorem dL_program_141 : decode cL_program 141 = .ok (.bipush 24, 2) := by decide +kernel
theorem dL_program_143 : decode cL_program 143 = .ok (.bipush 20, 2) := by decide +kernel
theorem dL_program_145 : decode cL_program 145 = .ok (.iastore, 1) := by decide +kernel
theorem dL_program_146 : decode cL_program 146 = .ok (.dup, 1) := by decide +kernel
theorem dL_program_147 : decode cL_program 147 = .ok (.bipush 25, 2) := by decide +kernel
theorem dL_program_149 : decode cL_program 149 = .ok (.bipush 21, 2) := by decide +kernel
theorem dL_program_151 : decode cL_program 151 = .ok (.iastore, 1) := by decide +kernel
theorem dL_program_152 : decode cL_program 152 = .ok (.dup, 1) := by decide +kernel
theorem dL_program_153 : decode cL_program 153 = .ok (.bipush 26, 2) := by decide +kernel
theorem dL_program_155 : decode cL_program 155 = .ok (.iconst 0, 1) := by decide +kernel
theorem dL_program_156 : decode cL_program 156 = .ok (.iastore, 1) := by decide +kernel
theorem dL_program_157 : decode cL_program 157 = .ok (.dup, 1) := by decide +kernel
theorem dL_program_158 : decode cL_program 158 = .ok (.bipush 27, 2) := by decide +kernel
theorem dL_program_160 : decode cL_program 160 = .ok (.iconst 0, 1) := by decide +kernel
theorem dL_program_161 : decode cL_program 161 = .ok (.iastore, 1) := by decide +kernel
theorem dL_program_162 : decode cL_program 162 = .ok (.dup, 1) := by decide +kernel
theorem dL_program_163 : decode cL_program 163 = .ok (.bipush 28, 2) := by decide +kernel
theorem dL_program_165 : decode cL_program 165 = .ok (.iconst 0, 1) := by decide +kernel
theorem dL_program_166 : decode cL_program 166 = .ok (.iastore, 1) := by decide +kernel
theorem dL_program_167 : decode cL_program 167 = .ok (.astore 4, 2) := by decide +kernel
theorem dL_program_169 : decode cL_program 169 = .ok (.iconst 0, 1) := by decide +kernel
theorem dL_program_170 : decode cL_program 170 = .ok (.istore 5, 2) := by decide +kernel
theorem dL_program_172 : decode cL_program 172 = .ok (.iload 5, 2) := by decide +kernel
theorem dL_program_174 : decode cL_program 174 = .ok (.iload_n 2, 1) := by decide +kernel
theorem dL_program_175 : decode cL_program 175 = .ok (.if_icmp .ge 170, 3) := by decide +kernel
theorem dL_program_178 : decode cL_program 178 = .ok (.aload_n 1, 1) := by decide +kernel
theorem dL_program_179 : decode cL_program 179 = .ok (.iload 5, 2) := by decide +kernel
theorem dL_program_181 : decode cL_program 181 = .ok (.bipush 16, 2) := by decide +kernel
theorem dL_program_183 : decode cL_program 183 = .ok (.irem, 1) := by decide +kernel
theorem dL_program_184 : decode cL_program 184 = .ok (.invokestatic 11, 3) := by decide +kernel
theorem dL_program_187 : decode cL_program 187 = .ok (.iload 5, 2) := by decide +kernel
theorem dL_program_189 : decode cL_program 189 = .ok (.bipush 16, 2) := by decide +kernel
theorem dL_program_191 : decode cL_program 191 = .ok (.idiv, 1) := by decide +kernel
theorem dL_program_192 : decode cL_program 192 = .ok (.iconst 3, 1) := by decide +kernel
theorem dL_program_193 : decode cL_program 193 = .ok (.imul, 1) := by decide +kernel
theorem dL_program_194 : decode cL_program 194 = .ok (.ishr, 1) := by decide +kernel
theorem dL_program_195 : decode cL_program 195 = .ok (.bipush 7, 2) := by decide +kernel
theorem dL_program_197 : decode cL_program 197 = .ok (.iload 5, 2) := by decide +kernel
theorem dL_program_199 : decode cL_program 199 = .ok (.imul, 1) := by decide +kernel
theorem dL_program_200 : decode cL_program 200 = .ok (.iadd, 1) := by decide +kernel
theorem dL_program_201 : decode cL_program 201 = .ok (.istore 6, 2) := by decide +kernel
theorem dL_program_203 : decode cL_program 203 = .ok (.iload 5, 2) := by decide +kernel
theorem dL_program_205 : decode cL_program 205 = .ok (.iconst 3, 1) := by decide +kernel
theorem dL_program_206 : decode cL_program 206 = .ok (.if_icmp .ge 7, 3) := by decide +kernel
theorem dL_program_209 : decode cL_program 209 = .ok (.iconst 0, 1) := by decide +kernel
theorem dL_program_210 : decode cL_program 210 = .ok (.goto 36, 3) := by decide +kernel
theorem dL_program_213 : decode cL_program 213 = .ok (.iload 5, 2) := by decide +kernel
theorem dL_program_215 : decode cL_program 215 = .ok (.iload_n 2, 1) := by decide +kernel
theorem dL_program_216 : decode cL_program 216 = .ok (.iconst 1, 1) := by decide +kernel
theorem dL_program_217 : decode cL_program 217 = .ok (.isub, 1) := by decide +kernel
theorem dL_program_218 : decode cL_program 218 = .ok (.if_icmp .ne 17, 3) := by decide +kernel
theorem dL_program_221 : decode cL_program 221 = .ok (.iload 6, 2) := by decide +kernel
theorem dL_program_223 : decode cL_program 223 = .ok (.iconst 3, 1) := by decide +kernel
theorem dL_program_224 : decode cL_program 224 = .ok (.invokestatic 17, 3) := by decide +kernel
theorem dL_program_227 : decode cL_program 227 = .ok (.ifCond .le 8, 3) := by decide +kernel
theorem dL_program_230 : decode cL_program 230 = .ok (.bipush 22, 2) := by decide +kernel
theorem dL_program_232 : decode cL_program 232 = .ok (.goto 14, 3) := by decide +kernel
theorem dL_program_235 : decode cL_program 235 = .ok (.aload 4, 2) := by decide +kernel
theorem dL_program_237 : decode cL_program 237 = .ok (.iload 6, 2) := by decide +kernel
theorem dL_program_239 : decode cL_program 239 = .ok (.aload 4, 2) := by decide +kernel
theorem dL_program_241 : decode cL_program 241 = .ok (.arraylength, 1) := by decide +kernel
theorem dL_program_242 : decode cL_program 242 = .ok (.invokestatic 17, 3) := by decide +kernel
theorem dL_program_245 : decode cL_program 245 = .ok (.iaload, 1) := by decide +kernel
theorem dL_program_246 : decode cL_program 246 = .ok (.istore 7, 2) := by decide +kernel
theorem dL_program_248 : decode cL_program 248 = .ok (.iload 7, 2) := by decide +kernel
theorem dL_program_250 : decode cL_program 250 = .ok (.ifCond .ne 17, 3) := by decide +kernel
theorem dL_program_253 : decode cL_program 253 = .ok (.iload 6, 2) := by decide +kernel
theorem dL_program_255 : decode cL_program 255 = .ok (.iconst 3, 1) := by decide +kernel
theorem dL_program_256 : decode cL_program 256 = .ok (.ishr, 1) := by decide +kernel
theorem dL_program_257 : decode cL_program 257 = .ok (.bipush 16, 2) := by decide +kernel
theorem dL_program_259 : decode cL_program 259 = .ok (.invokestatic 17, 3) := by decide +kernel
theorem dL_program_262 : decode cL_program 262 = .ok (.iconst 2, 1) := by decide +kernel
theorem dL_program_263 : decode cL_program 263 = .ok (.isub, 1) := by decide +kernel
theorem dL_program_264 : decode cL_program 264 = .ok (.goto 38, 3) := by decide +kernel
theorem dL_program_267 : decode cL_program 267 = .ok (.iload 7, 2) := by decide +kernel
theorem dL_program_269 : decode cL_program 269 = .ok (.bipush 12, 2) := by decide +kernel
theorem dL_program_271 : decode cL_program 271 = .ok (.if_icmp .eq 10, 3) := by decide +kernel
theorem dL_program_274 : decode cL_program 274 = .ok (.iload 7, 2) := by decide +kernel
theorem dL_program_276 : decode cL_program 276 = .ok (.bipush 13, 2) := by decide +kernel
theorem dL_program_278 : decode cL_program 278 = .ok (.if_icmp .ne 14, 3) := by decide +kernel
theorem dL_program_281 : decode cL_program 281 = .ok (.iload 6, 2) := by decide +kernel
theorem dL_program_283 : decode cL_program 283 = .ok (.iconst 2, 1) := by decide +kernel
theorem dL_program_284 : decode cL_program 284 = .ok (.ishr, 1) := by decide +kernel
theorem dL_program_285 : decode cL_program 285 = .ok (.iconst 4, 1) := by decide +kernel
theorem dL_program_286 : decode cL_program 286 = .ok (.invokestatic 17, 3) := by decide +kernel
theorem dL_program_289 : decode cL_program 289 = .ok (.goto 13, 3) := by decide +kernel
theorem dL_program_292 : decode cL_program 292 = .ok (.iload 6, 2) := by decide +kernel
theorem dL_program_294 : decode cL_program 294 = .ok (.iconst 3, 1) := by decide +kernel
theorem dL_program_295 : decode cL_program 295 = .ok (.ishr, 1) := by decide +kernel
theorem dL_program_296 : decode cL_program 296 = .ok (.iload_n 2, 1) := by decide +kernel
theorem dL_program_297 : decode cL_program 297 = .ok (.iconst 1, 1) := by decide +kernel
theorem dL_program_298 : decode cL_program 298 = .ok (.iadd, 1) := by decide +kernel
theorem dL_program_299 : decode cL_program 299 = .ok (.invokestatic 17, 3) := by decide +kernel
theorem dL_program_302 : decode cL_program 302 = .ok (.istore 8, 2) := by decide +kernel
theorem dL_program_304 : decode cL_program 304 = .ok (.aload_n 3, 1) := by decide +kernel
theorem dL_program_305 : decode cL_program 305 = .ok (.iload 5, 2) := by decide +kernel
theorem dL_program_307 : decode cL_program 307 = .ok (.iconst 2, 1) := by decide +kernel
theorem dL_program_308 : decode cL_program 308 = .ok (.newarray .int, 2) := by decide +kernel
theorem dL_program_310 : decode cL_program 310 = .ok (.dup, 1) := by decide +kernel
theorem dL_program_311 : decode cL_program 311 = .ok (.iconst 0, 1) := by decide +kernel
theorem dL_program_312 : decode cL_program 312 = .ok (.iload 7, 2) := by decide +kernel
theorem dL_program_314 : decode cL_program 314 = .ok (.iastore, 1) := by decide +kernel
theorem dL_program_315 : decode cL_program 315 = .ok (.dup, 1) := by decide +kernel
theorem dL_program_316 : decode cL_program 316 = .ok (.iconst 1, 1) := by decide +kernel
theorem dL_program_317 : decode cL_program 317 = .ok (.iload 8, 2) := by decide +kernel
theorem dL_program_319 : decode cL_program 319 = .ok (.iastore, 1) := by decide +kernel
theorem dL_program_320 : decode cL_program 320 = .ok (.aastore, 1) := by decide +kernel
theorem dL_program_321 : decode cL_program 321 = .ok (.aload_n 0, 1) := by decide +kernel
theorem dL_program_322 : decode cL_program 322 = .ok (.iload 7, 2) := by decide +kernel
theorem dL_program_324 : decode cL_program 324 = .ok (.iload 8, 2) := by decide +kernel
theorem dL_program_326 : decode cL_program 326 = .ok (.invokevirtual 21, 3) := by decide +kernel
theorem dL_program_329 : decode cL_program 329 = .ok (.iload 5, 2) := by decide +kernel
theorem dL_program_331 : decode cL_program 331 = .ok (.if_icmp .eq 8, 3) := by decide +kernel
theorem dL_program_334 : decode cL_program 334 = .ok (.iconst 0, 1) := by decide +kernel
theorem dL_program_335 : decode cL_program 335 = .ok (.anewarray 9, 3) := by decide +kernel
theorem dL_program_338 : decode cL_program 338 = .ok (.areturn, 1) := by decide +kernel
theorem dL_program_339 : decode cL_program 339 = .ok (.iinc 5 1, 3) := by decide +kernel
theorem dL_program_342 : decode cL_program 342 = .ok (.goto (-170), 3) := by decide +kernel
theorem dL_program_345 : decode cL_program 345 = .ok (.aload_n 3, 1) := by decide +kernel
theorem dL_program_346 : decode cL_program 346 = .ok (.areturn, 1) := by decide +kernel
theorem dL_state_0 : decode cL_state 0 = .ok (.ldc2_w 26, 3) := by decide +kernel
theorem dL_state_3 : decode cL_state 3 = .ok (.lstore_n 1, 1) := by decide +kernel
theorem dL_state_4 : decode cL_state 4 = .ok (.iconst 0, 1) := by decide +kernel
theorem dL_state_5 : decode cL_state 5 = .ok (.istore_n 3, 1) := by decide +kernel
theorem dL_state_6 : decode cL_state 6 = .ok (.iload_n 3, 1) := by decide +kernel
theorem dL_state_7 : decode cL_state 7 = .ok (.bipush 8, 2) := by decide +kernel
theorem dL_state_9 : decode cL_state 9 = .ok (.if_icmp .ge 22, 3) := by decide +kernel
theorem dL_state_12 : decode cL_state 12 = .ok (.lload_n 1, 1) := by decide +kernel
theorem dL_state_13 : decode cL_state 13 = .ok (.ldc2_w 28, 3) := by decide +kernel
theorem dL_state_16 : decode cL_state 16 = .ok (.lmul, 1) := by decide +kernel
theorem dL_state_17 : decode cL_state 17 = .ok (.aload_n 0, 1) := by decide +kernel
theorem dL_state_18 : decode cL_state 18 = .ok (.iload_n 3, 1) := by decide +kernel
theorem dL_state_19 : decode cL_state 19 = .ok (.invokevirtual 30, 3) := by decide +kernel
theorem dL_state_22 : decode cL_state 22 = .ok (.i2l, 1) := by decide +kernel
theorem dL_state_23 : decode cL_state 23 = .ok (.ladd, 1) := by decide +kernel
theorem dL_state_24 : decode cL_state 24 = .ok (.lstore_n 1, 1) := by decide +kernel
theorem dL_state_25 : decode cL_state 25 = .ok (.iinc 3 1, 3) := by decide +kernel
theorem dL_state_28 : decode cL_state 28 = .ok (.goto (-22), 3) := by decide +kernel
theorem dL_state_31 : decode cL_state 31 = .ok (.iconst 0, 1) := by decide +kernel
theorem dL_state_32 : decode cL_state 32 = .ok (.istore_n 3, 1) := by decide +kernel
theorem dL_state_33 : decode cL_state 33 = .ok (.iload_n 3, 1) := by decide +kernel
theorem dL_state_34 : decode cL_state 34 = .ok (.aload_n 0, 1) := by decide +kernel
theorem dL_state_35 : decode cL_state 35 = .ok (.iconst 3, 1) := by decide +kernel
theorem dL_state_36 : decode cL_state 36 = .ok (.invokevirtual 30, 3) := by decide +kernel
theorem dL_state_39 : decode cL_state 39 = .ok (.if_icmp .ge 22, 3) := by decide +kernel
theorem dL_state_42 : decode cL_state 42 = .ok (.lload_n 1, 1) := by decide +kernel
theorem dL_state_43 : decode cL_state 43 = .ok (.ldc2_w 28, 3) := by decide +kernel
theorem dL_state_46 : decode cL_state 46 = .ok (.lmul, 1) := by decide +kernel
theorem dL_state_47 : decode cL_state 47 = .ok (.aload_n 0, 1) := by decide +kernel
theorem dL_state_48 : decode cL_state 48 = .ok (.iload_n 3, 1) := by decide +kernel
theorem dL_state_49 : decode cL_state 49 = .ok (.invokevirtual 34, 3) := by decide +kernel
theorem dL_state_52 : decode cL_state 52 = .ok (.i2l, 1) := by decide +kernel
theorem dL_state_53 : decode cL_state 53 = .ok (.ladd, 1) := by decide +kernel
theorem dL_state_54 : decode cL_state 54 = .ok (.lstore_n 1, 1) := by decide +kernel
theorem dL_state_55 : decode cL_state 55 = .ok (.iinc 3 1, 3) := by decide +kernel
theorem dL_state_58 : decode cL_state 58 = .ok (.goto (-25), 3) := by decide +kernel
theorem dL_state_61 : decode cL_state 61 = .ok (.iconst 0, 1) := by decide +kernel
theorem dL_state_62 : decode cL_state 62 = .ok (.istore_n 3, 1) := by decide +kernel
theorem dL_state_63 : decode cL_state 63 = .ok (.iload_n 3, 1) := by decide +kernel
theorem dL_state_64 : decode cL_state 64 = .ok (.bipush 12, 2) := by decide +kernel
theorem dL_state_66 : decode cL_state 66 = .ok (.if_icmp .ge 32, 3) := by decide +kernel
theorem dL_state_69 : decode cL_state 69 = .ok (.lload_n 1, 1) := by decide +kernel
theorem dL_state_70 : decode cL_state 70 = .ok (.ldc2_w 28, 3) := by decide +kernel
theorem dL_state_73 : decode cL_state 73 = .ok (.lmul, 1) := by decide +kernel
theorem dL_state_74 : decode cL_state 74 = .ok (.aload_n 0, 1) := by decide +kernel
theorem dL_state_75 : decode cL_state 75 = .ok (.iload_n 3, 1) := by decide +kernel
theorem dL_state_76 : decode cL_state 76 = .ok (.invokevirtual 37, 3) := by decide +kernel
theorem dL_state_79 : decode cL_state 79 = .ok (.i2l, 1) := by decide +kernel
theorem dL_state_80 : decode cL_state 80 = .ok (.ladd, 1) := by decide +kernel
theorem dL_state_81 : decode cL_state 81 = .ok (.bipush 7, 2) := by decide +kernel
theorem dL_state_83 : decode cL_state 83 = .ok (.aload_n 0, 1) := by decide +kernel
theorem dL_state_84 : decode cL_state 84 = .ok (.iload_n 3, 1) := by decide +kernel
theorem dL_state_85 : decode cL_state 85 = .ok (.invokevirtual 39, 3) := by decide +kernel
theorem dL_state_88 : decode cL_state 88 = .ok (.imul, 1) := by decide +kernel
theorem dL_state_89 : decode cL_state 89 = .ok (.i2l, 1) := by decide +kernel
theorem dL_state_90 : decode cL_state 90 = .ok (.ladd, 1) := by decide +kernel
theorem dL_state_91 : decode cL_state 91 = .ok (.lstore_n 1, 1) := by decide +kernel
theorem dL_state_92 : decode cL_state 92 = .ok (.iinc 3 1, 3) := by decide +kernel
theorem dL_state_95 : decode cL_state 95 = .ok (.goto (-32), 3) := by decide +kernel
theorem dL_state_98 : decode cL_state 98 = .ok (.iconst 0, 1) := by decide +kernel
theorem dL_state_99 : decode cL_state 99 = .ok (.istore_n 3, 1) := by decide +kernel
theorem dL_state_100 : decode cL_state 100 = .ok (.iload_n 3, 1) := by decide +kernel
theorem dL_state_101 : decode cL_state 101 = .ok (.aload_n 0, 1) := by decide +kernel
theorem dL_state_102 : decode cL_state 102 = .ok (.iconst 4, 1) := by decide +kernel
theorem dL_state_103 : decode cL_state 103 = .ok (.invokevirtual 30, 3) := by decide +kernel
theorem dL_state_106 : decode cL_state 106 = .ok (.if_icmp .ge 22, 3) := by decide +kernel
theorem dL_state_109 : decode cL_state 109 = .ok (.lload_n 1, 1) := by decide +kernel
theorem dL_state_110 : decode cL_state 110 = .ok (.ldc2_w 28, 3) := by decide +kernel
theorem dL_state_113 : decode cL_state 113 = .ok (.lmul, 1) := by decide +kernel
theorem dL_state_114 : decode cL_state 114 = .ok (.aload_n 0, 1) := by decide +kernel
theorem dL_state_115 : decode cL_state 115 = .ok (.iload_n 3, 1) := by decide +kernel
theorem dL_state_116 : decode cL_state 116 = .ok (.invokevirtual 42, 3) := by decide +kernel
theorem dL_state_119 : decode cL_state 119 = .ok (.i2l, 1) := by decide +kernel
theorem dL_state_120 : decode cL_state 120 = .ok (.ladd, 1) := by decide +kernel
theorem dL_state_121 : decode cL_state 121 = .ok (.lstore_n 1, 1) := by decide +kernel
theorem dL_state_122 : decode cL_state 122 = .ok (.iinc 3 1, 3) := by decide +kernel
theorem dL_state_125 : decode cL_state 125 = .ok (.goto (-25), 3) := by decide +kernel
theorem dL_state_128 : decode cL_state 128 = .ok (.iconst 0, 1) := by decide +kernel
theorem dL_state_129 : decode cL_state 129 = .ok (.istore_n 3, 1) := by decide +kernel
theorem dL_state_130 : decode cL_state 130 = .ok (.iload_n 3, 1) := by decide +kernel
theorem dL_state_131 : decode cL_state 131 = .ok (.aload_n 0, 1) := by decide +kernel
theorem dL_state_132 : decode cL_state 132 = .ok (.bipush 6, 2) := by decide +kernel
theorem dL_state_134 : decode cL_state 134 = .ok (.invokevirtual 30, 3) := by decide +kernel
theorem dL_state_137 : decode cL_state 137 = .ok (.if_icmp .ge 22, 3) := by decide +kernel
theorem dL_state_140 : decode cL_state 140 = .ok (.lload_n 1, 1) := by decide +kernel
theorem dL_state_141 : decode cL_state 141 = .ok (.ldc2_w 28, 3) := by decide +kernel
theorem dL_state_144 : decode cL_state 144 = .ok (.lmul, 1) := by decide +kernel
theorem dL_state_145 : decode cL_state 145 = .ok (.aload_n 0, 1) := by decide +kernel
theorem dL_state_146 : decode cL_state 146 = .ok (.iload_n 3, 1) := by decide +kernel
theorem dL_state_147 : decode cL_state 147 = .ok (.invokevirtual 45, 3) := by decide +kernel
theorem dL_state_150 : decode cL_state 150 = .ok (.i2l, 1) := by decide +kernel
theorem dL_state_151 : decode cL_state 151 = .ok (.ladd, 1) := by decide +kernel
theorem dL_state_152 : decode cL_state 152 = .ok (.lstore_n 1, 1) := by decide +kernel
theorem dL_state_153 : decode cL_state 153 = .ok (.iinc 3 1, 3) := by decide +kernel
theorem dL_state_156 : decode cL_state 156 = .ok (.goto (-26), 3) := by decide +kernel
theorem dL_state_159 : decode cL_state 159 = .ok (.lload_n 1, 1) := by decide +kernel
theorem dL_state_160 : decode cL_state 160 = .ok (.lreturn, 1) := by decide +kernel
