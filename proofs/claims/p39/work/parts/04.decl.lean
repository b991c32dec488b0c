theorem dL_cell_0 : decode cL_cell 0 = .ok (.iload_n 1, 1) := by decide +kernel
theorem dL_cell_1 : decode cL_cell 1 = .ok (.aload_n 0, 1) := by decide +kernel
theorem dL_cell_2 : decode cL_cell 2 = .ok (.arraylength, 1) := by decide +kernel
theorem dL_cell_3 : decode cL_cell 3 = .ok (.if_icmp .ge 9, 3) := by decide +kernel
theorem dL_cell_6 : decode cL_cell 6 = .ok (.aload_n 0, 1) := by decide +kernel
theorem dL_cell_7 : decode cL_cell 7 = .ok (.iload_n 1, 1) := by decide +kernel
theorem dL_cell_8 : decode cL_cell 8 = .ok (.iaload, 1) := by decide +kernel
theorem dL_cell_9 : decode cL_cell 9 = .ok (.goto 9, 3) := by decide +kernel
theorem dL_cell_12 : decode cL_cell 12 = .ok (.ldc 7, 2) := by decide +kernel
theorem dL_cell_14 : decode cL_cell 14 = .ok (.iload_n 1, 1) := by decide +kernel
theorem dL_cell_15 : decode cL_cell 15 = .ok (.iconst 1, 1) := by decide +kernel
theorem dL_cell_16 : decode cL_cell 16 = .ok (.iadd, 1) := by decide +kernel
theorem dL_cell_17 : decode cL_cell 17 = .ok (.imul, 1) := by decide +kernel
theorem dL_cell_18 : decode cL_cell 18 = .ok (.ireturn, 1) := by decide +kernel
theorem dL_some_0 : decode cL_some 0 = .ok (.iload_n 0, 1) := by decide +kernel
theorem dL_some_1 : decode cL_some 1 = .ok (.ldc 8, 2) := by decide +kernel
theorem dL_some_3 : decode cL_some 3 = .ok (.iand, 1) := by decide +kernel
theorem dL_some_4 : decode cL_some 4 = .ok (.iload_n 1, 1) := by decide +kernel
theorem dL_some_5 : decode cL_some 5 = .ok (.irem, 1) := by decide +kernel
theorem dL_some_6 : decode cL_some 6 = .ok (.ireturn, 1) := by decide +kernel
theorem dL_put_0 : decode cL_put 0 = .ok (.aload_n 1, 1) := by decide +kernel
theorem dL_put_1 : decode cL_put 1 = .ok (.iload_n 2, 1) := by decide +kernel
theorem dL_put_2 : decode cL_put 2 = .ok (.invokestatic 9, 3) := by decide +kernel
theorem dL_put_5 : decode cL_put 5 = .ok (.istore 5, 2) := by decide +kernel
theorem dL_put_7 : decode cL_put 7 = .ok (.aload 4, 2) := by decide +kernel
theorem dL_put_9 : decode cL_put 9 = .ok (.iconst 0, 1) := by decide +kernel
theorem dL_put_10 : decode cL_put 10 = .ok (.iconst 2, 1) := by decide +kernel
theorem dL_put_11 : decode cL_put 11 = .ok (.iload 5, 2) := by decide +kernel
theorem dL_put_13 : decode cL_put 13 = .ok (.iload_n 3, 1) := by decide +kernel
theorem dL_put_14 : decode cL_put 14 = .ok (.iconst 1, 1) := by decide +kernel
theorem dL_put_15 : decode cL_put 15 = .ok (.isub, 1) := by decide +kernel
theorem dL_put_16 : decode cL_put 16 = .ok (.invokestatic 15, 3) := by decide +kernel
theorem dL_put_19 : decode cL_put 19 = .ok (.iadd, 1) := by decide +kernel
theorem dL_put_20 : decode cL_put 20 = .ok (.iastore, 1) := by decide +kernel
theorem dL_put_21 : decode cL_put 21 = .ok (.aload 4, 2) := by decide +kernel
theorem dL_put_23 : decode cL_put 23 = .ok (.iconst 1, 1) := by decide +kernel
theorem dL_put_24 : decode cL_put 24 = .ok (.iconst 1, 1) := by decide +kernel
theorem dL_put_25 : decode cL_put 25 = .ok (.iload 5, 2) := by decide +kernel
theorem dL_put_27 : decode cL_put 27 = .ok (.iconst 3, 1) := by decide +kernel
theorem dL_put_28 : decode cL_put 28 = .ok (.ishr, 1) := by decide +kernel
theorem dL_put_29 : decode cL_put 29 = .ok (.iconst 4, 1) := by decide +kernel
theorem dL_put_30 : decode cL_put 30 = .ok (.invokestatic 15, 3) := by decide +kernel
theorem dL_put_33 : decode cL_put 33 = .ok (.iadd, 1) := by decide +kernel
theorem dL_put_34 : decode cL_put 34 = .ok (.iastore, 1) := by decide +kernel
theorem dL_put_35 : decode cL_put 35 = .ok (.aload 4, 2) := by decide +kernel
theorem dL_put_37 : decode cL_put 37 = .ok (.bipush 37, 2) := by decide +kernel
theorem dL_put_39 : decode cL_put 39 = .ok (.iconst 0, 1) := by decide +kernel
theorem dL_put_40 : decode cL_put 40 = .ok (.iastore, 1) := by decide +kernel
theorem dL_put_41 : decode cL_put 41 = .ok (.aload 4, 2) := by decide +kernel
theorem dL_put_43 : decode cL_put 43 = .ok (.bipush 46, 2) := by decide +kernel
theorem dL_put_45 : decode cL_put 45 = .ok (.iconst 0, 1) := by decide +kernel
theorem dL_put_46 : decode cL_put 46 = .ok (.iastore, 1) := by decide +kernel
theorem dL_put_47 : decode cL_put 47 = .ok (.aload_n 0, 1) := by decide +kernel
theorem dL_put_48 : decode cL_put 48 = .ok (.iconst 0, 1) := by decide +kernel
theorem dL_put_49 : decode cL_put 49 = .ok (.iconst 0, 1) := by decide +kernel
theorem dL_put_50 : decode cL_put 50 = .ok (.bipush 80, 2) := by decide +kernel
theorem dL_put_52 : decode cL_put 52 = .ok (.invokevirtual 19, 3) := by decide +kernel
theorem dL_put_55 : decode cL_put 55 = .ok (.iconst 1, 1) := by decide +kernel
theorem dL_put_56 : decode cL_put 56 = .ok (.if_icmp .ne 32, 3) := by decide +kernel
theorem dL_put_59 : decode cL_put 59 = .ok (.aload_n 0, 1) := by decide +kernel
theorem dL_put_60 : decode cL_put 60 = .ok (.iconst 0, 1) := by decide +kernel
theorem dL_put_61 : decode cL_put 61 = .ok (.iconst 0, 1) := by decide +kernel
theorem dL_put_62 : decode cL_put 62 = .ok (.bipush 108, 2) := by decide +kernel
theorem dL_put_64 : decode cL_put 64 = .ok (.invokevirtual 25, 3) := by decide +kernel
theorem dL_put_67 : decode cL_put 67 = .ok (.iconst 1, 1) := by decide +kernel
theorem dL_put_68 : decode cL_put 68 = .ok (.if_icmp .ne 20, 3) := by decide +kernel
theorem dL_put_71 : decode cL_put 71 = .ok (.aload_n 0, 1) := by decide +kernel
theorem dL_put_72 : decode cL_put 72 = .ok (.iconst 0, 1) := by decide +kernel
theorem dL_put_73 : decode cL_put 73 = .ok (.iconst 1, 1) := by decide +kernel
theorem dL_put_74 : decode cL_put 74 = .ok (.bipush 48, 2) := by decide +kernel
theorem dL_put_76 : decode cL_put 76 = .ok (.aload 4, 2) := by decide +kernel
theorem dL_put_78 : decode cL_put 78 = .ok (.iconst 0, 1) := by decide +kernel
theorem dL_put_79 : decode cL_put 79 = .ok (.iaload, 1) := by decide +kernel
theorem dL_put_80 : decode cL_put 80 = .ok (.iadd, 1) := by decide +kernel
theorem dL_put_81 : decode cL_put 81 = .ok (.invokevirtual 25, 3) := by decide +kernel
theorem dL_put_84 : decode cL_put 84 = .ok (.iconst 1, 1) := by decide +kernel
theorem dL_put_85 : decode cL_put 85 = .ok (.if_icmp .eq 6, 3) := by decide +kernel
theorem dL_put_88 : decode cL_put 88 = .ok (.bipush (-99), 2) := by decide +kernel
theorem dL_put_90 : decode cL_put 90 = .ok (.ireturn, 1) := by decide +kernel
theorem dL_put_91 : decode cL_put 91 = .ok (.iconst 2, 1) := by decide +kernel
theorem dL_put_92 : decode cL_put 92 = .ok (.istore 6, 2) := by decide +kernel
theorem dL_put_94 : decode cL_put 94 = .ok (.iconst 0, 1) := by decide +kernel
theorem dL_put_95 : decode cL_put 95 = .ok (.istore 7, 2) := by decide +kernel
theorem dL_put_97 : decode cL_put 97 = .ok (.iload 7, 2) := by decide +kernel
theorem dL_put_99 : decode cL_put 99 = .ok (.aload 4, 2) := by decide +kernel
theorem dL_put_101 : decode cL_put 101 = .ok (.iconst 0, 1) := by decide +kernel
theorem dL_put_102 : decode cL_put 102 = .ok (.iaload, 1) := by decide +kernel
theorem dL_put_103 : decode cL_put 103 = .ok (.if_icmp .ge 75, 3) := by decide +kernel
theorem dL_put_106 : decode cL_put 106 = .ok (.aload 4, 2) := by decide +kernel
theorem dL_put_108 : decode cL_put 108 = .ok (.iconst 2, 1) := by decide +kernel
theorem dL_put_109 : decode cL_put 109 = .ok (.iload 7, 2) := by decide +kernel
theorem dL_put_111 : decode cL_put 111 = .ok (.iadd, 1) := by decide +kernel
theorem dL_put_112 : decode cL_put 112 = .ok (.iconst 1, 1) := by decide +kernel
theorem dL_put_113 : decode cL_put 113 = .ok (.iload 5, 2) := by decide +kernel
theorem dL_put_115 : decode cL_put 115 = .ok (.bipush 6, 2) := by decide +kernel
theorem dL_put_117 : decode cL_put 117 = .ok (.iconst 2, 1) := by decide +kernel
theorem dL_put_118 : decode cL_put 118 = .ok (.iload 7, 2) := by decide +kernel
theorem dL_put_120 : decode cL_put 120 = .ok (.imul, 1) := by decide +kernel
theorem dL_put_121 : decode cL_put 121 = .ok (.iadd, 1) := by decide +kernel
theorem dL_put_122 : decode cL_put 122 = .ok (.ishr, 1) := by decide +kernel
theorem dL_put_123 : decode cL_put 123 = .ok (.iload 5, 2) := by decide +kernel
theorem dL_put_125 : decode cL_put 125 = .ok (.iconst 5, 1) := by decide +kernel
theorem dL_put_126 : decode cL_put 126 = .ok (.ishr, 1) := by decide +kernel
theorem dL_put_127 : decode cL_put 127 = .ok (.iconst 2, 1) := by decide +kernel
theorem dL_put_128 : decode cL_put 128 = .ok (.invokestatic 15, 3) := by decide +kernel
theorem dL_put_131 : decode cL_put 131 = .ok (.ifCond .ne 8, 3) := by decide +kernel
theorem dL_put_134 : decode cL_put 134 = .ok (.bipush 9, 2) := by decide +kernel
theorem dL_put_136 : decode cL_put 136 = .ok (.goto 4, 3) := by decide +kernel
theorem dL_put_139 : decode cL_put 139 = .ok (.iconst 5, 1) := by decide +kernel
theorem dL_put_140 : decode cL_put 140 = .ok (.invokestatic 15, 3) := by decide +kernel
theorem dL_put_143 : decode cL_put 143 = .ok (.iadd, 1) := by decide +kernel
theorem dL_put_144 : decode cL_put 144 = .ok (.iastore, 1) := by decide +kernel
theorem dL_put_145 : decode cL_put 145 = .ok (.aload_n 0, 1) := by decide +kernel
theorem dL_put_146 : decode cL_put 146 = .ok (.iconst 0, 1) := by decide +kernel
theorem dL_put_147 : decode cL_put 147 = .ok (.iload 6, 2) := by decide +kernel
theorem dL_put_149 : decode cL_put 149 = .ok (.iinc 6 1, 3) := by decide +kernel
theorem dL_put_152 : decode cL_put 152 = .ok (.bipush 48, 2) := by decide +kernel
theorem dL_put_154 : decode cL_put 154 = .ok (.aload 4, 2) := by decide +kernel
theorem dL_put_156 : decode cL_put 156 = .ok (.iconst 2, 1) := by decide +kernel
theorem dL_put_157 : decode cL_put 157 = .ok (.iload 7, 2) := by decide +kernel
theorem dL_put_159 : decode cL_put 159 = .ok (.iadd, 1) := by decide +kernel
theorem dL_put_160 : decode cL_put 160 = .ok (.iaload, 1) := by decide +kernel
theorem dL_put_161 : decode cL_put 161 = .ok (.iadd, 1) := by decide +kernel
theorem dL_put_162 : decode cL_put 162 = .ok (.invokevirtual 25, 3) := by decide +kernel
theorem dL_put_165 : decode cL_put 165 = .ok (.iconst 1, 1) := by decide +kernel
theorem dL_put_166 : decode cL_put 166 = .ok (.if_icmp .eq 6, 3) := by decide +kernel
theorem dL_put_169 : decode cL_put 169 = .ok (.bipush (-99), 2) := by decide +kernel
theorem dL_put_171 : decode cL_put 171 = .ok (.ireturn, 1) := by decide +kernel
theorem dL_put_172 : decode cL_put 172 = .ok (.iinc 7 1, 3) := by decide +kernel
theorem dL_put_175 : decode cL_put 175 = .ok (.goto (-78), 3) := by decide +kernel
theorem dL_put_178 : decode cL_put 178 = .ok (.iconst 0, 1) := by decide +kernel
theorem dL_put_179 : decode cL_put 179 = .ok (.istore 7, 2) := by decide +kernel
theorem dL_put_181 : decode cL_put 181 = .ok (.iload 7, 2) := by decide +kernel
theorem dL_put_183 : decode cL_put 183 = .ok (.aload 4, 2) := by decide +kernel
theorem dL_put_185 : decode cL_put 185 = .ok (.iconst 1, 1) := by decide +kernel
theorem dL_put_186 : decode cL_put 186 = .ok (.iaload, 1) := by decide +kernel
theorem dL_put_187 : decode cL_put 187 = .ok (.if_icmp .ge 230, 3) := by decide +kernel
theorem dL_put_190 : decode cL_put 190 = .ok (.aload_n 1, 1) := by decide +kernel
theorem dL_put_191 : decode cL_put 191 = .ok (.iload_n 2, 1) := by decide +kernel
theorem dL_put_192 : decode cL_put 192 = .ok (.iconst 1, 1) := by decide +kernel
theorem dL_put_193 : decode cL_put 193 = .ok (.iadd, 1) := by decide +kernel
theorem dL_put_194 : decode cL_put 194 = .ok (.iload 7, 2) := by decide +kernel
theorem dL_put_196 : decode cL_put 196 = .ok (.iadd, 1) := by decide +kernel
theorem dL_put_197 : decode cL_put 197 = .ok (.invokestatic 9, 3) := by decide +kernel
theorem dL_put_200 : decode cL_put 200 = .ok (.istore 8, 2) := by decide +kernel
theorem dL_put_202 : decode cL_put 202 = .ok (.aload 4, 2) := by decide +kernel
theorem dL_put_204 : decode cL_put 204 = .ok (.bipush 9, 2) := by decide +kernel
theorem dL_put_206 : decode cL_put 206 = .ok (.iload 7, 2) := by decide +kernel
theorem dL_put_208 : decode cL_put 208 = .ok (.iadd, 1) := by decide +kernel
theorem dL_put_209 : decode cL_put 209 = .ok (.iconst 1, 1) := by decide +kernel
theorem dL_put_210 : decode cL_put 210 = .ok (.iload 8, 2) := by decide +kernel
theorem dL_put_212 : decode cL_put 212 = .ok (.iload 7, 2) := by decide +kernel
theorem dL_put_214 : decode cL_put 214 = .ok (.ifCond .ne 8, 3) := by decide +kernel
theorem dL_put_217 : decode cL_put 217 = .ok (.bipush 6, 2) := by decide +kernel
theorem dL_put_219 : decode cL_put 219 = .ok (.goto 4, 3) := by decide +kernel
theorem dL_put_222 : decode cL_put 222 = .ok (.iconst 5, 1) := by decide +kernel
theorem dL_put_223 : decode cL_put 223 = .ok (.invokestatic 15, 3) := by decide +kernel
theorem dL_put_226 : decode cL_put 226 = .ok (.iadd, 1) := by decide +kernel
theorem dL_put_227 : decode cL_put 227 = .ok (.iastore, 1) := by decide +kernel
theorem dL_put_228 : decode cL_put 228 = .ok (.iconst 0, 1) := by decide +kernel
theorem dL_put_229 : decode cL_put 229 = .ok (.istore 9, 2) := by decide +kernel
theorem dL_put_231 : decode cL_put 231 = .ok (.iload 9, 2) := by decide +kernel
theorem dL_put_233 : decode cL_put 233 = .ok (.aload 4, 2) := by decide +kernel
theorem dL_put_235 : decode cL_put 235 = .ok (.bipush 9, 2) := by decide +kernel
theorem dL_put_237 : decode cL_put 237 = .ok (.iload 7, 2) := by decide +kernel
theorem dL_put_239 : decode cL_put 239 = .ok (.iadd, 1) := by decide +kernel
theorem dL_put_240 : decode cL_put 240 = .ok (.iaload, 1) := by decide +kernel
theorem dL_put_241 : decode cL_put 241 = .ok (.if_icmp .ge 170, 3) := by decide +kernel
theorem dL_put_244 : decode cL_put 244 = .ok (.iconst 0, 1) := by decide +kernel
theorem dL_put_245 : decode cL_put 245 = .ok (.istore 10, 2) := by decide +kernel
theorem dL_put_247 : decode cL_put 247 = .ok (.iconst 0, 1) := by decide +kernel
theorem dL_put_248 : decode cL_put 248 = .ok (.istore 11, 2) := by decide +kernel
theorem dL_put_250 : decode cL_put 250 = .ok (.iload 11, 2) := by decide +kernel
theorem dL_put_252 : decode cL_put 252 = .ok (.iconst 2, 1) := by decide +kernel
theorem dL_put_253 : decode cL_put 253 = .ok (.if_icmp .ge 56, 3) := by decide +kernel
theorem dL_put_256 : decode cL_put 256 = .ok (.iload 8, 2) := by decide +kernel
theorem dL_put_258 : decode cL_put 258 = .ok (.iconst 2, 1) := by decide +kernel
theorem dL_put_259 : decode cL_put 259 = .ok (.iconst 3, 1) := by decide +kernel
theorem dL_put_260 : decode cL_put 260 = .ok (.iload 9, 2) := by decide +kernel
theorem dL_put_262 : decode cL_put 262 = .ok (.imul, 1) := by decide +kernel
theorem dL_put_263 : decode cL_put 263 = .ok (.iadd, 1) := by decide +kernel
theorem dL_put_264 : decode cL_put 264 = .ok (.iload 11, 2) := by decide +kernel
theorem dL_put_266 : decode cL_put 266 = .ok (.iadd, 1) := by decide +kernel
theorem dL_put_267 : decode cL_put 267 = .ok (.ishr, 1) := by decide +kernel
theorem dL_put_268 : decode cL_put 268 = .ok (.iconst 3, 1) := by decide +kernel
theorem dL_put_269 : decode cL_put 269 = .ok (.invokestatic 15, 3) := by decide +kernel
theorem dL_put_272 : decode cL_put 272 = .ok (.ifCond .le 31, 3) := by decide +kernel
theorem dL_put_275 : decode cL_put 275 = .ok (.iload 10, 2) := by decide +kernel
theorem dL_put_277 : decode cL_put 277 = .ok (.iconst 1, 1) := by decide +kernel
theorem dL_put_278 : decode cL_put 278 = .ok (.iload 8, 2) := by decide +kernel
theorem dL_put_280 : decode cL_put 280 = .ok (.iconst 1, 1) := by decide +kernel
theorem dL_put_281 : decode cL_put 281 = .ok (.iconst 3, 1) := by decide +kernel
theorem dL_put_282 : decode cL_put 282 = .ok (.iload 9, 2) := by decide +kernel
theorem dL_put_284 : decode cL_put 284 = .ok (.imul, 1) := by decide +kernel
theorem dL_put_285 : decode cL_put 285 = .ok (.iadd, 1) := by decide +kernel
theorem dL_put_286 : decode cL_put 286 = .ok (.iconst 2, 1) := by decide +kernel
theorem dL_put_287 : decode cL_put 287 = .ok (.iload 11, 2) := by decide +kernel
theorem dL_put_289 : decode cL_put 289 = .ok (.imul, 1) := by decide +kernel
theorem dL_put_290 : decode cL_put 290 = .ok (.iadd, 1) := by decide +kernel
theorem dL_put_291 : decode cL_put 291 = .ok (.ishr, 1) := by decide +kernel
theorem dL_put_292 : decode cL_put 292 = .ok (.aload 4, 2) := by decide +kernel
theorem dL_put_294 : decode cL_put 294 = .ok (.iconst 0, 1) := by decide +kernel
theorem dL_put_295 : decode cL_put 295 = .ok (.iaload, 1) := by decide +kernel
theorem dL_put_296 : decode cL_put 296 = .ok (.invokestatic 15, 3) := by decide +kernel
theorem dL_put_299 : decode cL_put 299 = .ok (.ishl, 1) := by decide +kernel
theorem dL_put_300 : decode cL_put 300 = .ok (.ior, 1) := by decide +kernel
theorem dL_put_301 : decode cL_put 301 = .ok (.istore 10, 2) := by decide +kernel
theorem dL_put_303 : decode cL_put 303 = .ok (.iinc 11 1, 3) := by decide +kernel
theorem dL_put_306 : decode cL_put 306 = .ok (.goto (-56), 3) := by decide +kernel
theorem dL_put_309 : decode cL_put 309 = .ok (.aload 4, 2) := by decide +kernel
theorem dL_put_311 : decode cL_put 311 = .ok (.bipush 13, 2) := by decide +kernel
theorem dL_put_313 : decode cL_put 313 = .ok (.bipush 6, 2) := by decide +kernel
theorem dL_put_315 : decode cL_put 315 = .ok (.iload 7, 2) := by decide +kernel
theorem dL_put_317 : decode cL_put 317 = .ok (.imul, 1) := by decide +kernel
theorem dL_put_318 : decode cL_put 318 = .ok (.iadd, 1) := by decide +kernel
theorem dL_put_319 : decode cL_put 319 = .ok (.iload 9, 2) := by decide +kernel
theorem dL_put_321 : decode cL_put 321 = .ok (.iadd, 1) := by decide +kernel
theorem dL_put_322 : decode cL_put 322 = .ok (.iload 10, 2) := by decide +kernel
theorem dL_put_324 : decode cL_put 324 = .ok (.iastore, 1) := by decide +kernel
theorem dL_put_325 : decode cL_put 325 = .ok (.aload_n 0, 1) := by decide +kernel
theorem dL_put_326 : decode cL_put 326 = .ok (.iconst 0, 1) := by decide +kernel
theorem dL_put_327 : decode cL_put 327 = .ok (.iload 6, 2) := by decide +kernel
theorem dL_put_329 : decode cL_put 329 = .ok (.iinc 6 1, 3) := by decide +kernel
theorem dL_put_332 : decode cL_put 332 = .ok (.iload 9, 2) := by decide +kernel
theorem dL_put_334 : decode cL_put 334 = .ok (.ifCond .ne 8, 3) := by decide +kernel
theorem dL_put_337 : decode cL_put 337 = .ok (.bipush 59, 2) := by decide +kernel
theorem dL_put_339 : decode cL_put 339 = .ok (.goto 5, 3) := by decide +kernel
theorem dL_put_342 : decode cL_put 342 = .ok (.bipush 44, 2) := by decide +kernel
theorem dL_put_344 : decode cL_put 344 = .ok (.invokevirtual 25, 3) := by decide +kernel
theorem dL_put_347 : decode cL_put 347 = .ok (.iconst 1, 1) := by decide +kernel
theorem dL_put_348 : decode cL_put 348 = .ok (.if_icmp .eq 6, 3) := by decide +kernel
theorem dL_put_351 : decode cL_put 351 = .ok (.bipush (-99), 2) := by decide +kernel
theorem dL_put_353 : decode cL_put 353 = .ok (.ireturn, 1) := by decide +kernel
theorem dL_put_354 : decode cL_put 354 = .ok (.iconst 0, 1) := by decide +kernel
theorem dL_put_355 : decode cL_put 355 = .ok (.istore 11, 2) := by decide +kernel
theorem dL_put_357 : decode cL_put 357 = .ok (.iload 11, 2) := by decide +kernel
theorem dL_put_359 : decode cL_put 359 = .ok (.aload 4, 2) := by decide +kernel
theorem dL_put_361 : decode cL_put 361 = .ok (.iconst 0, 1) := by decide +kernel
theorem dL_put_362 : decode cL_put 362 = .ok (.iaload, 1) := by decide +kernel
theorem dL_put_363 : decode cL_put 363 = .ok (.if_icmp .ge 42, 3) := by decide +kernel
theorem dL_put_366 : decode cL_put 366 = .ok (.iload 10, 2) := by decide +kernel
theorem dL_put_368 : decode cL_put 368 = .ok (.iload 11, 2) := by decide +kernel
theorem dL_put_370 : decode cL_put 370 = .ok (.ishr, 1) := by decide +kernel
theorem dL_put_371 : decode cL_put 371 = .ok (.iconst 1, 1) := by decide +kernel
theorem dL_put_372 : decode cL_put 372 = .ok (.iand, 1) := by decide +kernel
theorem dL_put_373 : decode cL_put 373 = .ok (.iconst 1, 1) := by decide +kernel
theorem dL_put_374 : decode cL_put 374 = .ok (.if_icmp .ne 25, 3) := by decide +kernel
theorem dL_put_377 : decode cL_put 377 = .ok (.aload_n 0, 1) := by decide +kernel
theorem dL_put_378 : decode cL_put 378 = .ok (.iconst 0, 1) := by decide +kernel
theorem dL_put_379 : decode cL_put 379 = .ok (.iload 6, 2) := by decide +kernel
theorem dL_put_381 : decode cL_put 381 = .ok (.iinc 6 1, 3) := by decide +kernel
theorem dL_put_384 : decode cL_put 384 = .ok (.bipush 48, 2) := by decide +kernel
theorem dL_put_386 : decode cL_put 386 = .ok (.iload 11, 2) := by decide +kernel
theorem dL_put_388 : decode cL_put 388 = .ok (.iadd, 1) := by decide +kernel
theorem dL_put_389 : decode cL_put 389 = .ok (.invokevirtual 25, 3) := by decide +kernel
theorem dL_put_392 : decode cL_put 392 = .ok (.iconst 1, 1) := by decide +kernel
theorem dL_put_393 : decode cL_put 393 = .ok (.if_icmp .eq 6, 3) := by decide +kernel
theorem dL_put_396 : decode cL_put 396 = .ok (.bipush (-99), 2) := by decide +kernel
theorem dL_put_398 : decode cL_put 398 = .ok (.ireturn, 1) := by decide +kernel
theorem dL_put_399 : decode cL_put 399 = .ok (.iinc 11 1, 3) := by decide +kernel
theorem dL_put_402 : decode cL_put 402 = .ok (.goto (-45), 3) := by decide +kernel
theorem dL_put_405 : decode cL_put 405 = .ok (.iinc 9 1, 3) := by decide +kernel
theorem dL_put_408 : decode cL_put 408 = .ok (.goto (-177), 3) := by decide +kernel
theorem dL_put_411 : decode cL_put 411 = .ok (.iinc 7 1, 3) := by decide +kernel
theorem dL_put_414 : decode cL_put 414 = .ok (.goto (-233), 3) := by decide +kernel
theorem dL_put_417 : decode cL_put 417 = .ok (.iload 6, 2) := by decide +kernel
theorem dL_put_419 : decode cL_put 419 = .ok (.ireturn, 1) := by decide +kernel
theorem dL_dancer_0 : decode cL_dancer 0 = .ok (.aload_n 2, 1) := by decide +kernel
theorem dL_dancer_1 : decode cL_dancer 1 = .ok (.bipush 37, 2) := by decide +kernel
theorem dL_dancer_3 : decode cL_dancer 3 = .ok (.iaload, 1) := by decide +kernel
theorem dL_dancer_4 : decode cL_dancer 4 = .ok (.istore_n 3, 1) := by decide +kernel
theorem dL_dancer_5 : decode cL_dancer 5 = .ok (.aload_n 2, 1) := by decide +kernel
theorem dL_dancer_6 : decode cL_dancer 6 = .ok (.bipush 38, 2) := by decide +kernel
theorem dL_dancer_8 : decode cL_dancer 8 = .ok (.iload_n 3, 1) := by decide +kernel
theorem dL_dancer_9 : decode cL_dancer 9 = .ok (.iadd, 1) := by decide +kernel
theorem dL_dancer_10 : decode cL_dancer 10 = .ok (.iload_n 1, 1) := by decide +kernel
theorem dL_dancer_11 : decode cL_dancer 11 = .ok (.iconst 3, 1) := by decide +kernel
theorem dL_dancer_12 : decode cL_dancer 12 = .ok (.invokestatic 15, 3) := by decide +kernel
theorem dL_dancer_15 : decode cL_dancer 15 = .ok (.iastore, 1) := by decide +kernel
theorem dL_dancer_16 : decode cL_dancer 16 = .ok (.aload_n 2, 1) := by decide +kernel
theorem dL_dancer_17 : decode cL_dancer 17 = .ok (.bipush 42, 2) := by decide +kernel
theorem dL_dancer_19 : decode cL_dancer 19 = .ok (.iload_n 3, 1) := by decide +kernel
theorem dL_dancer_20 : decode cL_dancer 20 = .ok (.iadd, 1) := by decide +kernel
theorem dL_dancer_21 : decode cL_dancer 21 = .ok (.iconst 1, 1) := by decide +kernel
theorem dL_dancer_22 : decode cL_dancer 22 = .ok (.iload_n 1, 1) := by decide +kernel
theorem dL_dancer_23 : decode cL_dancer 23 = .ok (.iconst 2, 1) := by decide +kernel
theorem dL_dancer_24 : decode cL_dancer 24 = .ok (.ishr, 1) := by decide +kernel
theorem dL_dancer_25 : decode cL_dancer 25 = .ok (.bipush 9, 2) := by decide +kernel
theorem dL_dancer_27 : decode cL_dancer 27 = .ok (.invokestatic 15, 3) := by decide +kernel
theorem dL_dancer_30 : decode cL_dancer 30 = .ok (.iadd, 1) := by decide +kernel
theorem dL_dancer_31 : decode cL_dancer 31 = .ok (.iastore, 1) := by decide +kernel
theorem dL_dancer_32 : decode cL_dancer 32 = .ok (.aload_n 2, 1) := by decide +kernel
theorem dL_dancer_33 : decode cL_dancer 33 = .ok (.bipush 37, 2) := by decide +kernel
theorem dL_dancer_35 : decode cL_dancer 35 = .ok (.dup2, 1) := by decide +kernel
theorem dL_dancer_36 : decode cL_dancer 36 = .ok (.iaload, 1) := by decide +kernel
theorem dL_dancer_37 : decode cL_dancer 37 = .ok (.iconst 1, 1) := by decide +kernel
theorem dL_dancer_38 : decode cL_dancer 38 = .ok (.iadd, 1) := by decide +kernel
theorem dL_dancer_39 : decode cL_dancer 39 = .ok (.iastore, 1) := by decide +kernel
theorem dL_dancer_40 : decode cL_dancer 40 = .ok (.aload_n 0, 1) := by decide +kernel
theorem dL_dancer_41 : decode cL_dancer 41 = .ok (.aload_n 2, 1) := by decide +kernel
theorem dL_dancer_42 : decode cL_dancer 42 = .ok (.bipush 38, 2) := by decide +kernel
theorem dL_dancer_44 : decode cL_dancer 44 = .ok (.iload_n 3, 1) := by decide +kernel
theorem dL_dancer_45 : decode cL_dancer 45 = .ok (.iadd, 1) := by decide +kernel
theorem dL_dancer_46 : decode cL_dancer 46 = .ok (.iaload, 1) := by decide +kernel
theorem dL_dancer_47 : decode cL_dancer 47 = .ok (.aload_n 2, 1) := by decide +kernel
theorem dL_dancer_48 : decode cL_dancer 48 = .ok (.bipush 42, 2) := by decide +kernel
theorem dL_dancer_50 : decode cL_dancer 50 = .ok (.iload_n 3, 1) := by decide +kernel
theorem dL_dancer_51 : decode cL_dancer 51 = .ok (.iadd, 1) := by decide +kernel
theorem dL_dancer_52 : decode cL_dancer 52 = .ok (.iaload, 1) := by decide +kernel
theorem dL_dancer_53 : decode cL_dancer 53 = .ok (.invokevirtual 28, 3) := by decide +kernel
theorem dL_dancer_56 : decode cL_dancer 56 = .ok (.iload_n 3, 1) := by decide +kernel
theorem dL_dancer_57 : decode cL_dancer 57 = .ok (.if_icmp .ne 7, 3) := by decide +kernel
theorem dL_dancer_60 : decode cL_dancer 60 = .ok (.iconst 1, 1) := by decide +kernel
theorem dL_dancer_61 : decode cL_dancer 61 = .ok (.goto 4, 3) := by decide +kernel
theorem dL_dancer_64 : decode cL_dancer 64 = .ok (.iconst 0, 1) := by decide +kernel
theorem dL_dancer_65 : decode cL_dancer 65 = .ok (.ireturn, 1) := by decide +kernel
theorem dL_felt_0 : decode cL_felt 0 = .ok (.iconst 0, 1) := by decide +kernel
theorem dL_felt_1 : decode cL_felt 1 = .ok (.istore 4, 2) := by decide +kernel
theorem dL_felt_3 : decode cL_felt 3 = .ok (.iconst 0, 1) := by decide +kernel
theorem dL_felt_4 : decode cL_felt 4 = .ok (.istore 5, 2) := by decide +kernel
theorem dL_felt_6 : decode cL_felt 6 = .ok (.iload 5, 2) := by decide +kernel
theorem dL_felt_8 : decode cL_felt 8 = .ok (.aload_n 0, 1) := by decide +kernel
theorem dL_felt_9 : decode cL_felt 9 = .ok (.iconst 0, 1) := by decide +kernel
theorem dL_felt_10 : decode cL_felt 10 = .ok (.iaload, 1) := by decide +kernel
theorem dL_felt_11 : decode cL_felt 11 = .ok (.if_icmp .ge 139, 3) := by decide +kernel
theorem dL_felt_14 : decode cL_felt 14 = .ok (.iconst 0, 1) := by decide +kernel
theorem dL_felt_15 : decode cL_felt 15 = .ok (.istore 6, 2) := by decide +kernel
theorem dL_felt_17 : decode cL_felt 17 = .ok (.iconst 0, 1) := by decide +kernel
theorem dL_felt_18 : decode cL_felt 18 = .ok (.istore 7, 2) := by decide +kernel
theorem dL_felt_20 : decode cL_felt 20 = .ok (.iload 7, 2) := by decide +kernel
theorem dL_felt_22 : decode cL_felt 22 = .ok (.aload_n 0, 1) := by decide +kernel
theorem dL_felt_23 : decode cL_felt 23 = .ok (.bipush 37, 2) := by decide +kernel
theorem dL_felt_25 : decode cL_felt 25 = .ok (.iaload, 1) := by decide +kernel
theorem dL_felt_26 : decode cL_felt 26 = .ok (.if_icmp .ge 98, 3) := by decide +kernel
theorem dL_felt_29 : decode cL_felt 29 = .ok (.iload_n 3, 1) := by decide +kernel
theorem dL_felt_30 : decode cL_felt 30 = .ok (.ifCond .ne 26, 3) := by decide +kernel
theorem dL_felt_33 : decode cL_felt 33 = .ok (.aload_n 0, 1) := by decide +kernel
theorem dL_felt_34 : decode cL_felt 34 = .ok (.bipush 38, 2) := by decide +kernel
theorem dL_felt_36 : decode cL_felt 36 = .ok (.iload 7, 2) := by decide +kernel
theorem dL_felt_38 : decode cL_felt 38 = .ok (.iadd, 1) := by decide +kernel
theorem dL_felt_39 : decode cL_felt 39 = .ok (.iaload, 1) := by decide +kernel
theorem dL_felt_40 : decode cL_felt 40 = .ok (.ifCond .le 16, 3) := by decide +kernel
theorem dL_felt_43 : decode cL_felt 43 = .ok (.iload_n 2, 1) := by decide +kernel
theorem dL_felt_44 : decode cL_felt 44 = .ok (.iconst 2, 1) := by decide +kernel
theorem dL_felt_45 : decode cL_felt 45 = .ok (.irem, 1) := by decide +kernel
theorem dL_felt_46 : decode cL_felt 46 = .ok (.iconst 1, 1) := by decide +kernel
theorem dL_felt_47 : decode cL_felt 47 = .ok (.if_icmp .ne 9, 3) := by decide +kernel
theorem dL_felt_50 : decode cL_felt 50 = .ok (.iload_n 2, 1) := by decide +kernel
theorem dL_felt_51 : decode cL_felt 51 = .ok (.iconst 1, 1) := by decide +kernel
theorem dL_felt_52 : decode cL_felt 52 = .ok (.isub, 1) := by decide +kernel
theorem dL_felt_53 : decode cL_felt 53 = .ok (.goto 4, 3) := by decide +kernel
theorem dL_felt_56 : decode cL_felt 56 = .ok (.iload_n 2, 1) := by decide +kernel
theorem dL_felt_57 : decode cL_felt 57 = .ok (.istore 8, 2) := by decide +kernel
theorem dL_felt_59 : decode cL_felt 59 = .ok (.aload_n 1, 1) := by decide +kernel
theorem dL_felt_60 : decode cL_felt 60 = .ok (.aload_n 0, 1) := by decide +kernel
theorem dL_felt_61 : decode cL_felt 61 = .ok (.bipush 37, 2) := by decide +kernel
theorem dL_felt_63 : decode cL_felt 63 = .ok (.iaload, 1) := by decide +kernel
theorem dL_felt_64 : decode cL_felt 64 = .ok (.iload 8, 2) := by decide +kernel
theorem dL_felt_66 : decode cL_felt 66 = .ok (.imul, 1) := by decide +kernel
theorem dL_felt_67 : decode cL_felt 67 = .ok (.iload 7, 2) := by decide +kernel
theorem dL_felt_69 : decode cL_felt 69 = .ok (.iadd, 1) := by decide +kernel
theorem dL_felt_70 : decode cL_felt 70 = .ok (.iaload, 1) := by decide +kernel
theorem dL_felt_71 : decode cL_felt 71 = .ok (.iload 5, 2) := by decide +kernel
theorem dL_felt_73 : decode cL_felt 73 = .ok (.if_icmp .eq 6, 3) := by decide +kernel
theorem dL_felt_76 : decode cL_felt 76 = .ok (.goto 42, 3) := by decide +kernel
theorem dL_felt_79 : decode cL_felt 79 = .ok (.iload 6, 2) := by decide +kernel
theorem dL_felt_81 : decode cL_felt 81 = .ok (.iload_n 3, 1) := by decide +kernel
theorem dL_felt_82 : decode cL_felt 82 = .ok (.ifCond .ne 26, 3) := by decide +kernel
theorem dL_felt_85 : decode cL_felt 85 = .ok (.aload_n 0, 1) := by decide +kernel
theorem dL_felt_86 : decode cL_felt 86 = .ok (.bipush 38, 2) := by decide +kernel
theorem dL_felt_88 : decode cL_felt 88 = .ok (.iload 7, 2) := by decide +kernel
theorem dL_felt_90 : decode cL_felt 90 = .ok (.iadd, 1) := by decide +kernel
theorem dL_felt_91 : decode cL_felt 91 = .ok (.iaload, 1) := by decide +kernel
theorem dL_felt_92 : decode cL_felt 92 = .ok (.iconst 2, 1) := by decide +kernel
theorem dL_felt_93 : decode cL_felt 93 = .ok (.if_icmp .ne 15, 3) := by decide +kernel
theorem dL_felt_96 : decode cL_felt 96 = .ok (.aload_n 0, 1) := by decide +kernel
theorem dL_felt_97 : decode cL_felt 97 = .ok (.bipush 42, 2) := by decide +kernel
theorem dL_felt_99 : decode cL_felt 99 = .ok (.iload 7, 2) := by decide +kernel
theorem dL_felt_101 : decode cL_felt 101 = .ok (.iadd, 1) := by decide +kernel
theorem dL_felt_102 : decode cL_felt 102 = .ok (.iaload, 1) := by decide +kernel
theorem dL_felt_103 : decode cL_felt 103 = .ok (.iconst 2, 1) := by decide +kernel
theorem dL_felt_104 : decode cL_felt 104 = .ok (.idiv, 1) := by decide +kernel
theorem dL_felt_105 : decode cL_felt 105 = .ok (.goto 10, 3) := by decide +kernel
theorem dL_felt_108 : decode cL_felt 108 = .ok (.aload_n 0, 1) := by decide +kernel
theorem dL_felt_109 : decode cL_felt 109 = .ok (.bipush 42, 2) := by decide +kernel
theorem dL_felt_111 : decode cL_felt 111 = .ok (.iload 7, 2) := by decide +kernel
theorem dL_felt_113 : decode cL_felt 113 = .ok (.iadd, 1) := by decide +kernel
theorem dL_felt_114 : decode cL_felt 114 = .ok (.iaload, 1) := by decide +kernel
theorem dL_felt_115 : decode cL_felt 115 = .ok (.iadd, 1) := by decide +kernel
theorem dL_felt_116 : decode cL_felt 116 = .ok (.istore 6, 2) := by decide +kernel
theorem dL_felt_118 : decode cL_felt 118 = .ok (.iinc 7 1, 3) := by decide +kernel
theorem dL_felt_121 : decode cL_felt 121 = .ok (.goto (-101), 3) := by decide +kernel
theorem dL_felt_124 : decode cL_felt 124 = .ok (.iload 6, 2) := by decide +kernel
theorem dL_felt_126 : decode cL_felt 126 = .ok (.aload_n 0, 1) := by decide +kernel
theorem dL_felt_127 : decode cL_felt 127 = .ok (.iconst 2, 1) := by decide +kernel
theorem dL_felt_128 : decode cL_felt 128 = .ok (.iload 5, 2) := by decide +kernel
theorem dL_felt_130 : decode cL_felt 130 = .ok (.iadd, 1) := by decide +kernel
theorem dL_felt_131 : decode cL_felt 131 = .ok (.iaload, 1) := by decide +kernel
theorem dL_felt_132 : decode cL_felt 132 = .ok (.if_icmp .lt 12, 3) := by decide +kernel
theorem dL_felt_135 : decode cL_felt 135 = .ok (.iload 4, 2) := by decide +kernel
theorem dL_felt_137 : decode cL_felt 137 = .ok (.iconst 1, 1) := by decide +kernel
theorem dL_felt_138 : decode cL_felt 138 = .ok (.iload 5, 2) := by decide +kernel
theorem dL_felt_140 : decode cL_felt 140 = .ok (.ishl, 1) := by decide +kernel
theorem dL_felt_141 : decode cL_felt 141 = .ok (.ior, 1) := by decide +kernel
theorem dL_felt_142 : decode cL_felt 142 = .ok (.istore 4, 2) := by decide +kernel
theorem dL_felt_144 : decode cL_felt 144 = .ok (.iinc 5 1, 3) := by decide +kernel
theorem dL_felt_147 : decode cL_felt 147 = .ok (.goto (-141), 3) := by decide +kernel
theorem dL_felt_150 : decode cL_felt 150 = .ok (.iload 4, 2) := by decide +kernel
theorem dL_felt_152 : decode cL_felt 152 = .ok (.ireturn, 1) := by decide +kernel
theorem dL_opened_0 : decode cL_opened 0 = .ok (.bipush (-9), 2) := by decide +kernel
theorem dL_opened_2 : decode cL_opened 2 = .ok (.istore_n 3, 1) := by decide +kernel
theorem dL_opened_3 : decode cL_opened 3 = .ok (.aload_n 0, 1) := by decide +kernel
theorem dL_opened_4 : decode cL_opened 4 = .ok (.iconst 1, 1) := by decide +kernel
theorem dL_opened_5 : decode cL_opened 5 = .ok (.iaload, 1) := by decide +kernel
theorem dL_opened_6 : decode cL_opened 6 = .ok (.iconst 1, 1) := by decide +kernel
theorem dL_opened_7 : decode cL_opened 7 = .ok (.isub, 1) := by decide +kernel
theorem dL_opened_8 : decode cL_opened 8 = .ok (.istore 4, 2) := by decide +kernel
theorem dL_opened_10 : decode cL_opened 10 = .ok (.iload 4, 2) := by decide +kernel
theorem dL_opened_12 : decode cL_opened 12 = .ok (.ifCond .lt 86, 3) := by decide +kernel
theorem dL_opened_15 : decode cL_opened 15 = .ok (.aload_n 0, 1) := by decide +kernel
theorem dL_opened_16 : decode cL_opened 16 = .ok (.bipush 9, 2) := by decide +kernel
theorem dL_opened_18 : decode cL_opened 18 = .ok (.iload 4, 2) := by decide +kernel
theorem dL_opened_20 : decode cL_opened 20 = .ok (.iadd, 1) := by decide +kernel
theorem dL_opened_21 : decode cL_opened 21 = .ok (.iaload, 1) := by decide +kernel
theorem dL_opened_22 : decode cL_opened 22 = .ok (.iload_n 2, 1) := by decide +kernel
theorem dL_opened_23 : decode cL_opened 23 = .ok (.if_icmp .ne 7, 3) := by decide +kernel
theorem dL_opened_26 : decode cL_opened 26 = .ok (.iconst 1, 1) := by decide +kernel
theorem dL_opened_27 : decode cL_opened 27 = .ok (.goto 4, 3) := by decide +kernel
theorem dL_opened_30 : decode cL_opened 30 = .ok (.iconst 0, 1) := by decide +kernel
theorem dL_opened_31 : decode cL_opened 31 = .ok (.istore 5, 2) := by decide +kernel
theorem dL_opened_33 : decode cL_opened 33 = .ok (.iconst 0, 1) := by decide +kernel
theorem dL_opened_34 : decode cL_opened 34 = .ok (.istore 6, 2) := by decide +kernel
theorem dL_opened_36 : decode cL_opened 36 = .ok (.iload 6, 2) := by decide +kernel
theorem dL_opened_38 : decode cL_opened 38 = .ok (.iload_n 2, 1) := by decide +kernel
theorem dL_opened_39 : decode cL_opened 39 = .ok (.if_icmp .ge 45, 3) := by decide +kernel
theorem dL_opened_42 : decode cL_opened 42 = .ok (.iload 5, 2) := by decide +kernel
theorem dL_opened_44 : decode cL_opened 44 = .ok (.ifCond .eq 40, 3) := by decide +kernel
theorem dL_opened_47 : decode cL_opened 47 = .ok (.aload_n 0, 1) := by decide +kernel
theorem dL_opened_48 : decode cL_opened 48 = .ok (.aload_n 1, 1) := by decide +kernel
theorem dL_opened_49 : decode cL_opened 49 = .ok (.iload 6, 2) := by decide +kernel
theorem dL_opened_51 : decode cL_opened 51 = .ok (.iconst 0, 1) := by decide +kernel
theorem dL_opened_52 : decode cL_opened 52 = .ok (.invokestatic 31, 3) := by decide +kernel
theorem dL_opened_55 : decode cL_opened 55 = .ok (.aload_n 0, 1) := by decide +kernel
theorem dL_opened_56 : decode cL_opened 56 = .ok (.bipush 13, 2) := by decide +kernel
theorem dL_opened_58 : decode cL_opened 58 = .ok (.bipush 6, 2) := by decide +kernel
theorem dL_opened_60 : decode cL_opened 60 = .ok (.iload 4, 2) := by decide +kernel
theorem dL_opened_62 : decode cL_opened 62 = .ok (.imul, 1) := by decide +kernel
theorem dL_opened_63 : decode cL_opened 63 = .ok (.iadd, 1) := by decide +kernel
theorem dL_opened_64 : decode cL_opened 64 = .ok (.iload 6, 2) := by decide +kernel
theorem dL_opened_66 : decode cL_opened 66 = .ok (.iadd, 1) := by decide +kernel
theorem dL_opened_67 : decode cL_opened 67 = .ok (.iaload, 1) := by decide +kernel
theorem dL_opened_68 : decode cL_opened 68 = .ok (.if_icmp .ne 7, 3) := by decide +kernel
theorem dL_opened_71 : decode cL_opened 71 = .ok (.iconst 1, 1) := by decide +kernel
theorem dL_opened_72 : decode cL_opened 72 = .ok (.goto 4, 3) := by decide +kernel
theorem dL_opened_75 : decode cL_opened 75 = .ok (.iconst 0, 1) := by decide +kernel
theorem dL_opened_76 : decode cL_opened 76 = .ok (.istore 5, 2) := by decide +kernel
theorem dL_opened_78 : decode cL_opened 78 = .ok (.iinc 6 1, 3) := by decide +kernel
theorem dL_opened_81 : decode cL_opened 81 = .ok (.goto (-45), 3) := by decide +kernel
theorem dL_opened_84 : decode cL_opened 84 = .ok (.iload 5, 2) := by decide +kernel
theorem dL_opened_86 : decode cL_opened 86 = .ok (.ifCond .eq 6, 3) := by decide +kernel
theorem dL_opened_89 : decode cL_opened 89 = .ok (.iload 4, 2) := by decide +kernel
theorem dL_opened_91 : decode cL_opened 91 = .ok (.istore_n 3, 1) := by decide +kernel
theorem dL_opened_92 : decode cL_opened 92 = .ok (.iinc 4 (-1), 3) := by decide +kernel
theorem dL_opened_95 : decode cL_opened 95 = .ok (.goto (-85), 3) := by decide +kernel
theorem dL_opened_98 : decode cL_opened 98 = .ok (.iload_n 3, 1) := by decide +kernel
theorem dL_opened_99 : decode cL_opened 99 = .ok (.ireturn, 1) := by decide +kernel
