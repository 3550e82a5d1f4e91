theorem dX12_write_0 : decode cX12_write 0 = .ok (.aload_n 0, 1) := by decide +kernel
theorem dX12_write_1 : decode cX12_write 1 = .ok (.invokevirtual 260, 3) := by decide +kernel
theorem dX12_write_4 : decode cX12_write 4 = .ok (.aload_n 0, 1) := by decide +kernel
theorem dX12_write_5 : decode cX12_write 5 = .ok (.iconst 0, 1) := by decide +kernel
theorem dX12_write_6 : decode cX12_write 6 = .ok (.putfield 232, 3) := by decide +kernel
theorem dX12_write_9 : decode cX12_write 9 = .ok (.aload_n 0, 1) := by decide +kernel
theorem dX12_write_10 : decode cX12_write 10 = .ok (.iconst 0, 1) := by decide +kernel
theorem dX12_write_11 : decode cX12_write 11 = .ok (.invokevirtual 235, 3) := by decide +kernel
theorem dX12_write_14 : decode cX12_write 14 = .ok (.aload_n 0, 1) := by decide +kernel
theorem dX12_write_15 : decode cX12_write 15 = .ok (.bipush 97, 2) := by decide +kernel
theorem dX12_write_17 : decode cX12_write 17 = .ok (.invokevirtual 235, 3) := by decide +kernel
theorem dX12_write_20 : decode cX12_write 20 = .ok (.aload_n 0, 1) := by decide +kernel
theorem dX12_write_21 : decode cX12_write 21 = .ok (.bipush 115, 2) := by decide +kernel
theorem dX12_write_23 : decode cX12_write 23 = .ok (.invokevirtual 235, 3) := by decide +kernel
theorem dX12_write_26 : decode cX12_write 26 = .ok (.aload_n 0, 1) := by decide +kernel
theorem dX12_write_27 : decode cX12_write 27 = .ok (.bipush 109, 2) := by decide +kernel
theorem dX12_write_29 : decode cX12_write 29 = .ok (.invokevirtual 235, 3) := by decide +kernel
theorem dX12_write_32 : decode cX12_write 32 = .ok (.aload_n 0, 1) := by decide +kernel
theorem dX12_write_33 : decode cX12_write 33 = .ok (.iconst 1, 1) := by decide +kernel
theorem dX12_write_34 : decode cX12_write 34 = .ok (.invokevirtual 235, 3) := by decide +kernel
theorem dX12_write_37 : decode cX12_write 37 = .ok (.aload_n 0, 1) := by decide +kernel
theorem dX12_write_38 : decode cX12_write 38 = .ok (.iconst 0, 1) := by decide +kernel
theorem dX12_write_39 : decode cX12_write 39 = .ok (.invokevirtual 235, 3) := by decide +kernel
theorem dX12_write_42 : decode cX12_write 42 = .ok (.aload_n 0, 1) := by decide +kernel
theorem dX12_write_43 : decode cX12_write 43 = .ok (.iconst 0, 1) := by decide +kernel
theorem dX12_write_44 : decode cX12_write 44 = .ok (.invokevirtual 235, 3) := by decide +kernel
theorem dX12_write_47 : decode cX12_write 47 = .ok (.aload_n 0, 1) := by decide +kernel
theorem dX12_write_48 : decode cX12_write 48 = .ok (.iconst 0, 1) := by decide +kernel
theorem dX12_write_49 : decode cX12_write 49 = .ok (.invokevirtual 235, 3) := by decide +kernel
theorem dX12_write_52 : decode cX12_write 52 = .ok (.aload_n 0, 1) := by decide +kernel
theorem dX12_write_53 : decode cX12_write 53 = .ok (.iconst 1, 1) := by decide +kernel
theorem dX12_write_54 : decode cX12_write 54 = .ok (.invokevirtual 263, 3) := by decide +kernel
theorem dX12_write_57 : decode cX12_write 57 = .ok (.istore_n 1, 1) := by decide +kernel
theorem dX12_write_58 : decode cX12_write 58 = .ok (.aload_n 0, 1) := by decide +kernel
theorem dX12_write_59 : decode cX12_write 59 = .ok (.aload_n 0, 1) := by decide +kernel
theorem dX12_write_60 : decode cX12_write 60 = .ok (.getfield 248, 3) := by decide +kernel
theorem dX12_write_63 : decode cX12_write 63 = .ok (.invokevirtual 245, 3) := by decide +kernel
theorem dX12_write_66 : decode cX12_write 66 = .ok (.iconst 0, 1) := by decide +kernel
theorem dX12_write_67 : decode cX12_write 67 = .ok (.istore_n 2, 1) := by decide +kernel
theorem dX12_write_68 : decode cX12_write 68 = .ok (.iload_n 2, 1) := by decide +kernel
theorem dX12_write_69 : decode cX12_write 69 = .ok (.aload_n 0, 1) := by decide +kernel
theorem dX12_write_70 : decode cX12_write 70 = .ok (.getfield 248, 3) := by decide +kernel
theorem dX12_write_73 : decode cX12_write 73 = .ok (.if_icmp .ge 91, 3) := by decide +kernel
theorem dX12_write_76 : decode cX12_write 76 = .ok (.aload_n 0, 1) := by decide +kernel
theorem dX12_write_77 : decode cX12_write 77 = .ok (.bipush 96, 2) := by decide +kernel
theorem dX12_write_79 : decode cX12_write 79 = .ok (.invokevirtual 235, 3) := by decide +kernel
theorem dX12_write_82 : decode cX12_write 82 = .ok (.aload_n 0, 1) := by decide +kernel
theorem dX12_write_83 : decode cX12_write 83 = .ok (.aload_n 0, 1) := by decide +kernel
theorem dX12_write_84 : decode cX12_write 84 = .ok (.getfield 73, 3) := by decide +kernel
theorem dX12_write_87 : decode cX12_write 87 = .ok (.iload_n 2, 1) := by decide +kernel
theorem dX12_write_88 : decode cX12_write 88 = .ok (.iaload, 1) := by decide +kernel
theorem dX12_write_89 : decode cX12_write 89 = .ok (.iconst 2, 1) := by decide +kernel
theorem dX12_write_90 : decode cX12_write 90 = .ok (.idiv, 1) := by decide +kernel
theorem dX12_write_91 : decode cX12_write 91 = .ok (.invokevirtual 235, 3) := by decide +kernel
theorem dX12_write_94 : decode cX12_write 94 = .ok (.iconst 0, 1) := by decide +kernel
theorem dX12_write_95 : decode cX12_write 95 = .ok (.istore_n 3, 1) := by decide +kernel
theorem dX12_write_96 : decode cX12_write 96 = .ok (.iload_n 3, 1) := by decide +kernel
theorem dX12_write_97 : decode cX12_write 97 = .ok (.aload_n 0, 1) := by decide +kernel
theorem dX12_write_98 : decode cX12_write 98 = .ok (.getfield 73, 3) := by decide +kernel
theorem dX12_write_101 : decode cX12_write 101 = .ok (.iload_n 2, 1) := by decide +kernel
theorem dX12_write_102 : decode cX12_write 102 = .ok (.iaload, 1) := by decide +kernel
theorem dX12_write_103 : decode cX12_write 103 = .ok (.iconst 2, 1) := by decide +kernel
theorem dX12_write_104 : decode cX12_write 104 = .ok (.idiv, 1) := by decide +kernel
theorem dX12_write_105 : decode cX12_write 105 = .ok (.if_icmp .ge 15, 3) := by decide +kernel
theorem dX12_write_108 : decode cX12_write 108 = .ok (.aload_n 0, 1) := by decide +kernel
theorem dX12_write_109 : decode cX12_write 109 = .ok (.bipush 126, 2) := by decide +kernel
theorem dX12_write_111 : decode cX12_write 111 = .ok (.invokevirtual 235, 3) := by decide +kernel
theorem dX12_write_114 : decode cX12_write 114 = .ok (.iinc 3 1, 3) := by decide +kernel
theorem dX12_write_117 : decode cX12_write 117 = .ok (.goto (-21), 3) := by decide +kernel
theorem dX12_write_120 : decode cX12_write 120 = .ok (.aload_n 0, 1) := by decide +kernel
theorem dX12_write_121 : decode cX12_write 121 = .ok (.aload_n 0, 1) := by decide +kernel
theorem dX12_write_122 : decode cX12_write 122 = .ok (.getfield 73, 3) := by decide +kernel
theorem dX12_write_125 : decode cX12_write 125 = .ok (.iload_n 2, 1) := by decide +kernel
theorem dX12_write_126 : decode cX12_write 126 = .ok (.iaload, 1) := by decide +kernel
theorem dX12_write_127 : decode cX12_write 127 = .ok (.iconst 2, 1) := by decide +kernel
theorem dX12_write_128 : decode cX12_write 128 = .ok (.irem, 1) := by decide +kernel
theorem dX12_write_129 : decode cX12_write 129 = .ok (.invokevirtual 235, 3) := by decide +kernel
theorem dX12_write_132 : decode cX12_write 132 = .ok (.iconst 0, 1) := by decide +kernel
theorem dX12_write_133 : decode cX12_write 133 = .ok (.istore_n 3, 1) := by decide +kernel
theorem dX12_write_134 : decode cX12_write 134 = .ok (.iload_n 3, 1) := by decide +kernel
theorem dX12_write_135 : decode cX12_write 135 = .ok (.aload_n 0, 1) := by decide +kernel
theorem dX12_write_136 : decode cX12_write 136 = .ok (.getfield 73, 3) := by decide +kernel
theorem dX12_write_139 : decode cX12_write 139 = .ok (.iload_n 2, 1) := by decide +kernel
theorem dX12_write_140 : decode cX12_write 140 = .ok (.iaload, 1) := by decide +kernel
theorem dX12_write_141 : decode cX12_write 141 = .ok (.iconst 2, 1) := by decide +kernel
theorem dX12_write_142 : decode cX12_write 142 = .ok (.irem, 1) := by decide +kernel
theorem dX12_write_143 : decode cX12_write 143 = .ok (.if_icmp .ge 15, 3) := by decide +kernel
theorem dX12_write_146 : decode cX12_write 146 = .ok (.aload_n 0, 1) := by decide +kernel
theorem dX12_write_147 : decode cX12_write 147 = .ok (.bipush 126, 2) := by decide +kernel
theorem dX12_write_149 : decode cX12_write 149 = .ok (.invokevirtual 235, 3) := by decide +kernel
theorem dX12_write_152 : decode cX12_write 152 = .ok (.iinc 3 1, 3) := by decide +kernel
theorem dX12_write_155 : decode cX12_write 155 = .ok (.goto (-21), 3) := by decide +kernel
theorem dX12_write_158 : decode cX12_write 158 = .ok (.iinc 2 1, 3) := by decide +kernel
theorem dX12_write_161 : decode cX12_write 161 = .ok (.goto (-93), 3) := by decide +kernel
theorem dX12_write_164 : decode cX12_write 164 = .ok (.aload_n 0, 1) := by decide +kernel
theorem dX12_write_165 : decode cX12_write 165 = .ok (.iload_n 1, 1) := by decide +kernel
theorem dX12_write_166 : decode cX12_write 166 = .ok (.invokevirtual 266, 3) := by decide +kernel
theorem dX12_write_169 : decode cX12_write 169 = .ok (.aload_n 0, 1) := by decide +kernel
theorem dX12_write_170 : decode cX12_write 170 = .ok (.iconst 3, 1) := by decide +kernel
theorem dX12_write_171 : decode cX12_write 171 = .ok (.invokevirtual 263, 3) := by decide +kernel
theorem dX12_write_174 : decode cX12_write 174 = .ok (.istore_n 1, 1) := by decide +kernel
theorem dX12_write_175 : decode cX12_write 175 = .ok (.aload_n 0, 1) := by decide +kernel
theorem dX12_write_176 : decode cX12_write 176 = .ok (.aload_n 0, 1) := by decide +kernel
theorem dX12_write_177 : decode cX12_write 177 = .ok (.invokevirtual 269, 3) := by decide +kernel
theorem dX12_write_180 : decode cX12_write 180 = .ok (.invokevirtual 245, 3) := by decide +kernel
theorem dX12_write_183 : decode cX12_write 183 = .ok (.iconst 0, 1) := by decide +kernel
theorem dX12_write_184 : decode cX12_write 184 = .ok (.istore_n 2, 1) := by decide +kernel
theorem dX12_write_185 : decode cX12_write 185 = .ok (.iload_n 2, 1) := by decide +kernel
theorem dX12_write_186 : decode cX12_write 186 = .ok (.bipush 48, 2) := by decide +kernel
theorem dX12_write_188 : decode cX12_write 188 = .ok (.if_icmp .ge 30, 3) := by decide +kernel
theorem dX12_write_191 : decode cX12_write 191 = .ok (.aload_n 0, 1) := by decide +kernel
theorem dX12_write_192 : decode cX12_write 192 = .ok (.iload_n 2, 1) := by decide +kernel
theorem dX12_write_193 : decode cX12_write 193 = .ok (.invokevirtual 195, 3) := by decide +kernel
theorem dX12_write_196 : decode cX12_write 196 = .ok (.ifCond .eq 16, 3) := by decide +kernel
theorem dX12_write_199 : decode cX12_write 199 = .ok (.aload_n 0, 1) := by decide +kernel
theorem dX12_write_200 : decode cX12_write 200 = .ok (.aload_n 0, 1) := by decide +kernel
theorem dX12_write_201 : decode cX12_write 201 = .ok (.aload_n 0, 1) := by decide +kernel
theorem dX12_write_202 : decode cX12_write 202 = .ok (.iload_n 2, 1) := by decide +kernel
theorem dX12_write_203 : decode cX12_write 203 = .ok (.invokevirtual 156, 3) := by decide +kernel
theorem dX12_write_206 : decode cX12_write 206 = .ok (.invokevirtual 254, 3) := by decide +kernel
theorem dX12_write_209 : decode cX12_write 209 = .ok (.invokevirtual 245, 3) := by decide +kernel
theorem dX12_write_212 : decode cX12_write 212 = .ok (.iinc 2 1, 3) := by decide +kernel
theorem dX12_write_215 : decode cX12_write 215 = .ok (.goto (-30), 3) := by decide +kernel
theorem dX12_write_218 : decode cX12_write 218 = .ok (.aload_n 0, 1) := by decide +kernel
theorem dX12_write_219 : decode cX12_write 219 = .ok (.iload_n 1, 1) := by decide +kernel
theorem dX12_write_220 : decode cX12_write 220 = .ok (.invokevirtual 266, 3) := by decide +kernel
theorem dX12_write_223 : decode cX12_write 223 = .ok (.aload_n 0, 1) := by decide +kernel
theorem dX12_write_224 : decode cX12_write 224 = .ok (.iconst 4, 1) := by decide +kernel
theorem dX12_write_225 : decode cX12_write 225 = .ok (.invokevirtual 263, 3) := by decide +kernel
theorem dX12_write_228 : decode cX12_write 228 = .ok (.istore_n 1, 1) := by decide +kernel
theorem dX12_write_229 : decode cX12_write 229 = .ok (.aload_n 0, 1) := by decide +kernel
theorem dX12_write_230 : decode cX12_write 230 = .ok (.iconst 1, 1) := by decide +kernel
theorem dX12_write_231 : decode cX12_write 231 = .ok (.invokevirtual 235, 3) := by decide +kernel
theorem dX12_write_234 : decode cX12_write 234 = .ok (.aload_n 0, 1) := by decide +kernel
theorem dX12_write_235 : decode cX12_write 235 = .ok (.bipush 112, 2) := by decide +kernel
theorem dX12_write_237 : decode cX12_write 237 = .ok (.invokevirtual 235, 3) := by decide +kernel
theorem dX12_write_240 : decode cX12_write 240 = .ok (.aload_n 0, 1) := by decide +kernel
theorem dX12_write_241 : decode cX12_write 241 = .ok (.iconst 0, 1) := by decide +kernel
theorem dX12_write_242 : decode cX12_write 242 = .ok (.invokevirtual 235, 3) := by decide +kernel
theorem dX12_write_245 : decode cX12_write 245 = .ok (.aload_n 0, 1) := by decide +kernel
theorem dX12_write_246 : decode cX12_write 246 = .ok (.aload_n 0, 1) := by decide +kernel
theorem dX12_write_247 : decode cX12_write 247 = .ok (.getfield 251, 3) := by decide +kernel
theorem dX12_write_250 : decode cX12_write 250 = .ok (.iconst 1, 1) := by decide +kernel
theorem dX12_write_251 : decode cX12_write 251 = .ok (.iadd, 1) := by decide +kernel
theorem dX12_write_252 : decode cX12_write 252 = .ok (.invokevirtual 245, 3) := by decide +kernel
theorem dX12_write_255 : decode cX12_write 255 = .ok (.aload_n 0, 1) := by decide +kernel
theorem dX12_write_256 : decode cX12_write 256 = .ok (.iload_n 1, 1) := by decide +kernel
theorem dX12_write_257 : decode cX12_write 257 = .ok (.invokevirtual 266, 3) := by decide +kernel
theorem dX12_write_260 : decode cX12_write 260 = .ok (.aload_n 0, 1) := by decide +kernel
theorem dX12_write_261 : decode cX12_write 261 = .ok (.iconst 5, 1) := by decide +kernel
theorem dX12_write_262 : decode cX12_write 262 = .ok (.invokevirtual 263, 3) := by decide +kernel
theorem dX12_write_265 : decode cX12_write 265 = .ok (.istore_n 1, 1) := by decide +kernel
theorem dX12_write_266 : decode cX12_write 266 = .ok (.aload_n 0, 1) := by decide +kernel
theorem dX12_write_267 : decode cX12_write 267 = .ok (.iconst 1, 1) := by decide +kernel
theorem dX12_write_268 : decode cX12_write 268 = .ok (.invokevirtual 235, 3) := by decide +kernel
theorem dX12_write_271 : decode cX12_write 271 = .ok (.aload_n 0, 1) := by decide +kernel
theorem dX12_write_272 : decode cX12_write 272 = .ok (.iconst 0, 1) := by decide +kernel
theorem dX12_write_273 : decode cX12_write 273 = .ok (.invokevirtual 235, 3) := by decide +kernel
theorem dX12_write_276 : decode cX12_write 276 = .ok (.aload_n 0, 1) := by decide +kernel
theorem dX12_write_277 : decode cX12_write 277 = .ok (.iconst 1, 1) := by decide +kernel
theorem dX12_write_278 : decode cX12_write 278 = .ok (.invokevirtual 235, 3) := by decide +kernel
theorem dX12_write_281 : decode cX12_write 281 = .ok (.aload_n 0, 1) := by decide +kernel
theorem dX12_write_282 : decode cX12_write 282 = .ok (.iload_n 1, 1) := by decide +kernel
theorem dX12_write_283 : decode cX12_write 283 = .ok (.invokevirtual 266, 3) := by decide +kernel
theorem dX12_write_286 : decode cX12_write 286 = .ok (.aload_n 0, 1) := by decide +kernel
theorem dX12_write_287 : decode cX12_write 287 = .ok (.getfield 251, 3) := by decide +kernel
theorem dX12_write_290 : decode cX12_write 290 = .ok (.ifCond .le 80, 3) := by decide +kernel
theorem dX12_write_293 : decode cX12_write 293 = .ok (.aload_n 0, 1) := by decide +kernel
theorem dX12_write_294 : decode cX12_write 294 = .ok (.bipush 9, 2) := by decide +kernel
theorem dX12_write_296 : decode cX12_write 296 = .ok (.invokevirtual 263, 3) := by decide +kernel
theorem dX12_write_299 : decode cX12_write 299 = .ok (.istore_n 1, 1) := by decide +kernel
theorem dX12_write_300 : decode cX12_write 300 = .ok (.aload_n 0, 1) := by decide +kernel
theorem dX12_write_301 : decode cX12_write 301 = .ok (.iconst 1, 1) := by decide +kernel
theorem dX12_write_302 : decode cX12_write 302 = .ok (.invokevirtual 235, 3) := by decide +kernel
theorem dX12_write_305 : decode cX12_write 305 = .ok (.aload_n 0, 1) := by decide +kernel
theorem dX12_write_306 : decode cX12_write 306 = .ok (.iconst 0, 1) := by decide +kernel
theorem dX12_write_307 : decode cX12_write 307 = .ok (.invokevirtual 235, 3) := by decide +kernel
theorem dX12_write_310 : decode cX12_write 310 = .ok (.aload_n 0, 1) := by decide +kernel
theorem dX12_write_311 : decode cX12_write 311 = .ok (.bipush 65, 2) := by decide +kernel
theorem dX12_write_313 : decode cX12_write 313 = .ok (.invokevirtual 235, 3) := by decide +kernel
theorem dX12_write_316 : decode cX12_write 316 = .ok (.aload_n 0, 1) := by decide +kernel
theorem dX12_write_317 : decode cX12_write 317 = .ok (.iconst 1, 1) := by decide +kernel
theorem dX12_write_318 : decode cX12_write 318 = .ok (.invokevirtual 235, 3) := by decide +kernel
theorem dX12_write_321 : decode cX12_write 321 = .ok (.aload_n 0, 1) := by decide +kernel
theorem dX12_write_322 : decode cX12_write 322 = .ok (.bipush 11, 2) := by decide +kernel
theorem dX12_write_324 : decode cX12_write 324 = .ok (.invokevirtual 235, 3) := by decide +kernel
theorem dX12_write_327 : decode cX12_write 327 = .ok (.aload_n 0, 1) := by decide +kernel
theorem dX12_write_328 : decode cX12_write 328 = .ok (.aload_n 0, 1) := by decide +kernel
theorem dX12_write_329 : decode cX12_write 329 = .ok (.getfield 251, 3) := by decide +kernel
theorem dX12_write_332 : decode cX12_write 332 = .ok (.invokevirtual 245, 3) := by decide +kernel
theorem dX12_write_335 : decode cX12_write 335 = .ok (.iconst 0, 1) := by decide +kernel
theorem dX12_write_336 : decode cX12_write 336 = .ok (.istore_n 2, 1) := by decide +kernel
theorem dX12_write_337 : decode cX12_write 337 = .ok (.iload_n 2, 1) := by decide +kernel
theorem dX12_write_338 : decode cX12_write 338 = .ok (.aload_n 0, 1) := by decide +kernel
theorem dX12_write_339 : decode cX12_write 339 = .ok (.getfield 251, 3) := by decide +kernel
theorem dX12_write_342 : decode cX12_write 342 = .ok (.if_icmp .ge 23, 3) := by decide +kernel
theorem dX12_write_345 : decode cX12_write 345 = .ok (.aload_n 0, 1) := by decide +kernel
theorem dX12_write_346 : decode cX12_write 346 = .ok (.aload_n 0, 1) := by decide +kernel
theorem dX12_write_347 : decode cX12_write 347 = .ok (.aload_n 0, 1) := by decide +kernel
theorem dX12_write_348 : decode cX12_write 348 = .ok (.getfield 70, 3) := by decide +kernel
theorem dX12_write_351 : decode cX12_write 351 = .ok (.iload_n 2, 1) := by decide +kernel
theorem dX12_write_352 : decode cX12_write 352 = .ok (.iaload, 1) := by decide +kernel
theorem dX12_write_353 : decode cX12_write 353 = .ok (.invokevirtual 272, 3) := by decide +kernel
theorem dX12_write_356 : decode cX12_write 356 = .ok (.invokevirtual 245, 3) := by decide +kernel
theorem dX12_write_359 : decode cX12_write 359 = .ok (.iinc 2 1, 3) := by decide +kernel
theorem dX12_write_362 : decode cX12_write 362 = .ok (.goto (-25), 3) := by decide +kernel
theorem dX12_write_365 : decode cX12_write 365 = .ok (.aload_n 0, 1) := by decide +kernel
theorem dX12_write_366 : decode cX12_write 366 = .ok (.iload_n 1, 1) := by decide +kernel
theorem dX12_write_367 : decode cX12_write 367 = .ok (.invokevirtual 266, 3) := by decide +kernel
theorem dX12_write_370 : decode cX12_write 370 = .ok (.aload_n 0, 1) := by decide +kernel
theorem dX12_write_371 : decode cX12_write 371 = .ok (.bipush 10, 2) := by decide +kernel
theorem dX12_write_373 : decode cX12_write 373 = .ok (.invokevirtual 263, 3) := by decide +kernel
theorem dX12_write_376 : decode cX12_write 376 = .ok (.istore_n 1, 1) := by decide +kernel
theorem dX12_write_377 : decode cX12_write 377 = .ok (.aload_n 0, 1) := by decide +kernel
theorem dX12_write_378 : decode cX12_write 378 = .ok (.aload_n 0, 1) := by decide +kernel
theorem dX12_write_379 : decode cX12_write 379 = .ok (.invokevirtual 269, 3) := by decide +kernel
theorem dX12_write_382 : decode cX12_write 382 = .ok (.invokevirtual 245, 3) := by decide +kernel
theorem dX12_write_385 : decode cX12_write 385 = .ok (.iconst 0, 1) := by decide +kernel
theorem dX12_write_386 : decode cX12_write 386 = .ok (.istore_n 2, 1) := by decide +kernel
theorem dX12_write_387 : decode cX12_write 387 = .ok (.iload_n 2, 1) := by decide +kernel
theorem dX12_write_388 : decode cX12_write 388 = .ok (.bipush 48, 2) := by decide +kernel
theorem dX12_write_390 : decode cX12_write 390 = .ok (.if_icmp .ge 22, 3) := by decide +kernel
theorem dX12_write_393 : decode cX12_write 393 = .ok (.aload_n 0, 1) := by decide +kernel
theorem dX12_write_394 : decode cX12_write 394 = .ok (.iload_n 2, 1) := by decide +kernel
theorem dX12_write_395 : decode cX12_write 395 = .ok (.invokevirtual 195, 3) := by decide +kernel
theorem dX12_write_398 : decode cX12_write 398 = .ok (.ifCond .eq 8, 3) := by decide +kernel
theorem dX12_write_401 : decode cX12_write 401 = .ok (.aload_n 0, 1) := by decide +kernel
theorem dX12_write_402 : decode cX12_write 402 = .ok (.iload_n 2, 1) := by decide +kernel
theorem dX12_write_403 : decode cX12_write 403 = .ok (.invokevirtual 275, 3) := by decide +kernel
theorem dX12_write_406 : decode cX12_write 406 = .ok (.iinc 2 1, 3) := by decide +kernel
theorem dX12_write_409 : decode cX12_write 409 = .ok (.goto (-22), 3) := by decide +kernel
theorem dX12_write_412 : decode cX12_write 412 = .ok (.aload_n 0, 1) := by decide +kernel
theorem dX12_write_413 : decode cX12_write 413 = .ok (.iload_n 1, 1) := by decide +kernel
theorem dX12_write_414 : decode cX12_write 414 = .ok (.invokevirtual 266, 3) := by decide +kernel
theorem dX12_write_417 : decode cX12_write 417 = .ok (.aload_n 0, 1) := by decide +kernel
theorem dX12_write_418 : decode cX12_write 418 = .ok (.invokevirtual 278, 3) := by decide +kernel
theorem dX12_write_421 : decode cX12_write 421 = .ok (.ifCond .le 56, 3) := by decide +kernel
theorem dX12_write_424 : decode cX12_write 424 = .ok (.aload_n 0, 1) := by decide +kernel
theorem dX12_write_425 : decode cX12_write 425 = .ok (.bipush 11, 2) := by decide +kernel
theorem dX12_write_427 : decode cX12_write 427 = .ok (.invokevirtual 263, 3) := by decide +kernel
theorem dX12_write_430 : decode cX12_write 430 = .ok (.istore_n 1, 1) := by decide +kernel
theorem dX12_write_431 : decode cX12_write 431 = .ok (.aload_n 0, 1) := by decide +kernel
theorem dX12_write_432 : decode cX12_write 432 = .ok (.aload_n 0, 1) := by decide +kernel
theorem dX12_write_433 : decode cX12_write 433 = .ok (.invokevirtual 278, 3) := by decide +kernel
theorem dX12_write_436 : decode cX12_write 436 = .ok (.invokevirtual 245, 3) := by decide +kernel
theorem dX12_write_439 : decode cX12_write 439 = .ok (.iconst 0, 1) := by decide +kernel
theorem dX12_write_440 : decode cX12_write 440 = .ok (.istore_n 2, 1) := by decide +kernel
theorem dX12_write_441 : decode cX12_write 441 = .ok (.iload_n 2, 1) := by decide +kernel
theorem dX12_write_442 : decode cX12_write 442 = .ok (.bipush 24, 2) := by decide +kernel
theorem dX12_write_444 : decode cX12_write 444 = .ok (.if_icmp .ge 28, 3) := by decide +kernel
theorem dX12_write_447 : decode cX12_write 447 = .ok (.iload_n 2, 1) := by decide +kernel
theorem dX12_write_448 : decode cX12_write 448 = .ok (.iconst 4, 1) := by decide +kernel
theorem dX12_write_449 : decode cX12_write 449 = .ok (.irem, 1) := by decide +kernel
theorem dX12_write_450 : decode cX12_write 450 = .ok (.aload_n 0, 1) := by decide +kernel
theorem dX12_write_451 : decode cX12_write 451 = .ok (.getfield 13, 3) := by decide +kernel
theorem dX12_write_454 : decode cX12_write 454 = .ok (.iload_n 2, 1) := by decide +kernel
theorem dX12_write_455 : decode cX12_write 455 = .ok (.iconst 4, 1) := by decide +kernel
theorem dX12_write_456 : decode cX12_write 456 = .ok (.idiv, 1) := by decide +kernel
theorem dX12_write_457 : decode cX12_write 457 = .ok (.iaload, 1) := by decide +kernel
theorem dX12_write_458 : decode cX12_write 458 = .ok (.if_icmp .ge 8, 3) := by decide +kernel
theorem dX12_write_461 : decode cX12_write 461 = .ok (.aload_n 0, 1) := by decide +kernel
theorem dX12_write_462 : decode cX12_write 462 = .ok (.iload_n 2, 1) := by decide +kernel
theorem dX12_write_463 : decode cX12_write 463 = .ok (.invokevirtual 281, 3) := by decide +kernel
theorem dX12_write_466 : decode cX12_write 466 = .ok (.iinc 2 1, 3) := by decide +kernel
theorem dX12_write_469 : decode cX12_write 469 = .ok (.goto (-28), 3) := by decide +kernel
theorem dX12_write_472 : decode cX12_write 472 = .ok (.aload_n 0, 1) := by decide +kernel
theorem dX12_write_473 : decode cX12_write 473 = .ok (.iload_n 1, 1) := by decide +kernel
theorem dX12_write_474 : decode cX12_write 474 = .ok (.invokevirtual 266, 3) := by decide +kernel
theorem dX12_write_477 : decode cX12_write 477 = .ok (.return_, 1) := by decide +kernel
theorem dX12_writeSegment_0 : decode cX12_writeSegment 0 = .ok (.aload_n 0, 1) := by decide +kernel
theorem dX12_writeSegment_1 : decode cX12_writeSegment 1 = .ok (.iconst 0, 1) := by decide +kernel
theorem dX12_writeSegment_2 : decode cX12_writeSegment 2 = .ok (.invokevirtual 235, 3) := by decide +kernel
theorem dX12_writeSegment_5 : decode cX12_writeSegment 5 = .ok (.aload_n 0, 1) := by decide +kernel
theorem dX12_writeSegment_6 : decode cX12_writeSegment 6 = .ok (.bipush 65, 2) := by decide +kernel
theorem dX12_writeSegment_8 : decode cX12_writeSegment 8 = .ok (.invokevirtual 235, 3) := by decide +kernel
theorem dX12_writeSegment_11 : decode cX12_writeSegment 11 = .ok (.aload_n 0, 1) := by decide +kernel
theorem dX12_writeSegment_12 : decode cX12_writeSegment 12 = .ok (.aload_n 0, 1) := by decide +kernel
theorem dX12_writeSegment_13 : decode cX12_writeSegment 13 = .ok (.iload_n 1, 1) := by decide +kernel
theorem dX12_writeSegment_14 : decode cX12_writeSegment 14 = .ok (.invokevirtual 149, 3) := by decide +kernel
theorem dX12_writeSegment_17 : decode cX12_writeSegment 17 = .ok (.invokevirtual 284, 3) := by decide +kernel
theorem dX12_writeSegment_20 : decode cX12_writeSegment 20 = .ok (.aload_n 0, 1) := by decide +kernel
theorem dX12_writeSegment_21 : decode cX12_writeSegment 21 = .ok (.bipush 11, 2) := by decide +kernel
theorem dX12_writeSegment_23 : decode cX12_writeSegment 23 = .ok (.invokevirtual 235, 3) := by decide +kernel
theorem dX12_writeSegment_26 : decode cX12_writeSegment 26 = .ok (.aload_n 0, 1) := by decide +kernel
theorem dX12_writeSegment_27 : decode cX12_writeSegment 27 = .ok (.aload_n 0, 1) := by decide +kernel
theorem dX12_writeSegment_28 : decode cX12_writeSegment 28 = .ok (.getfield 37, 3) := by decide +kernel
theorem dX12_writeSegment_31 : decode cX12_writeSegment 31 = .ok (.iload_n 1, 1) := by decide +kernel
theorem dX12_writeSegment_32 : decode cX12_writeSegment 32 = .ok (.iaload, 1) := by decide +kernel
theorem dX12_writeSegment_33 : decode cX12_writeSegment 33 = .ok (.invokevirtual 245, 3) := by decide +kernel
theorem dX12_writeSegment_36 : decode cX12_writeSegment 36 = .ok (.iconst 0, 1) := by decide +kernel
theorem dX12_writeSegment_37 : decode cX12_writeSegment 37 = .ok (.istore_n 2, 1) := by decide +kernel
theorem dX12_writeSegment_38 : decode cX12_writeSegment 38 = .ok (.iload_n 2, 1) := by decide +kernel
theorem dX12_writeSegment_39 : decode cX12_writeSegment 39 = .ok (.aload_n 0, 1) := by decide +kernel
theorem dX12_writeSegment_40 : decode cX12_writeSegment 40 = .ok (.getfield 37, 3) := by decide +kernel
theorem dX12_writeSegment_43 : decode cX12_writeSegment 43 = .ok (.iload_n 1, 1) := by decide +kernel
theorem dX12_writeSegment_44 : decode cX12_writeSegment 44 = .ok (.iaload, 1) := by decide +kernel
theorem dX12_writeSegment_45 : decode cX12_writeSegment 45 = .ok (.if_icmp .ge 24, 3) := by decide +kernel
theorem dX12_writeSegment_48 : decode cX12_writeSegment 48 = .ok (.aload_n 0, 1) := by decide +kernel
theorem dX12_writeSegment_49 : decode cX12_writeSegment 49 = .ok (.aload_n 0, 1) := by decide +kernel
theorem dX12_writeSegment_50 : decode cX12_writeSegment 50 = .ok (.getfield 43, 3) := by decide +kernel
theorem dX12_writeSegment_53 : decode cX12_writeSegment 53 = .ok (.bipush 64, 2) := by decide +kernel
theorem dX12_writeSegment_55 : decode cX12_writeSegment 55 = .ok (.iload_n 1, 1) := by decide +kernel
theorem dX12_writeSegment_56 : decode cX12_writeSegment 56 = .ok (.imul, 1) := by decide +kernel
theorem dX12_writeSegment_57 : decode cX12_writeSegment 57 = .ok (.iload_n 2, 1) := by decide +kernel
theorem dX12_writeSegment_58 : decode cX12_writeSegment 58 = .ok (.iadd, 1) := by decide +kernel
theorem dX12_writeSegment_59 : decode cX12_writeSegment 59 = .ok (.baload, 1) := by decide +kernel
theorem dX12_writeSegment_60 : decode cX12_writeSegment 60 = .ok (.invokevirtual 235, 3) := by decide +kernel
theorem dX12_writeSegment_63 : decode cX12_writeSegment 63 = .ok (.iinc 2 1, 3) := by decide +kernel
theorem dX12_writeSegment_66 : decode cX12_writeSegment 66 = .ok (.goto (-28), 3) := by decide +kernel
theorem dX12_writeSegment_69 : decode cX12_writeSegment 69 = .ok (.return_, 1) := by decide +kernel
theorem dX12_writeFunction_0 : decode cX12_writeFunction 0 = .ok (.aload_n 0, 1) := by decide +kernel
theorem dX12_writeFunction_1 : decode cX12_writeFunction 1 = .ok (.getfield 232, 3) := by decide +kernel
theorem dX12_writeFunction_4 : decode cX12_writeFunction 4 = .ok (.istore_n 2, 1) := by decide +kernel
theorem dX12_writeFunction_5 : decode cX12_writeFunction 5 = .ok (.aload_n 0, 1) := by decide +kernel
theorem dX12_writeFunction_6 : decode cX12_writeFunction 6 = .ok (.aload_n 0, 1) := by decide +kernel
theorem dX12_writeFunction_7 : decode cX12_writeFunction 7 = .ok (.getfield 25, 3) := by decide +kernel
theorem dX12_writeFunction_10 : decode cX12_writeFunction 10 = .ok (.iload_n 1, 1) := by decide +kernel
theorem dX12_writeFunction_11 : decode cX12_writeFunction 11 = .ok (.iaload, 1) := by decide +kernel
theorem dX12_writeFunction_12 : decode cX12_writeFunction 12 = .ok (.ifCond .le 7, 3) := by decide +kernel
theorem dX12_writeFunction_15 : decode cX12_writeFunction 15 = .ok (.iconst 1, 1) := by decide +kernel
theorem dX12_writeFunction_16 : decode cX12_writeFunction 16 = .ok (.goto 4, 3) := by decide +kernel
theorem dX12_writeFunction_19 : decode cX12_writeFunction 19 = .ok (.iconst 0, 1) := by decide +kernel
theorem dX12_writeFunction_20 : decode cX12_writeFunction 20 = .ok (.invokevirtual 235, 3) := by decide +kernel
theorem dX12_writeFunction_23 : decode cX12_writeFunction 23 = .ok (.aload_n 0, 1) := by decide +kernel
theorem dX12_writeFunction_24 : decode cX12_writeFunction 24 = .ok (.getfield 25, 3) := by decide +kernel
theorem dX12_writeFunction_27 : decode cX12_writeFunction 27 = .ok (.iload_n 1, 1) := by decide +kernel
theorem dX12_writeFunction_28 : decode cX12_writeFunction 28 = .ok (.iaload, 1) := by decide +kernel
theorem dX12_writeFunction_29 : decode cX12_writeFunction 29 = .ok (.ifCond .le 19, 3) := by decide +kernel
theorem dX12_writeFunction_32 : decode cX12_writeFunction 32 = .ok (.aload_n 0, 1) := by decide +kernel
theorem dX12_writeFunction_33 : decode cX12_writeFunction 33 = .ok (.aload_n 0, 1) := by decide +kernel
theorem dX12_writeFunction_34 : decode cX12_writeFunction 34 = .ok (.getfield 25, 3) := by decide +kernel
theorem dX12_writeFunction_37 : decode cX12_writeFunction 37 = .ok (.iload_n 1, 1) := by decide +kernel
theorem dX12_writeFunction_38 : decode cX12_writeFunction 38 = .ok (.iaload, 1) := by decide +kernel
theorem dX12_writeFunction_39 : decode cX12_writeFunction 39 = .ok (.invokevirtual 235, 3) := by decide +kernel
theorem dX12_writeFunction_42 : decode cX12_writeFunction 42 = .ok (.aload_n 0, 1) := by decide +kernel
theorem dX12_writeFunction_43 : decode cX12_writeFunction 43 = .ok (.bipush 126, 2) := by decide +kernel
theorem dX12_writeFunction_45 : decode cX12_writeFunction 45 = .ok (.invokevirtual 235, 3) := by decide +kernel
theorem dX12_writeFunction_48 : decode cX12_writeFunction 48 = .ok (.iconst 0, 1) := by decide +kernel
theorem dX12_writeFunction_49 : decode cX12_writeFunction 49 = .ok (.istore_n 3, 1) := by decide +kernel
theorem dX12_writeFunction_50 : decode cX12_writeFunction 50 = .ok (.iload_n 3, 1) := by decide +kernel
theorem dX12_writeFunction_51 : decode cX12_writeFunction 51 = .ok (.aload_n 0, 1) := by decide +kernel
theorem dX12_writeFunction_52 : decode cX12_writeFunction 52 = .ok (.getfield 28, 3) := by decide +kernel
theorem dX12_writeFunction_55 : decode cX12_writeFunction 55 = .ok (.iload_n 1, 1) := by decide +kernel
theorem dX12_writeFunction_56 : decode cX12_writeFunction 56 = .ok (.iaload, 1) := by decide +kernel
theorem dX12_writeFunction_57 : decode cX12_writeFunction 57 = .ok (.if_icmp .ge 39, 3) := by decide +kernel
theorem dX12_writeFunction_60 : decode cX12_writeFunction 60 = .ok (.aload_n 0, 1) := by decide +kernel
theorem dX12_writeFunction_61 : decode cX12_writeFunction 61 = .ok (.iload_n 1, 1) := by decide +kernel
theorem dX12_writeFunction_62 : decode cX12_writeFunction 62 = .ok (.bipush 8, 2) := by decide +kernel
theorem dX12_writeFunction_64 : decode cX12_writeFunction 64 = .ok (.idiv, 1) := by decide +kernel
theorem dX12_writeFunction_65 : decode cX12_writeFunction 65 = .ok (.aload_n 0, 1) := by decide +kernel
theorem dX12_writeFunction_66 : decode cX12_writeFunction 66 = .ok (.getfield 31, 3) := by decide +kernel
theorem dX12_writeFunction_69 : decode cX12_writeFunction 69 = .ok (.bipush 60, 2) := by decide +kernel
theorem dX12_writeFunction_71 : decode cX12_writeFunction 71 = .ok (.iload_n 1, 1) := by decide +kernel
theorem dX12_writeFunction_72 : decode cX12_writeFunction 72 = .ok (.imul, 1) := by decide +kernel
theorem dX12_writeFunction_73 : decode cX12_writeFunction 73 = .ok (.iload_n 3, 1) := by decide +kernel
theorem dX12_writeFunction_74 : decode cX12_writeFunction 74 = .ok (.iadd, 1) := by decide +kernel
theorem dX12_writeFunction_75 : decode cX12_writeFunction 75 = .ok (.iaload, 1) := by decide +kernel
theorem dX12_writeFunction_76 : decode cX12_writeFunction 76 = .ok (.aload_n 0, 1) := by decide +kernel
theorem dX12_writeFunction_77 : decode cX12_writeFunction 77 = .ok (.getfield 34, 3) := by decide +kernel
theorem dX12_writeFunction_80 : decode cX12_writeFunction 80 = .ok (.bipush 60, 2) := by decide +kernel
theorem dX12_writeFunction_82 : decode cX12_writeFunction 82 = .ok (.iload_n 1, 1) := by decide +kernel
theorem dX12_writeFunction_83 : decode cX12_writeFunction 83 = .ok (.imul, 1) := by decide +kernel
theorem dX12_writeFunction_84 : decode cX12_writeFunction 84 = .ok (.iload_n 3, 1) := by decide +kernel
theorem dX12_writeFunction_85 : decode cX12_writeFunction 85 = .ok (.iadd, 1) := by decide +kernel
theorem dX12_writeFunction_86 : decode cX12_writeFunction 86 = .ok (.iaload, 1) := by decide +kernel
theorem dX12_writeFunction_87 : decode cX12_writeFunction 87 = .ok (.invokevirtual 287, 3) := by decide +kernel
theorem dX12_writeFunction_90 : decode cX12_writeFunction 90 = .ok (.iinc 3 1, 3) := by decide +kernel
theorem dX12_writeFunction_93 : decode cX12_writeFunction 93 = .ok (.goto (-43), 3) := by decide +kernel
theorem dX12_writeFunction_96 : decode cX12_writeFunction 96 = .ok (.aload_n 0, 1) := by decide +kernel
theorem dX12_writeFunction_97 : decode cX12_writeFunction 97 = .ok (.bipush 11, 2) := by decide +kernel
theorem dX12_writeFunction_99 : decode cX12_writeFunction 99 = .ok (.invokevirtual 235, 3) := by decide +kernel
theorem dX12_writeFunction_102 : decode cX12_writeFunction 102 = .ok (.aload_n 0, 1) := by decide +kernel
theorem dX12_writeFunction_103 : decode cX12_writeFunction 103 = .ok (.iload_n 2, 1) := by decide +kernel
theorem dX12_writeFunction_104 : decode cX12_writeFunction 104 = .ok (.invokevirtual 266, 3) := by decide +kernel
theorem dX12_writeFunction_107 : decode cX12_writeFunction 107 = .ok (.return_, 1) := by decide +kernel
theorem dX12_two_0 : decode cX12_two 0 = .ok (.aload_n 0, 1) := by decide +kernel
theorem dX12_two_1 : decode cX12_two 1 = .ok (.iload_n 1, 1) := by decide +kernel
theorem dX12_two_2 : decode cX12_two 2 = .ok (.invokevirtual 235, 3) := by decide +kernel
theorem dX12_two_5 : decode cX12_two 5 = .ok (.aload_n 0, 1) := by decide +kernel
theorem dX12_two_6 : decode cX12_two 6 = .ok (.iload_n 2, 1) := by decide +kernel
theorem dX12_two_7 : decode cX12_two 7 = .ok (.invokevirtual 235, 3) := by decide +kernel
theorem dX12_two_10 : decode cX12_two 10 = .ok (.return_, 1) := by decide +kernel
theorem dX12_writeWord_0 : decode cX12_writeWord 0 = .ok (.iload_n 2, 1) := by decide +kernel
theorem dX12_writeWord_1 : decode cX12_writeWord 1 = .ok (.tableswitch 560 0 34 #[155, 169, 169, 185, 185, 185, 185, 196, 206, 206, 206, 206, 206, 206, 217, 229, 241, 253, 265, 274, 289, 304, 319, 334, 334, 356, 382, 390, 399, 413, 430, 439, 484, 510, 533], 155) := by decide +kernel
theorem dX12_writeWord_156 : decode cX12_writeWord 156 = .ok (.aload_n 0, 1) := by decide +kernel
theorem dX12_writeWord_157 : decode cX12_writeWord 157 = .ok (.bipush 66, 2) := by decide +kernel
theorem dX12_writeWord_159 : decode cX12_writeWord 159 = .ok (.invokevirtual 235, 3) := by decide +kernel
theorem dX12_writeWord_162 : decode cX12_writeWord 162 = .ok (.aload_n 0, 1) := by decide +kernel
theorem dX12_writeWord_163 : decode cX12_writeWord 163 = .ok (.iload_n 3, 1) := by decide +kernel
theorem dX12_writeWord_164 : decode cX12_writeWord 164 = .ok (.invokevirtual 284, 3) := by decide +kernel
theorem dX12_writeWord_167 : decode cX12_writeWord 167 = .ok (.goto 407, 3) := by decide +kernel
theorem dX12_writeWord_170 : decode cX12_writeWord 170 = .ok (.aload_n 0, 1) := by decide +kernel
theorem dX12_writeWord_171 : decode cX12_writeWord 171 = .ok (.bipush 31, 2) := by decide +kernel
theorem dX12_writeWord_173 : decode cX12_writeWord 173 = .ok (.iload_n 2, 1) := by decide +kernel
theorem dX12_writeWord_174 : decode cX12_writeWord 174 = .ok (.iadd, 1) := by decide +kernel
theorem dX12_writeWord_175 : decode cX12_writeWord 175 = .ok (.invokevirtual 235, 3) := by decide +kernel
theorem dX12_writeWord_178 : decode cX12_writeWord 178 = .ok (.aload_n 0, 1) := by decide +kernel
theorem dX12_writeWord_179 : decode cX12_writeWord 179 = .ok (.iload_n 3, 1) := by decide +kernel
theorem dX12_writeWord_180 : decode cX12_writeWord 180 = .ok (.invokevirtual 245, 3) := by decide +kernel
theorem dX12_writeWord_183 : decode cX12_writeWord 183 = .ok (.goto 391, 3) := by decide +kernel
theorem dX12_writeWord_186 : decode cX12_writeWord 186 = .ok (.aload_n 0, 1) := by decide +kernel
theorem dX12_writeWord_187 : decode cX12_writeWord 187 = .ok (.bipush 121, 2) := by decide +kernel
theorem dX12_writeWord_189 : decode cX12_writeWord 189 = .ok (.iload_n 2, 1) := by decide +kernel
theorem dX12_writeWord_190 : decode cX12_writeWord 190 = .ok (.iadd, 1) := by decide +kernel
theorem dX12_writeWord_191 : decode cX12_writeWord 191 = .ok (.invokevirtual 235, 3) := by decide +kernel
theorem dX12_writeWord_194 : decode cX12_writeWord 194 = .ok (.goto 380, 3) := by decide +kernel
theorem dX12_writeWord_197 : decode cX12_writeWord 197 = .ok (.aload_n 0, 1) := by decide +kernel
theorem dX12_writeWord_198 : decode cX12_writeWord 198 = .ok (.sipush 129, 3) := by decide +kernel
theorem dX12_writeWord_201 : decode cX12_writeWord 201 = .ok (.invokevirtual 235, 3) := by decide +kernel
theorem dX12_writeWord_204 : decode cX12_writeWord 204 = .ok (.goto 370, 3) := by decide +kernel
theorem dX12_writeWord_207 : decode cX12_writeWord 207 = .ok (.aload_n 0, 1) := by decide +kernel
theorem dX12_writeWord_208 : decode cX12_writeWord 208 = .ok (.bipush 123, 2) := by decide +kernel
theorem dX12_writeWord_210 : decode cX12_writeWord 210 = .ok (.iload_n 2, 1) := by decide +kernel
theorem dX12_writeWord_211 : decode cX12_writeWord 211 = .ok (.iadd, 1) := by decide +kernel
theorem dX12_writeWord_212 : decode cX12_writeWord 212 = .ok (.invokevirtual 235, 3) := by decide +kernel
theorem dX12_writeWord_215 : decode cX12_writeWord 215 = .ok (.goto 359, 3) := by decide +kernel
theorem dX12_writeWord_218 : decode cX12_writeWord 218 = .ok (.aload_n 0, 1) := by decide +kernel
theorem dX12_writeWord_219 : decode cX12_writeWord 219 = .ok (.bipush 81, 2) := by decide +kernel
theorem dX12_writeWord_221 : decode cX12_writeWord 221 = .ok (.sipush 173, 3) := by decide +kernel
theorem dX12_writeWord_224 : decode cX12_writeWord 224 = .ok (.invokevirtual 291, 3) := by decide +kernel
theorem dX12_writeWord_227 : decode cX12_writeWord 227 = .ok (.goto 347, 3) := by decide +kernel
theorem dX12_writeWord_230 : decode cX12_writeWord 230 = .ok (.aload_n 0, 1) := by decide +kernel
theorem dX12_writeWord_231 : decode cX12_writeWord 231 = .ok (.bipush 83, 2) := by decide +kernel
theorem dX12_writeWord_233 : decode cX12_writeWord 233 = .ok (.sipush 173, 3) := by decide +kernel
theorem dX12_writeWord_236 : decode cX12_writeWord 236 = .ok (.invokevirtual 291, 3) := by decide +kernel
theorem dX12_writeWord_239 : decode cX12_writeWord 239 = .ok (.goto 335, 3) := by decide +kernel
theorem dX12_writeWord_242 : decode cX12_writeWord 242 = .ok (.aload_n 0, 1) := by decide +kernel
theorem dX12_writeWord_243 : decode cX12_writeWord 243 = .ok (.bipush 84, 2) := by decide +kernel
theorem dX12_writeWord_245 : decode cX12_writeWord 245 = .ok (.sipush 173, 3) := by decide +kernel
theorem dX12_writeWord_248 : decode cX12_writeWord 248 = .ok (.invokevirtual 291, 3) := by decide +kernel
theorem dX12_writeWord_251 : decode cX12_writeWord 251 = .ok (.goto 323, 3) := by decide +kernel
theorem dX12_writeWord_254 : decode cX12_writeWord 254 = .ok (.aload_n 0, 1) := by decide +kernel
theorem dX12_writeWord_255 : decode cX12_writeWord 255 = .ok (.sipush 167, 3) := by decide +kernel
theorem dX12_writeWord_258 : decode cX12_writeWord 258 = .ok (.bipush 27, 2) := by decide +kernel
theorem dX12_writeWord_260 : decode cX12_writeWord 260 = .ok (.invokevirtual 291, 3) := by decide +kernel
theorem dX12_writeWord_263 : decode cX12_writeWord 263 = .ok (.goto 311, 3) := by decide +kernel
theorem dX12_writeWord_266 : decode cX12_writeWord 266 = .ok (.aload_n 0, 1) := by decide +kernel
theorem dX12_writeWord_267 : decode cX12_writeWord 267 = .ok (.bipush 26, 2) := by decide +kernel
theorem dX12_writeWord_269 : decode cX12_writeWord 269 = .ok (.invokevirtual 235, 3) := by decide +kernel
theorem dX12_writeWord_272 : decode cX12_writeWord 272 = .ok (.goto 302, 3) := by decide +kernel
theorem dX12_writeWord_275 : decode cX12_writeWord 275 = .ok (.aload_n 0, 1) := by decide +kernel
theorem dX12_writeWord_276 : decode cX12_writeWord 276 = .ok (.bipush 41, 2) := by decide +kernel
theorem dX12_writeWord_278 : decode cX12_writeWord 278 = .ok (.iconst 3, 1) := by decide +kernel
theorem dX12_writeWord_279 : decode cX12_writeWord 279 = .ok (.invokevirtual 291, 3) := by decide +kernel
theorem dX12_writeWord_282 : decode cX12_writeWord 282 = .ok (.aload_n 0, 1) := by decide +kernel
theorem dX12_writeWord_283 : decode cX12_writeWord 283 = .ok (.iload_n 3, 1) := by decide +kernel
theorem dX12_writeWord_284 : decode cX12_writeWord 284 = .ok (.invokevirtual 245, 3) := by decide +kernel
theorem dX12_writeWord_287 : decode cX12_writeWord 287 = .ok (.goto 287, 3) := by decide +kernel
theorem dX12_writeWord_290 : decode cX12_writeWord 290 = .ok (.aload_n 0, 1) := by decide +kernel
theorem dX12_writeWord_291 : decode cX12_writeWord 291 = .ok (.bipush 55, 2) := by decide +kernel
theorem dX12_writeWord_293 : decode cX12_writeWord 293 = .ok (.iconst 3, 1) := by decide +kernel
theorem dX12_writeWord_294 : decode cX12_writeWord 294 = .ok (.invokevirtual 291, 3) := by decide +kernel
theorem dX12_writeWord_297 : decode cX12_writeWord 297 = .ok (.aload_n 0, 1) := by decide +kernel
theorem dX12_writeWord_298 : decode cX12_writeWord 298 = .ok (.iload_n 3, 1) := by decide +kernel
theorem dX12_writeWord_299 : decode cX12_writeWord 299 = .ok (.invokevirtual 245, 3) := by decide +kernel
theorem dX12_writeWord_302 : decode cX12_writeWord 302 = .ok (.goto 272, 3) := by decide +kernel
theorem dX12_writeWord_305 : decode cX12_writeWord 305 = .ok (.aload_n 0, 1) := by decide +kernel
theorem dX12_writeWord_306 : decode cX12_writeWord 306 = .ok (.bipush 49, 2) := by decide +kernel
theorem dX12_writeWord_308 : decode cX12_writeWord 308 = .ok (.iconst 0, 1) := by decide +kernel
theorem dX12_writeWord_309 : decode cX12_writeWord 309 = .ok (.invokevirtual 291, 3) := by decide +kernel
theorem dX12_writeWord_312 : decode cX12_writeWord 312 = .ok (.aload_n 0, 1) := by decide +kernel
theorem dX12_writeWord_313 : decode cX12_writeWord 313 = .ok (.iload_n 3, 1) := by decide +kernel
theorem dX12_writeWord_314 : decode cX12_writeWord 314 = .ok (.invokevirtual 245, 3) := by decide +kernel
theorem dX12_writeWord_317 : decode cX12_writeWord 317 = .ok (.goto 257, 3) := by decide +kernel
theorem dX12_writeWord_320 : decode cX12_writeWord 320 = .ok (.aload_n 0, 1) := by decide +kernel
theorem dX12_writeWord_321 : decode cX12_writeWord 321 = .ok (.bipush 60, 2) := by decide +kernel
theorem dX12_writeWord_323 : decode cX12_writeWord 323 = .ok (.iconst 0, 1) := by decide +kernel
theorem dX12_writeWord_324 : decode cX12_writeWord 324 = .ok (.invokevirtual 291, 3) := by decide +kernel
theorem dX12_writeWord_327 : decode cX12_writeWord 327 = .ok (.aload_n 0, 1) := by decide +kernel
theorem dX12_writeWord_328 : decode cX12_writeWord 328 = .ok (.iload_n 3, 1) := by decide +kernel
theorem dX12_writeWord_329 : decode cX12_writeWord 329 = .ok (.invokevirtual 245, 3) := by decide +kernel
theorem dX12_writeWord_332 : decode cX12_writeWord 332 = .ok (.goto 242, 3) := by decide +kernel
theorem dX12_writeWord_335 : decode cX12_writeWord 335 = .ok (.aload_n 0, 1) := by decide +kernel
theorem dX12_writeWord_336 : decode cX12_writeWord 336 = .ok (.iload_n 2, 1) := by decide +kernel
theorem dX12_writeWord_337 : decode cX12_writeWord 337 = .ok (.bipush 21, 2) := by decide +kernel
theorem dX12_writeWord_339 : decode cX12_writeWord 339 = .ok (.isub, 1) := by decide +kernel
theorem dX12_writeWord_340 : decode cX12_writeWord 340 = .ok (.iload_n 3, 1) := by decide +kernel
theorem dX12_writeWord_341 : decode cX12_writeWord 341 = .ok (.ifCond .ne 8, 3) := by decide +kernel
theorem dX12_writeWord_344 : decode cX12_writeWord 344 = .ok (.bipush 64, 2) := by decide +kernel
theorem dX12_writeWord_346 : decode cX12_writeWord 346 = .ok (.goto 5, 3) := by decide +kernel
theorem dX12_writeWord_349 : decode cX12_writeWord 349 = .ok (.bipush 126, 2) := by decide +kernel
theorem dX12_writeWord_351 : decode cX12_writeWord 351 = .ok (.invokevirtual 291, 3) := by decide +kernel
theorem dX12_writeWord_354 : decode cX12_writeWord 354 = .ok (.goto 220, 3) := by decide +kernel
theorem dX12_writeWord_357 : decode cX12_writeWord 357 = .ok (.aload_n 0, 1) := by decide +kernel
theorem dX12_writeWord_358 : decode cX12_writeWord 358 = .ok (.sipush 167, 3) := by decide +kernel
theorem dX12_writeWord_361 : decode cX12_writeWord 361 = .ok (.iconst 4, 1) := by decide +kernel
theorem dX12_writeWord_362 : decode cX12_writeWord 362 = .ok (.invokevirtual 291, 3) := by decide +kernel
theorem dX12_writeWord_365 : decode cX12_writeWord 365 = .ok (.aload_n 0, 1) := by decide +kernel
theorem dX12_writeWord_366 : decode cX12_writeWord 366 = .ok (.iload_n 3, 1) := by decide +kernel
theorem dX12_writeWord_367 : decode cX12_writeWord 367 = .ok (.ifCond .ne 8, 3) := by decide +kernel
theorem dX12_writeWord_370 : decode cX12_writeWord 370 = .ok (.bipush 64, 2) := by decide +kernel
theorem dX12_writeWord_372 : decode cX12_writeWord 372 = .ok (.goto 5, 3) := by decide +kernel
theorem dX12_writeWord_375 : decode cX12_writeWord 375 = .ok (.bipush 126, 2) := by decide +kernel
theorem dX12_writeWord_377 : decode cX12_writeWord 377 = .ok (.invokevirtual 235, 3) := by decide +kernel
theorem dX12_writeWord_380 : decode cX12_writeWord 380 = .ok (.goto 194, 3) := by decide +kernel
theorem dX12_writeWord_383 : decode cX12_writeWord 383 = .ok (.aload_n 0, 1) := by decide +kernel
theorem dX12_writeWord_384 : decode cX12_writeWord 384 = .ok (.iconst 5, 1) := by decide +kernel
theorem dX12_writeWord_385 : decode cX12_writeWord 385 = .ok (.invokevirtual 235, 3) := by decide +kernel
theorem dX12_writeWord_388 : decode cX12_writeWord 388 = .ok (.goto 186, 3) := by decide +kernel
theorem dX12_writeWord_391 : decode cX12_writeWord 391 = .ok (.aload_n 0, 1) := by decide +kernel
theorem dX12_writeWord_392 : decode cX12_writeWord 392 = .ok (.bipush 11, 2) := by decide +kernel
theorem dX12_writeWord_394 : decode cX12_writeWord 394 = .ok (.invokevirtual 235, 3) := by decide +kernel
theorem dX12_writeWord_397 : decode cX12_writeWord 397 = .ok (.goto 177, 3) := by decide +kernel
theorem dX12_writeWord_400 : decode cX12_writeWord 400 = .ok (.aload_n 0, 1) := by decide +kernel
theorem dX12_writeWord_401 : decode cX12_writeWord 401 = .ok (.bipush 12, 2) := by decide +kernel
theorem dX12_writeWord_403 : decode cX12_writeWord 403 = .ok (.invokevirtual 235, 3) := by decide +kernel
theorem dX12_writeWord_406 : decode cX12_writeWord 406 = .ok (.aload_n 0, 1) := by decide +kernel
theorem dX12_writeWord_407 : decode cX12_writeWord 407 = .ok (.iload_n 3, 1) := by decide +kernel
theorem dX12_writeWord_408 : decode cX12_writeWord 408 = .ok (.invokevirtual 245, 3) := by decide +kernel
theorem dX12_writeWord_411 : decode cX12_writeWord 411 = .ok (.goto 163, 3) := by decide +kernel
theorem dX12_writeWord_414 : decode cX12_writeWord 414 = .ok (.aload_n 0, 1) := by decide +kernel
theorem dX12_writeWord_415 : decode cX12_writeWord 415 = .ok (.sipush 167, 3) := by decide +kernel
theorem dX12_writeWord_418 : decode cX12_writeWord 418 = .ok (.bipush 13, 2) := by decide +kernel
theorem dX12_writeWord_420 : decode cX12_writeWord 420 = .ok (.invokevirtual 291, 3) := by decide +kernel
theorem dX12_writeWord_423 : decode cX12_writeWord 423 = .ok (.aload_n 0, 1) := by decide +kernel
theorem dX12_writeWord_424 : decode cX12_writeWord 424 = .ok (.iload_n 3, 1) := by decide +kernel
theorem dX12_writeWord_425 : decode cX12_writeWord 425 = .ok (.invokevirtual 245, 3) := by decide +kernel
theorem dX12_writeWord_428 : decode cX12_writeWord 428 = .ok (.goto 146, 3) := by decide +kernel
theorem dX12_writeWord_431 : decode cX12_writeWord 431 = .ok (.aload_n 0, 1) := by decide +kernel
theorem dX12_writeWord_432 : decode cX12_writeWord 432 = .ok (.bipush 15, 2) := by decide +kernel
theorem dX12_writeWord_434 : decode cX12_writeWord 434 = .ok (.invokevirtual 235, 3) := by decide +kernel
theorem dX12_writeWord_437 : decode cX12_writeWord 437 = .ok (.goto 137, 3) := by decide +kernel
theorem dX12_writeWord_440 : decode cX12_writeWord 440 = .ok (.aload_n 0, 1) := by decide +kernel
theorem dX12_writeWord_441 : decode cX12_writeWord 441 = .ok (.bipush 16, 2) := by decide +kernel
theorem dX12_writeWord_443 : decode cX12_writeWord 443 = .ok (.iload_n 1, 1) := by decide +kernel
theorem dX12_writeWord_444 : decode cX12_writeWord 444 = .ok (.imul, 1) := by decide +kernel
theorem dX12_writeWord_445 : decode cX12_writeWord 445 = .ok (.iload_n 3, 1) := by decide +kernel
theorem dX12_writeWord_446 : decode cX12_writeWord 446 = .ok (.iadd, 1) := by decide +kernel
theorem dX12_writeWord_447 : decode cX12_writeWord 447 = .ok (.invokevirtual 189, 3) := by decide +kernel
theorem dX12_writeWord_450 : decode cX12_writeWord 450 = .ok (.istore 4, 2) := by decide +kernel
theorem dX12_writeWord_452 : decode cX12_writeWord 452 = .ok (.aload_n 0, 1) := by decide +kernel
theorem dX12_writeWord_453 : decode cX12_writeWord 453 = .ok (.iload 4, 2) := by decide +kernel
theorem dX12_writeWord_455 : decode cX12_writeWord 455 = .ok (.ifCond .ge 7, 3) := by decide +kernel
theorem dX12_writeWord_458 : decode cX12_writeWord 458 = .ok (.iconst 0, 1) := by decide +kernel
theorem dX12_writeWord_459 : decode cX12_writeWord 459 = .ok (.goto 5, 3) := by decide +kernel
theorem dX12_writeWord_462 : decode cX12_writeWord 462 = .ok (.bipush 16, 2) := by decide +kernel
theorem dX12_writeWord_464 : decode cX12_writeWord 464 = .ok (.invokevirtual 235, 3) := by decide +kernel
theorem dX12_writeWord_467 : decode cX12_writeWord 467 = .ok (.iload 4, 2) := by decide +kernel
theorem dX12_writeWord_469 : decode cX12_writeWord 469 = .ok (.ifCond .lt 105, 3) := by decide +kernel
theorem dX12_writeWord_472 : decode cX12_writeWord 472 = .ok (.aload_n 0, 1) := by decide +kernel
theorem dX12_writeWord_473 : decode cX12_writeWord 473 = .ok (.aload_n 0, 1) := by decide +kernel
theorem dX12_writeWord_474 : decode cX12_writeWord 474 = .ok (.iload 4, 2) := by decide +kernel
theorem dX12_writeWord_476 : decode cX12_writeWord 476 = .ok (.invokevirtual 272, 3) := by decide +kernel
theorem dX12_writeWord_479 : decode cX12_writeWord 479 = .ok (.invokevirtual 294, 3) := by decide +kernel
theorem dX12_writeWord_482 : decode cX12_writeWord 482 = .ok (.goto 92, 3) := by decide +kernel
theorem dX12_writeWord_485 : decode cX12_writeWord 485 = .ok (.aload_n 0, 1) := by decide +kernel
theorem dX12_writeWord_486 : decode cX12_writeWord 486 = .ok (.sipush 167, 3) := by decide +kernel
theorem dX12_writeWord_489 : decode cX12_writeWord 489 = .ok (.bipush 17, 2) := by decide +kernel
theorem dX12_writeWord_491 : decode cX12_writeWord 491 = .ok (.invokevirtual 291, 3) := by decide +kernel
theorem dX12_writeWord_494 : decode cX12_writeWord 494 = .ok (.aload_n 0, 1) := by decide +kernel
theorem dX12_writeWord_495 : decode cX12_writeWord 495 = .ok (.aload_n 0, 1) := by decide +kernel
theorem dX12_writeWord_496 : decode cX12_writeWord 496 = .ok (.iload_n 3, 1) := by decide +kernel
theorem dX12_writeWord_497 : decode cX12_writeWord 497 = .ok (.invokevirtual 254, 3) := by decide +kernel
theorem dX12_writeWord_500 : decode cX12_writeWord 500 = .ok (.invokevirtual 294, 3) := by decide +kernel
theorem dX12_writeWord_503 : decode cX12_writeWord 503 = .ok (.aload_n 0, 1) := by decide +kernel
theorem dX12_writeWord_504 : decode cX12_writeWord 504 = .ok (.iconst 0, 1) := by decide +kernel
theorem dX12_writeWord_505 : decode cX12_writeWord 505 = .ok (.invokevirtual 235, 3) := by decide +kernel
theorem dX12_writeWord_508 : decode cX12_writeWord 508 = .ok (.goto 66, 3) := by decide +kernel
theorem dX12_writeWord_511 : decode cX12_writeWord 511 = .ok (.aload_n 0, 1) := by decide +kernel
theorem dX12_writeWord_512 : decode cX12_writeWord 512 = .ok (.bipush 66, 2) := by decide +kernel
theorem dX12_writeWord_514 : decode cX12_writeWord 514 = .ok (.invokevirtual 235, 3) := by decide +kernel
theorem dX12_writeWord_517 : decode cX12_writeWord 517 = .ok (.aload_n 0, 1) := by decide +kernel
theorem dX12_writeWord_518 : decode cX12_writeWord 518 = .ok (.aload_n 0, 1) := by decide +kernel
theorem dX12_writeWord_519 : decode cX12_writeWord 519 = .ok (.bipush 16, 2) := by decide +kernel
theorem dX12_writeWord_521 : decode cX12_writeWord 521 = .ok (.iload_n 1, 1) := by decide +kernel
theorem dX12_writeWord_522 : decode cX12_writeWord 522 = .ok (.imul, 1) := by decide +kernel
theorem dX12_writeWord_523 : decode cX12_writeWord 523 = .ok (.iload_n 3, 1) := by decide +kernel
theorem dX12_writeWord_524 : decode cX12_writeWord 524 = .ok (.iadd, 1) := by decide +kernel
theorem dX12_writeWord_525 : decode cX12_writeWord 525 = .ok (.invokevirtual 297, 3) := by decide +kernel
theorem dX12_writeWord_528 : decode cX12_writeWord 528 = .ok (.invokevirtual 294, 3) := by decide +kernel
theorem dX12_writeWord_531 : decode cX12_writeWord 531 = .ok (.goto 43, 3) := by decide +kernel
theorem dX12_writeWord_534 : decode cX12_writeWord 534 = .ok (.aload_n 0, 1) := by decide +kernel
theorem dX12_writeWord_535 : decode cX12_writeWord 535 = .ok (.bipush 66, 2) := by decide +kernel
theorem dX12_writeWord_537 : decode cX12_writeWord 537 = .ok (.invokevirtual 235, 3) := by decide +kernel
theorem dX12_writeWord_540 : decode cX12_writeWord 540 = .ok (.aload_n 0, 1) := by decide +kernel
theorem dX12_writeWord_541 : decode cX12_writeWord 541 = .ok (.aload_n 0, 1) := by decide +kernel
theorem dX12_writeWord_542 : decode cX12_writeWord 542 = .ok (.aload_n 0, 1) := by decide +kernel
theorem dX12_writeWord_543 : decode cX12_writeWord 543 = .ok (.bipush 16, 2) := by decide +kernel
theorem dX12_writeWord_545 : decode cX12_writeWord 545 = .ok (.iload_n 1, 1) := by decide +kernel
theorem dX12_writeWord_546 : decode cX12_writeWord 546 = .ok (.imul, 1) := by decide +kernel
theorem dX12_writeWord_547 : decode cX12_writeWord 547 = .ok (.iload_n 3, 1) := by decide +kernel
theorem dX12_writeWord_548 : decode cX12_writeWord 548 = .ok (.iadd, 1) := by decide +kernel
theorem dX12_writeWord_549 : decode cX12_writeWord 549 = .ok (.invokevirtual 189, 3) := by decide +kernel
theorem dX12_writeWord_552 : decode cX12_writeWord 552 = .ok (.invokevirtual 257, 3) := by decide +kernel
theorem dX12_writeWord_555 : decode cX12_writeWord 555 = .ok (.invokevirtual 294, 3) := by decide +kernel
theorem dX12_writeWord_558 : decode cX12_writeWord 558 = .ok (.goto 16, 3) := by decide +kernel
theorem dX12_writeWord_561 : decode cX12_writeWord 561 = .ok (.aload_n 0, 1) := by decide +kernel
theorem dX12_writeWord_562 : decode cX12_writeWord 562 = .ok (.bipush 66, 2) := by decide +kernel
theorem dX12_writeWord_564 : decode cX12_writeWord 564 = .ok (.invokevirtual 235, 3) := by decide +kernel
theorem dX12_writeWord_567 : decode cX12_writeWord 567 = .ok (.aload_n 0, 1) := by decide +kernel
theorem dX12_writeWord_568 : decode cX12_writeWord 568 = .ok (.sipush 1024, 3) := by decide +kernel
theorem dX12_writeWord_571 : decode cX12_writeWord 571 = .ok (.invokevirtual 284, 3) := by decide +kernel
theorem dX12_writeWord_574 : decode cX12_writeWord 574 = .ok (.return_, 1) := by decide +kernel
theorem dX12_count_0 : decode cX12_count 0 = .ok (.aload_n 0, 1) := by decide +kernel
theorem dX12_count_1 : decode cX12_count 1 = .ok (.iload_n 1, 1) := by decide +kernel
theorem dX12_count_2 : decode cX12_count 2 = .ok (.iconst 0, 1) := by decide +kernel
theorem dX12_count_3 : decode cX12_count 3 = .ok (.iconst 4, 1) := by decide +kernel
theorem dX12_count_4 : decode cX12_count 4 = .ok (.invokestatic 126, 3) := by decide +kernel
theorem dX12_count_7 : decode cX12_count 7 = .ok (.ifCond .ne 7, 3) := by decide +kernel
theorem dX12_count_10 : decode cX12_count 10 = .ok (.iconst 1, 1) := by decide +kernel
theorem dX12_count_11 : decode cX12_count 11 = .ok (.goto 15, 3) := by decide +kernel
theorem dX12_count_14 : decode cX12_count 14 = .ok (.aload_n 0, 1) := by decide +kernel
theorem dX12_count_15 : decode cX12_count 15 = .ok (.getfield 134, 3) := by decide +kernel
theorem dX12_count_18 : decode cX12_count 18 = .ok (.ifCond .ne 7, 3) := by decide +kernel
theorem dX12_count_21 : decode cX12_count 21 = .ok (.iconst 2, 1) := by decide +kernel
theorem dX12_count_22 : decode cX12_count 22 = .ok (.goto 4, 3) := by decide +kernel
theorem dX12_count_25 : decode cX12_count 25 = .ok (.iconst 0, 1) := by decide +kernel
theorem dX12_count_26 : decode cX12_count 26 = .ok (.putfield 120, 3) := by decide +kernel
theorem dX12_count_29 : decode cX12_count 29 = .ok (.aload_n 0, 1) := by decide +kernel
theorem dX12_count_30 : decode cX12_count 30 = .ok (.getfield 120, 3) := by decide +kernel
theorem dX12_count_33 : decode cX12_count 33 = .ok (.ifCond .le 5, 3) := by decide +kernel
theorem dX12_count_36 : decode cX12_count 36 = .ok (.iconst 0, 1) := by decide +kernel
theorem dX12_count_37 : decode cX12_count 37 = .ok (.ireturn, 1) := by decide +kernel
theorem dX12_count_38 : decode cX12_count 38 = .ok (.iload_n 1, 1) := by decide +kernel
theorem dX12_count_39 : decode cX12_count 39 = .ok (.ifCond .ne 8, 3) := by decide +kernel
theorem dX12_count_42 : decode cX12_count 42 = .ok (.aload_n 0, 1) := by decide +kernel
theorem dX12_count_43 : decode cX12_count 43 = .ok (.getfield 232, 3) := by decide +kernel
theorem dX12_count_46 : decode cX12_count 46 = .ok (.ireturn, 1) := by decide +kernel
theorem dX12_count_47 : decode cX12_count 47 = .ok (.iload_n 1, 1) := by decide +kernel
theorem dX12_count_48 : decode cX12_count 48 = .ok (.iconst 1, 1) := by decide +kernel
theorem dX12_count_49 : decode cX12_count 49 = .ok (.if_icmp .ne 8, 3) := by decide +kernel
theorem dX12_count_52 : decode cX12_count 52 = .ok (.aload_n 0, 1) := by decide +kernel
theorem dX12_count_53 : decode cX12_count 53 = .ok (.invokevirtual 269, 3) := by decide +kernel
theorem dX12_count_56 : decode cX12_count 56 = .ok (.ireturn, 1) := by decide +kernel
theorem dX12_count_57 : decode cX12_count 57 = .ok (.iload_n 1, 1) := by decide +kernel
theorem dX12_count_58 : decode cX12_count 58 = .ok (.iconst 2, 1) := by decide +kernel
theorem dX12_count_59 : decode cX12_count 59 = .ok (.if_icmp .ne 10, 3) := by decide +kernel
theorem dX12_count_62 : decode cX12_count 62 = .ok (.aload_n 0, 1) := by decide +kernel
theorem dX12_count_63 : decode cX12_count 63 = .ok (.getfield 248, 3) := by decide +kernel
theorem dX12_count_66 : decode cX12_count 66 = .ok (.goto 19, 3) := by decide +kernel
theorem dX12_count_69 : decode cX12_count 69 = .ok (.iload_n 1, 1) := by decide +kernel
theorem dX12_count_70 : decode cX12_count 70 = .ok (.iconst 3, 1) := by decide +kernel
theorem dX12_count_71 : decode cX12_count 71 = .ok (.if_icmp .ne 10, 3) := by decide +kernel
theorem dX12_count_74 : decode cX12_count 74 = .ok (.aload_n 0, 1) := by decide +kernel
theorem dX12_count_75 : decode cX12_count 75 = .ok (.getfield 251, 3) := by decide +kernel
theorem dX12_count_78 : decode cX12_count 78 = .ok (.goto 7, 3) := by decide +kernel
theorem dX12_count_81 : decode cX12_count 81 = .ok (.aload_n 0, 1) := by decide +kernel
theorem dX12_count_82 : decode cX12_count 82 = .ok (.invokevirtual 225, 3) := by decide +kernel
theorem dX12_count_85 : decode cX12_count 85 = .ok (.ireturn, 1) := by decide +kernel
theorem dX12_byteAt_0 : decode cX12_byteAt 0 = .ok (.aload_n 0, 1) := by decide +kernel
theorem dX12_byteAt_1 : decode cX12_byteAt 1 = .ok (.iload_n 1, 1) := by decide +kernel
theorem dX12_byteAt_2 : decode cX12_byteAt 2 = .ok (.ifCond .ge 7, 3) := by decide +kernel
theorem dX12_byteAt_5 : decode cX12_byteAt 5 = .ok (.iconst 1, 1) := by decide +kernel
theorem dX12_byteAt_6 : decode cX12_byteAt 6 = .ok (.goto 27, 3) := by decide +kernel
theorem dX12_byteAt_9 : decode cX12_byteAt 9 = .ok (.aload_n 0, 1) := by decide +kernel
theorem dX12_byteAt_10 : decode cX12_byteAt 10 = .ok (.getfield 134, 3) := by decide +kernel
theorem dX12_byteAt_13 : decode cX12_byteAt 13 = .ok (.ifCond .ne 7, 3) := by decide +kernel
theorem dX12_byteAt_16 : decode cX12_byteAt 16 = .ok (.iconst 2, 1) := by decide +kernel
theorem dX12_byteAt_17 : decode cX12_byteAt 17 = .ok (.goto 16, 3) := by decide +kernel
theorem dX12_byteAt_20 : decode cX12_byteAt 20 = .ok (.iload_n 1, 1) := by decide +kernel
theorem dX12_byteAt_21 : decode cX12_byteAt 21 = .ok (.aload_n 0, 1) := by decide +kernel
theorem dX12_byteAt_22 : decode cX12_byteAt 22 = .ok (.getfield 232, 3) := by decide +kernel
theorem dX12_byteAt_25 : decode cX12_byteAt 25 = .ok (.if_icmp .lt 7, 3) := by decide +kernel
theorem dX12_byteAt_28 : decode cX12_byteAt 28 = .ok (.iconst 1, 1) := by decide +kernel
theorem dX12_byteAt_29 : decode cX12_byteAt 29 = .ok (.goto 4, 3) := by decide +kernel
theorem dX12_byteAt_32 : decode cX12_byteAt 32 = .ok (.iconst 0, 1) := by decide +kernel
theorem dX12_byteAt_33 : decode cX12_byteAt 33 = .ok (.putfield 120, 3) := by decide +kernel
theorem dX12_byteAt_36 : decode cX12_byteAt 36 = .ok (.aload_n 0, 1) := by decide +kernel
theorem dX12_byteAt_37 : decode cX12_byteAt 37 = .ok (.getfield 120, 3) := by decide +kernel
theorem dX12_byteAt_40 : decode cX12_byteAt 40 = .ok (.ifCond .le 7, 3) := by decide +kernel
theorem dX12_byteAt_43 : decode cX12_byteAt 43 = .ok (.iconst 0, 1) := by decide +kernel
theorem dX12_byteAt_44 : decode cX12_byteAt 44 = .ok (.goto 13, 3) := by decide +kernel
theorem dX12_byteAt_47 : decode cX12_byteAt 47 = .ok (.aload_n 0, 1) := by decide +kernel
theorem dX12_byteAt_48 : decode cX12_byteAt 48 = .ok (.getfield 67, 3) := by decide +kernel
theorem dX12_byteAt_51 : decode cX12_byteAt 51 = .ok (.iload_n 1, 1) := by decide +kernel
theorem dX12_byteAt_52 : decode cX12_byteAt 52 = .ok (.baload, 1) := by decide +kernel
theorem dX12_byteAt_53 : decode cX12_byteAt 53 = .ok (.sipush 255, 3) := by decide +kernel
theorem dX12_byteAt_56 : decode cX12_byteAt 56 = .ok (.iand, 1) := by decide +kernel
theorem dX12_byteAt_57 : decode cX12_byteAt 57 = .ok (.ireturn, 1) := by decide +kernel
theorem dX12_meant_0 : decode cX12_meant 0 = .ok (.aload_n 0, 1) := by decide +kernel
theorem dX12_meant_1 : decode cX12_meant 1 = .ok (.aload_n 0, 1) := by decide +kernel
theorem dX12_meant_2 : decode cX12_meant 2 = .ok (.iload_n 1, 1) := by decide +kernel
theorem dX12_meant_3 : decode cX12_meant 3 = .ok (.invokevirtual 130, 3) := by decide +kernel
theorem dX12_meant_6 : decode cX12_meant 6 = .ok (.ifCond .eq 16, 3) := by decide +kernel
theorem dX12_meant_9 : decode cX12_meant 9 = .ok (.iload_n 2, 1) := by decide +kernel
theorem dX12_meant_10 : decode cX12_meant 10 = .ok (.ifCond .lt 12, 3) := by decide +kernel
theorem dX12_meant_13 : decode cX12_meant 13 = .ok (.iload_n 3, 1) := by decide +kernel
theorem dX12_meant_14 : decode cX12_meant 14 = .ok (.iconst 0, 1) := by decide +kernel
theorem dX12_meant_15 : decode cX12_meant 15 = .ok (.iconst 1, 1) := by decide +kernel
theorem dX12_meant_16 : decode cX12_meant 16 = .ok (.invokestatic 126, 3) := by decide +kernel
theorem dX12_meant_19 : decode cX12_meant 19 = .ok (.ifCond .ne 7, 3) := by decide +kernel
theorem dX12_meant_22 : decode cX12_meant 22 = .ok (.iconst 1, 1) := by decide +kernel
theorem dX12_meant_23 : decode cX12_meant 23 = .ok (.goto 29, 3) := by decide +kernel
theorem dX12_meant_26 : decode cX12_meant 26 = .ok (.iload_n 2, 1) := by decide +kernel
theorem dX12_meant_27 : decode cX12_meant 27 = .ok (.aload_n 0, 1) := by decide +kernel
theorem dX12_meant_28 : decode cX12_meant 28 = .ok (.getfield 16, 3) := by decide +kernel
theorem dX12_meant_31 : decode cX12_meant 31 = .ok (.iload_n 1, 1) := by decide +kernel
theorem dX12_meant_32 : decode cX12_meant 32 = .ok (.iaload, 1) := by decide +kernel
theorem dX12_meant_33 : decode cX12_meant 33 = .ok (.if_icmp .lt 7, 3) := by decide +kernel
theorem dX12_meant_36 : decode cX12_meant 36 = .ok (.iconst 1, 1) := by decide +kernel
theorem dX12_meant_37 : decode cX12_meant 37 = .ok (.goto 15, 3) := by decide +kernel
theorem dX12_meant_40 : decode cX12_meant 40 = .ok (.aload_n 0, 1) := by decide +kernel
theorem dX12_meant_41 : decode cX12_meant 41 = .ok (.getfield 134, 3) := by decide +kernel
theorem dX12_meant_44 : decode cX12_meant 44 = .ok (.ifCond .ne 7, 3) := by decide +kernel
theorem dX12_meant_47 : decode cX12_meant 47 = .ok (.iconst 2, 1) := by decide +kernel
theorem dX12_meant_48 : decode cX12_meant 48 = .ok (.goto 4, 3) := by decide +kernel
theorem dX12_meant_51 : decode cX12_meant 51 = .ok (.iconst 0, 1) := by decide +kernel
theorem dX12_meant_52 : decode cX12_meant 52 = .ok (.putfield 120, 3) := by decide +kernel
theorem dX12_meant_55 : decode cX12_meant 55 = .ok (.aload_n 0, 1) := by decide +kernel
theorem dX12_meant_56 : decode cX12_meant 56 = .ok (.getfield 120, 3) := by decide +kernel
theorem dX12_meant_59 : decode cX12_meant 59 = .ok (.ifCond .le 5, 3) := by decide +kernel
theorem dX12_meant_62 : decode cX12_meant 62 = .ok (.iconst 0, 1) := by decide +kernel
theorem dX12_meant_63 : decode cX12_meant 63 = .ok (.ireturn, 1) := by decide +kernel
theorem dX12_meant_64 : decode cX12_meant 64 = .ok (.bipush 16, 2) := by decide +kernel
theorem dX12_meant_66 : decode cX12_meant 66 = .ok (.iload_n 1, 1) := by decide +kernel
theorem dX12_meant_67 : decode cX12_meant 67 = .ok (.imul, 1) := by decide +kernel
theorem dX12_meant_68 : decode cX12_meant 68 = .ok (.iload_n 2, 1) := by decide +kernel
theorem dX12_meant_69 : decode cX12_meant 69 = .ok (.iadd, 1) := by decide +kernel
theorem dX12_meant_70 : decode cX12_meant 70 = .ok (.istore 4, 2) := by decide +kernel
theorem dX12_meant_72 : decode cX12_meant 72 = .ok (.aload_n 0, 1) := by decide +kernel
theorem dX12_meant_73 : decode cX12_meant 73 = .ok (.getfield 50, 3) := by decide +kernel
theorem dX12_meant_76 : decode cX12_meant 76 = .ok (.iload 4, 2) := by decide +kernel
theorem dX12_meant_78 : decode cX12_meant 78 = .ok (.iaload, 1) := by decide +kernel
theorem dX12_meant_79 : decode cX12_meant 79 = .ok (.iconst 1, 1) := by decide +kernel
theorem dX12_meant_80 : decode cX12_meant 80 = .ok (.if_icmp .ne 18, 3) := by decide +kernel
theorem dX12_meant_83 : decode cX12_meant 83 = .ok (.iload_n 3, 1) := by decide +kernel
theorem dX12_meant_84 : decode cX12_meant 84 = .ok (.ifCond .ne 12, 3) := by decide +kernel
theorem dX12_meant_87 : decode cX12_meant 87 = .ok (.aload_n 0, 1) := by decide +kernel
theorem dX12_meant_88 : decode cX12_meant 88 = .ok (.iload 4, 2) := by decide +kernel
theorem dX12_meant_90 : decode cX12_meant 90 = .ok (.invokevirtual 297, 3) := by decide +kernel
theorem dX12_meant_93 : decode cX12_meant 93 = .ok (.goto 4, 3) := by decide +kernel
theorem dX12_meant_96 : decode cX12_meant 96 = .ok (.iconst 0, 1) := by decide +kernel
theorem dX12_meant_97 : decode cX12_meant 97 = .ok (.ireturn, 1) := by decide +kernel
theorem dX12_meant_98 : decode cX12_meant 98 = .ok (.aload_n 0, 1) := by decide +kernel
theorem dX12_meant_99 : decode cX12_meant 99 = .ok (.iload 4, 2) := by decide +kernel
theorem dX12_meant_101 : decode cX12_meant 101 = .ok (.invokevirtual 189, 3) := by decide +kernel
theorem dX12_meant_104 : decode cX12_meant 104 = .ok (.istore 5, 2) := by decide +kernel
theorem dX12_meant_106 : decode cX12_meant 106 = .ok (.iload_n 3, 1) := by decide +kernel
theorem dX12_meant_107 : decode cX12_meant 107 = .ok (.ifCond .ne 19, 3) := by decide +kernel
theorem dX12_meant_110 : decode cX12_meant 110 = .ok (.iload 5, 2) := by decide +kernel
theorem dX12_meant_112 : decode cX12_meant 112 = .ok (.ifCond .ge 7, 3) := by decide +kernel
theorem dX12_meant_115 : decode cX12_meant 115 = .ok (.iconst (-1), 1) := by decide +kernel
theorem dX12_meant_116 : decode cX12_meant 116 = .ok (.goto 9, 3) := by decide +kernel
theorem dX12_meant_119 : decode cX12_meant 119 = .ok (.aload_n 0, 1) := by decide +kernel
theorem dX12_meant_120 : decode cX12_meant 120 = .ok (.iload 5, 2) := by decide +kernel
theorem dX12_meant_122 : decode cX12_meant 122 = .ok (.invokevirtual 272, 3) := by decide +kernel
theorem dX12_meant_125 : decode cX12_meant 125 = .ok (.ireturn, 1) := by decide +kernel
theorem dX12_meant_126 : decode cX12_meant 126 = .ok (.iload 5, 2) := by decide +kernel
theorem dX12_meant_128 : decode cX12_meant 128 = .ok (.ifCond .ge 7, 3) := by decide +kernel
theorem dX12_meant_131 : decode cX12_meant 131 = .ok (.iconst 0, 1) := by decide +kernel
theorem dX12_meant_132 : decode cX12_meant 132 = .ok (.goto 9, 3) := by decide +kernel
theorem dX12_meant_135 : decode cX12_meant 135 = .ok (.aload_n 0, 1) := by decide +kernel
theorem dX12_meant_136 : decode cX12_meant 136 = .ok (.iload 5, 2) := by decide +kernel
theorem dX12_meant_138 : decode cX12_meant 138 = .ok (.invokevirtual 257, 3) := by decide +kernel
theorem dX12_meant_141 : decode cX12_meant 141 = .ok (.ireturn, 1) := by decide +kernel
theorem dX12_behind_0 : decode cX12_behind 0 = .ok (.iconst 0, 1) := by decide +kernel
theorem dX12_behind_1 : decode cX12_behind 1 = .ok (.istore 4, 2) := by decide +kernel
theorem dX12_behind_3 : decode cX12_behind 3 = .ok (.iload_n 2, 1) := by decide +kernel
theorem dX12_behind_4 : decode cX12_behind 4 = .ok (.iconst 1, 1) := by decide +kernel
theorem dX12_behind_5 : decode cX12_behind 5 = .ok (.iadd, 1) := by decide +kernel
theorem dX12_behind_6 : decode cX12_behind 6 = .ok (.istore 5, 2) := by decide +kernel
theorem dX12_behind_8 : decode cX12_behind 8 = .ok (.iload 5, 2) := by decide +kernel
theorem dX12_behind_10 : decode cX12_behind 10 = .ok (.aload_n 0, 1) := by decide +kernel
theorem dX12_behind_11 : decode cX12_behind 11 = .ok (.getfield 28, 3) := by decide +kernel
theorem dX12_behind_14 : decode cX12_behind 14 = .ok (.iload_n 1, 1) := by decide +kernel
theorem dX12_behind_15 : decode cX12_behind 15 = .ok (.iaload, 1) := by decide +kernel
theorem dX12_behind_16 : decode cX12_behind 16 = .ok (.if_icmp .ge 76, 3) := by decide +kernel
theorem dX12_behind_19 : decode cX12_behind 19 = .ok (.aload_n 0, 1) := by decide +kernel
theorem dX12_behind_20 : decode cX12_behind 20 = .ok (.getfield 31, 3) := by decide +kernel
theorem dX12_behind_23 : decode cX12_behind 23 = .ok (.bipush 60, 2) := by decide +kernel
theorem dX12_behind_25 : decode cX12_behind 25 = .ok (.iload_n 1, 1) := by decide +kernel
theorem dX12_behind_26 : decode cX12_behind 26 = .ok (.imul, 1) := by decide +kernel
theorem dX12_behind_27 : decode cX12_behind 27 = .ok (.iload 5, 2) := by decide +kernel
theorem dX12_behind_29 : decode cX12_behind 29 = .ok (.iadd, 1) := by decide +kernel
theorem dX12_behind_30 : decode cX12_behind 30 = .ok (.iaload, 1) := by decide +kernel
theorem dX12_behind_31 : decode cX12_behind 31 = .ok (.istore 6, 2) := by decide +kernel
theorem dX12_behind_33 : decode cX12_behind 33 = .ok (.iload 6, 2) := by decide +kernel
theorem dX12_behind_35 : decode cX12_behind 35 = .ok (.bipush 23, 2) := by decide +kernel
theorem dX12_behind_37 : decode cX12_behind 37 = .ok (.if_icmp .lt 13, 3) := by decide +kernel
theorem dX12_behind_40 : decode cX12_behind 40 = .ok (.iload 6, 2) := by decide +kernel
theorem dX12_behind_42 : decode cX12_behind 42 = .ok (.bipush 25, 2) := by decide +kernel
theorem dX12_behind_44 : decode cX12_behind 44 = .ok (.if_icmp .gt 6, 3) := by decide +kernel
theorem dX12_behind_47 : decode cX12_behind 47 = .ok (.iinc 4 1, 3) := by decide +kernel
theorem dX12_behind_50 : decode cX12_behind 50 = .ok (.iload 4, 2) := by decide +kernel
theorem dX12_behind_52 : decode cX12_behind 52 = .ok (.ifCond .ne 24, 3) := by decide +kernel
theorem dX12_behind_55 : decode cX12_behind 55 = .ok (.iload 6, 2) := by decide +kernel
theorem dX12_behind_57 : decode cX12_behind 57 = .ok (.bipush 27, 2) := by decide +kernel
theorem dX12_behind_59 : decode cX12_behind 59 = .ok (.if_icmp .eq 14, 3) := by decide +kernel
theorem dX12_behind_62 : decode cX12_behind 62 = .ok (.iload_n 3, 1) := by decide +kernel
theorem dX12_behind_63 : decode cX12_behind 63 = .ok (.ifCond .eq 13, 3) := by decide +kernel
theorem dX12_behind_66 : decode cX12_behind 66 = .ok (.iload 6, 2) := by decide +kernel
theorem dX12_behind_68 : decode cX12_behind 68 = .ok (.bipush 26, 2) := by decide +kernel
theorem dX12_behind_70 : decode cX12_behind 70 = .ok (.if_icmp .ne 6, 3) := by decide +kernel
theorem dX12_behind_73 : decode cX12_behind 73 = .ok (.iload 5, 2) := by decide +kernel
theorem dX12_behind_75 : decode cX12_behind 75 = .ok (.ireturn, 1) := by decide +kernel
theorem dX12_behind_76 : decode cX12_behind 76 = .ok (.iload 6, 2) := by decide +kernel
theorem dX12_behind_78 : decode cX12_behind 78 = .ok (.bipush 27, 2) := by decide +kernel
theorem dX12_behind_80 : decode cX12_behind 80 = .ok (.if_icmp .ne 6, 3) := by decide +kernel
theorem dX12_behind_83 : decode cX12_behind 83 = .ok (.iinc 4 (-1), 3) := by decide +kernel
theorem dX12_behind_86 : decode cX12_behind 86 = .ok (.iinc 5 1, 3) := by decide +kernel
theorem dX12_behind_89 : decode cX12_behind 89 = .ok (.goto (-81), 3) := by decide +kernel
theorem dX12_behind_92 : decode cX12_behind 92 = .ok (.aload_n 0, 1) := by decide +kernel
theorem dX12_behind_93 : decode cX12_behind 93 = .ok (.getfield 28, 3) := by decide +kernel
theorem dX12_behind_96 : decode cX12_behind 96 = .ok (.iload_n 1, 1) := by decide +kernel
theorem dX12_behind_97 : decode cX12_behind 97 = .ok (.iaload, 1) := by decide +kernel
theorem dX12_behind_98 : decode cX12_behind 98 = .ok (.ireturn, 1) := by decide +kernel
theorem dX12_pop_0 : decode cX12_pop 0 = .ok (.aload_n 0, 1) := by decide +kernel
theorem dX12_pop_1 : decode cX12_pop 1 = .ok (.dup, 1) := by decide +kernel
theorem dX12_pop_2 : decode cX12_pop 2 = .ok (.getfield 300, 3) := by decide +kernel
theorem dX12_pop_5 : decode cX12_pop 5 = .ok (.iconst 1, 1) := by decide +kernel
theorem dX12_pop_6 : decode cX12_pop 6 = .ok (.isub, 1) := by decide +kernel
theorem dX12_pop_7 : decode cX12_pop 7 = .ok (.putfield 300, 3) := by decide +kernel
theorem dX12_pop_10 : decode cX12_pop 10 = .ok (.aload_n 0, 1) := by decide +kernel
theorem dX12_pop_11 : decode cX12_pop 11 = .ok (.getfield 111, 3) := by decide +kernel
theorem dX12_pop_14 : decode cX12_pop 14 = .ok (.aload_n 0, 1) := by decide +kernel
theorem dX12_pop_15 : decode cX12_pop 15 = .ok (.getfield 300, 3) := by decide +kernel
theorem dX12_pop_18 : decode cX12_pop 18 = .ok (.laload, 1) := by decide +kernel
theorem dX12_pop_19 : decode cX12_pop 19 = .ok (.lreturn, 1) := by decide +kernel
theorem dX12_push_0 : decode cX12_push 0 = .ok (.aload_n 0, 1) := by decide +kernel
theorem dX12_push_1 : decode cX12_push 1 = .ok (.getfield 111, 3) := by decide +kernel
theorem dX12_push_4 : decode cX12_push 4 = .ok (.aload_n 0, 1) := by decide +kernel
theorem dX12_push_5 : decode cX12_push 5 = .ok (.getfield 300, 3) := by decide +kernel
theorem dX12_push_8 : decode cX12_push 8 = .ok (.lload_n 1, 1) := by decide +kernel
theorem dX12_push_9 : decode cX12_push 9 = .ok (.lastore, 1) := by decide +kernel
theorem dX12_push_10 : decode cX12_push 10 = .ok (.aload_n 0, 1) := by decide +kernel
theorem dX12_push_11 : decode cX12_push 11 = .ok (.dup, 1) := by decide +kernel
theorem dX12_push_12 : decode cX12_push 12 = .ok (.getfield 300, 3) := by decide +kernel
theorem dX12_push_15 : decode cX12_push 15 = .ok (.iconst 1, 1) := by decide +kernel
theorem dX12_push_16 : decode cX12_push 16 = .ok (.iadd, 1) := by decide +kernel
theorem dX12_push_17 : decode cX12_push 17 = .ok (.putfield 300, 3) := by decide +kernel
theorem dX12_push_20 : decode cX12_push 20 = .ok (.return_, 1) := by decide +kernel
theorem dX12_openBlock_0 : decode cX12_openBlock 0 = .ok (.aload_n 0, 1) := by decide +kernel
theorem dX12_openBlock_1 : decode cX12_openBlock 1 = .ok (.getfield 114, 3) := by decide +kernel
theorem dX12_openBlock_4 : decode cX12_openBlock 4 = .ok (.aload_n 0, 1) := by decide +kernel
theorem dX12_openBlock_5 : decode cX12_openBlock 5 = .ok (.getfield 303, 3) := by decide +kernel
theorem dX12_openBlock_8 : decode cX12_openBlock 8 = .ok (.iload_n 1, 1) := by decide +kernel
theorem dX12_openBlock_9 : decode cX12_openBlock 9 = .ok (.iastore, 1) := by decide +kernel
theorem dX12_openBlock_10 : decode cX12_openBlock 10 = .ok (.aload_n 0, 1) := by decide +kernel
theorem dX12_openBlock_11 : decode cX12_openBlock 11 = .ok (.getfield 117, 3) := by decide +kernel
theorem dX12_openBlock_14 : decode cX12_openBlock 14 = .ok (.aload_n 0, 1) := by decide +kernel
theorem dX12_openBlock_15 : decode cX12_openBlock 15 = .ok (.getfield 303, 3) := by decide +kernel
theorem dX12_openBlock_18 : decode cX12_openBlock 18 = .ok (.aload_n 0, 1) := by decide +kernel
theorem dX12_openBlock_19 : decode cX12_openBlock 19 = .ok (.getfield 300, 3) := by decide +kernel
theorem dX12_openBlock_22 : decode cX12_openBlock 22 = .ok (.iastore, 1) := by decide +kernel
theorem dX12_openBlock_23 : decode cX12_openBlock 23 = .ok (.aload_n 0, 1) := by decide +kernel
theorem dX12_openBlock_24 : decode cX12_openBlock 24 = .ok (.dup, 1) := by decide +kernel
theorem dX12_openBlock_25 : decode cX12_openBlock 25 = .ok (.getfield 303, 3) := by decide +kernel
theorem dX12_openBlock_28 : decode cX12_openBlock 28 = .ok (.iconst 1, 1) := by decide +kernel
theorem dX12_openBlock_29 : decode cX12_openBlock 29 = .ok (.iadd, 1) := by decide +kernel
theorem dX12_openBlock_30 : decode cX12_openBlock 30 = .ok (.putfield 303, 3) := by decide +kernel
theorem dX12_openBlock_33 : decode cX12_openBlock 33 = .ok (.return_, 1) := by decide +kernel
theorem dX12_keep_0 : decode cX12_keep 0 = .ok (.iconst 0, 1) := by decide +kernel
theorem dX12_keep_1 : decode cX12_keep 1 = .ok (.istore_n 3, 1) := by decide +kernel
theorem dX12_keep_2 : decode cX12_keep 2 = .ok (.iload_n 3, 1) := by decide +kernel
theorem dX12_keep_3 : decode cX12_keep 3 = .ok (.iload_n 2, 1) := by decide +kernel
theorem dX12_keep_4 : decode cX12_keep 4 = .ok (.if_icmp .ge 30, 3) := by decide +kernel
theorem dX12_keep_7 : decode cX12_keep 7 = .ok (.aload_n 0, 1) := by decide +kernel
theorem dX12_keep_8 : decode cX12_keep 8 = .ok (.getfield 111, 3) := by decide +kernel
theorem dX12_keep_11 : decode cX12_keep 11 = .ok (.iload_n 1, 1) := by decide +kernel
theorem dX12_keep_12 : decode cX12_keep 12 = .ok (.iload_n 3, 1) := by decide +kernel
theorem dX12_keep_13 : decode cX12_keep 13 = .ok (.iadd, 1) := by decide +kernel
theorem dX12_keep_14 : decode cX12_keep 14 = .ok (.aload_n 0, 1) := by decide +kernel
theorem dX12_keep_15 : decode cX12_keep 15 = .ok (.getfield 111, 3) := by decide +kernel
theorem dX12_keep_18 : decode cX12_keep 18 = .ok (.aload_n 0, 1) := by decide +kernel
theorem dX12_keep_19 : decode cX12_keep 19 = .ok (.getfield 300, 3) := by decide +kernel
theorem dX12_keep_22 : decode cX12_keep 22 = .ok (.iload_n 2, 1) := by decide +kernel
theorem dX12_keep_23 : decode cX12_keep 23 = .ok (.isub, 1) := by decide +kernel
theorem dX12_keep_24 : decode cX12_keep 24 = .ok (.iload_n 3, 1) := by decide +kernel
theorem dX12_keep_25 : decode cX12_keep 25 = .ok (.iadd, 1) := by decide +kernel
theorem dX12_keep_26 : decode cX12_keep 26 = .ok (.laload, 1) := by decide +kernel
theorem dX12_keep_27 : decode cX12_keep 27 = .ok (.lastore, 1) := by decide +kernel
theorem dX12_keep_28 : decode cX12_keep 28 = .ok (.iinc 3 1, 3) := by decide +kernel
theorem dX12_keep_31 : decode cX12_keep 31 = .ok (.goto (-29), 3) := by decide +kernel
theorem dX12_keep_34 : decode cX12_keep 34 = .ok (.aload_n 0, 1) := by decide +kernel
theorem dX12_keep_35 : decode cX12_keep 35 = .ok (.iload_n 1, 1) := by decide +kernel
theorem dX12_keep_36 : decode cX12_keep 36 = .ok (.iload_n 2, 1) := by decide +kernel
theorem dX12_keep_37 : decode cX12_keep 37 = .ok (.iadd, 1) := by decide +kernel
theorem dX12_keep_38 : decode cX12_keep 38 = .ok (.putfield 300, 3) := by decide +kernel
theorem dX12_keep_41 : decode cX12_keep 41 = .ok (.return_, 1) := by decide +kernel
theorem dX12_enter_0 : decode cX12_enter 0 = .ok (.aload_n 0, 1) := by decide +kernel
theorem dX12_enter_1 : decode cX12_enter 1 = .ok (.getfield 95, 3) := by decide +kernel
theorem dX12_enter_4 : decode cX12_enter 4 = .ok (.aload_n 0, 1) := by decide +kernel
theorem dX12_enter_5 : decode cX12_enter 5 = .ok (.getfield 306, 3) := by decide +kernel
theorem dX12_enter_8 : decode cX12_enter 8 = .ok (.iload_n 1, 1) := by decide +kernel
theorem dX12_enter_9 : decode cX12_enter 9 = .ok (.iastore, 1) := by decide +kernel
theorem dX12_enter_10 : decode cX12_enter 10 = .ok (.aload_n 0, 1) := by decide +kernel
theorem dX12_enter_11 : decode cX12_enter 11 = .ok (.getfield 98, 3) := by decide +kernel
theorem dX12_enter_14 : decode cX12_enter 14 = .ok (.aload_n 0, 1) := by decide +kernel
theorem dX12_enter_15 : decode cX12_enter 15 = .ok (.getfield 306, 3) := by decide +kernel
theorem dX12_enter_18 : decode cX12_enter 18 = .ok (.iconst 0, 1) := by decide +kernel
theorem dX12_enter_19 : decode cX12_enter 19 = .ok (.iastore, 1) := by decide +kernel
theorem dX12_enter_20 : decode cX12_enter 20 = .ok (.aload_n 0, 1) := by decide +kernel
theorem dX12_enter_21 : decode cX12_enter 21 = .ok (.dup, 1) := by decide +kernel
theorem dX12_enter_22 : decode cX12_enter 22 = .ok (.getfield 300, 3) := by decide +kernel
theorem dX12_enter_25 : decode cX12_enter 25 = .ok (.aload_n 0, 1) := by decide +kernel
theorem dX12_enter_26 : decode cX12_enter 26 = .ok (.getfield 19, 3) := by decide +kernel
theorem dX12_enter_29 : decode cX12_enter 29 = .ok (.iload_n 1, 1) := by decide +kernel
theorem dX12_enter_30 : decode cX12_enter 30 = .ok (.iaload, 1) := by decide +kernel
theorem dX12_enter_31 : decode cX12_enter 31 = .ok (.isub, 1) := by decide +kernel
theorem dX12_enter_32 : decode cX12_enter 32 = .ok (.putfield 300, 3) := by decide +kernel
theorem dX12_enter_35 : decode cX12_enter 35 = .ok (.iconst 0, 1) := by decide +kernel
theorem dX12_enter_36 : decode cX12_enter 36 = .ok (.istore_n 2, 1) := by decide +kernel
theorem dX12_enter_37 : decode cX12_enter 37 = .ok (.iload_n 2, 1) := by decide +kernel
theorem dX12_enter_38 : decode cX12_enter 38 = .ok (.bipush 8, 2) := by decide +kernel
theorem dX12_enter_40 : decode cX12_enter 40 = .ok (.if_icmp .ge 48, 3) := by decide +kernel
theorem dX12_enter_43 : decode cX12_enter 43 = .ok (.aload_n 0, 1) := by decide +kernel
theorem dX12_enter_44 : decode cX12_enter 44 = .ok (.getfield 107, 3) := by decide +kernel
theorem dX12_enter_47 : decode cX12_enter 47 = .ok (.bipush 8, 2) := by decide +kernel
theorem dX12_enter_49 : decode cX12_enter 49 = .ok (.aload_n 0, 1) := by decide +kernel
theorem dX12_enter_50 : decode cX12_enter 50 = .ok (.getfield 306, 3) := by decide +kernel
theorem dX12_enter_53 : decode cX12_enter 53 = .ok (.imul, 1) := by decide +kernel
theorem dX12_enter_54 : decode cX12_enter 54 = .ok (.iload_n 2, 1) := by decide +kernel
theorem dX12_enter_55 : decode cX12_enter 55 = .ok (.iadd, 1) := by decide +kernel
theorem dX12_enter_56 : decode cX12_enter 56 = .ok (.iload_n 2, 1) := by decide +kernel
theorem dX12_enter_57 : decode cX12_enter 57 = .ok (.aload_n 0, 1) := by decide +kernel
theorem dX12_enter_58 : decode cX12_enter 58 = .ok (.getfield 19, 3) := by decide +kernel
theorem dX12_enter_61 : decode cX12_enter 61 = .ok (.iload_n 1, 1) := by decide +kernel
theorem dX12_enter_62 : decode cX12_enter 62 = .ok (.iaload, 1) := by decide +kernel
theorem dX12_enter_63 : decode cX12_enter 63 = .ok (.if_icmp .ge 17, 3) := by decide +kernel
theorem dX12_enter_66 : decode cX12_enter 66 = .ok (.aload_n 0, 1) := by decide +kernel
theorem dX12_enter_67 : decode cX12_enter 67 = .ok (.getfield 111, 3) := by decide +kernel
theorem dX12_enter_70 : decode cX12_enter 70 = .ok (.aload_n 0, 1) := by decide +kernel
theorem dX12_enter_71 : decode cX12_enter 71 = .ok (.getfield 300, 3) := by decide +kernel
theorem dX12_enter_74 : decode cX12_enter 74 = .ok (.iload_n 2, 1) := by decide +kernel
theorem dX12_enter_75 : decode cX12_enter 75 = .ok (.iadd, 1) := by decide +kernel
theorem dX12_enter_76 : decode cX12_enter 76 = .ok (.laload, 1) := by decide +kernel
theorem dX12_enter_77 : decode cX12_enter 77 = .ok (.goto 4, 3) := by decide +kernel
theorem dX12_enter_80 : decode cX12_enter 80 = .ok (.lconst 0, 1) := by decide +kernel
theorem dX12_enter_81 : decode cX12_enter 81 = .ok (.lastore, 1) := by decide +kernel
theorem dX12_enter_82 : decode cX12_enter 82 = .ok (.iinc 2 1, 3) := by decide +kernel
theorem dX12_enter_85 : decode cX12_enter 85 = .ok (.goto (-48), 3) := by decide +kernel
theorem dX12_enter_88 : decode cX12_enter 88 = .ok (.aload_n 0, 1) := by decide +kernel
theorem dX12_enter_89 : decode cX12_enter 89 = .ok (.getfield 101, 3) := by decide +kernel
theorem dX12_enter_92 : decode cX12_enter 92 = .ok (.aload_n 0, 1) := by decide +kernel
theorem dX12_enter_93 : decode cX12_enter 93 = .ok (.getfield 306, 3) := by decide +kernel
theorem dX12_enter_96 : decode cX12_enter 96 = .ok (.aload_n 0, 1) := by decide +kernel
theorem dX12_enter_97 : decode cX12_enter 97 = .ok (.getfield 300, 3) := by decide +kernel
theorem dX12_enter_100 : decode cX12_enter 100 = .ok (.iastore, 1) := by decide +kernel
theorem dX12_enter_101 : decode cX12_enter 101 = .ok (.aload_n 0, 1) := by decide +kernel
theorem dX12_enter_102 : decode cX12_enter 102 = .ok (.getfield 104, 3) := by decide +kernel
theorem dX12_enter_105 : decode cX12_enter 105 = .ok (.aload_n 0, 1) := by decide +kernel
theorem dX12_enter_106 : decode cX12_enter 106 = .ok (.getfield 306, 3) := by decide +kernel
theorem dX12_enter_109 : decode cX12_enter 109 = .ok (.aload_n 0, 1) := by decide +kernel
theorem dX12_enter_110 : decode cX12_enter 110 = .ok (.getfield 303, 3) := by decide +kernel
theorem dX12_enter_113 : decode cX12_enter 113 = .ok (.iastore, 1) := by decide +kernel
theorem dX12_enter_114 : decode cX12_enter 114 = .ok (.aload_n 0, 1) := by decide +kernel
theorem dX12_enter_115 : decode cX12_enter 115 = .ok (.dup, 1) := by decide +kernel
theorem dX12_enter_116 : decode cX12_enter 116 = .ok (.getfield 306, 3) := by decide +kernel
theorem dX12_enter_119 : decode cX12_enter 119 = .ok (.iconst 1, 1) := by decide +kernel
theorem dX12_enter_120 : decode cX12_enter 120 = .ok (.iadd, 1) := by decide +kernel
theorem dX12_enter_121 : decode cX12_enter 121 = .ok (.putfield 306, 3) := by decide +kernel
theorem dX12_enter_124 : decode cX12_enter 124 = .ok (.aload_n 0, 1) := by decide +kernel
theorem dX12_enter_125 : decode cX12_enter 125 = .ok (.aload_n 0, 1) := by decide +kernel
theorem dX12_enter_126 : decode cX12_enter 126 = .ok (.getfield 309, 3) := by decide +kernel
theorem dX12_enter_129 : decode cX12_enter 129 = .ok (.aload_n 0, 1) := by decide +kernel
theorem dX12_enter_130 : decode cX12_enter 130 = .ok (.getfield 306, 3) := by decide +kernel
theorem dX12_enter_133 : decode cX12_enter 133 = .ok (.if_icmp .ge 10, 3) := by decide +kernel
theorem dX12_enter_136 : decode cX12_enter 136 = .ok (.aload_n 0, 1) := by decide +kernel
theorem dX12_enter_137 : decode cX12_enter 137 = .ok (.getfield 306, 3) := by decide +kernel
theorem dX12_enter_140 : decode cX12_enter 140 = .ok (.goto 7, 3) := by decide +kernel
theorem dX12_enter_143 : decode cX12_enter 143 = .ok (.aload_n 0, 1) := by decide +kernel
theorem dX12_enter_144 : decode cX12_enter 144 = .ok (.getfield 309, 3) := by decide +kernel
theorem dX12_enter_147 : decode cX12_enter 147 = .ok (.putfield 309, 3) := by decide +kernel
theorem dX12_enter_150 : decode cX12_enter 150 = .ok (.return_, 1) := by decide +kernel
theorem dX12_leave_0 : decode cX12_leave 0 = .ok (.aload_n 0, 1) := by decide +kernel
theorem dX12_leave_1 : decode cX12_leave 1 = .ok (.dup, 1) := by decide +kernel
theorem dX12_leave_2 : decode cX12_leave 2 = .ok (.getfield 306, 3) := by decide +kernel
theorem dX12_leave_5 : decode cX12_leave 5 = .ok (.iconst 1, 1) := by decide +kernel
theorem dX12_leave_6 : decode cX12_leave 6 = .ok (.isub, 1) := by decide +kernel
theorem dX12_leave_7 : decode cX12_leave 7 = .ok (.putfield 306, 3) := by decide +kernel
theorem dX12_leave_10 : decode cX12_leave 10 = .ok (.aload_n 0, 1) := by decide +kernel
theorem dX12_leave_11 : decode cX12_leave 11 = .ok (.aload_n 0, 1) := by decide +kernel
theorem dX12_leave_12 : decode cX12_leave 12 = .ok (.getfield 101, 3) := by decide +kernel
theorem dX12_leave_15 : decode cX12_leave 15 = .ok (.aload_n 0, 1) := by decide +kernel
theorem dX12_leave_16 : decode cX12_leave 16 = .ok (.getfield 306, 3) := by decide +kernel
theorem dX12_leave_19 : decode cX12_leave 19 = .ok (.iaload, 1) := by decide +kernel
theorem dX12_leave_20 : decode cX12_leave 20 = .ok (.aload_n 0, 1) := by decide +kernel
theorem dX12_leave_21 : decode cX12_leave 21 = .ok (.getfield 22, 3) := by decide +kernel
theorem dX12_leave_24 : decode cX12_leave 24 = .ok (.aload_n 0, 1) := by decide +kernel
theorem dX12_leave_25 : decode cX12_leave 25 = .ok (.getfield 95, 3) := by decide +kernel
theorem dX12_leave_28 : decode cX12_leave 28 = .ok (.aload_n 0, 1) := by decide +kernel
theorem dX12_leave_29 : decode cX12_leave 29 = .ok (.getfield 306, 3) := by decide +kernel
theorem dX12_leave_32 : decode cX12_leave 32 = .ok (.iaload, 1) := by decide +kernel
theorem dX12_leave_33 : decode cX12_leave 33 = .ok (.iaload, 1) := by decide +kernel
theorem dX12_leave_34 : decode cX12_leave 34 = .ok (.invokevirtual 312, 3) := by decide +kernel
theorem dX12_leave_37 : decode cX12_leave 37 = .ok (.aload_n 0, 1) := by decide +kernel
theorem dX12_leave_38 : decode cX12_leave 38 = .ok (.aload_n 0, 1) := by decide +kernel
theorem dX12_leave_39 : decode cX12_leave 39 = .ok (.getfield 104, 3) := by decide +kernel
theorem dX12_leave_42 : decode cX12_leave 42 = .ok (.aload_n 0, 1) := by decide +kernel
theorem dX12_leave_43 : decode cX12_leave 43 = .ok (.getfield 306, 3) := by decide +kernel
theorem dX12_leave_46 : decode cX12_leave 46 = .ok (.iaload, 1) := by decide +kernel
theorem dX12_leave_47 : decode cX12_leave 47 = .ok (.putfield 303, 3) := by decide +kernel
theorem dX12_leave_50 : decode cX12_leave 50 = .ok (.return_, 1) := by decide +kernel
theorem dX12_called_0 : decode cX12_called 0 = .ok (.aload_n 0, 1) := by decide +kernel
theorem dX12_called_1 : decode cX12_called 1 = .ok (.getfield 306, 3) := by decide +kernel
theorem dX12_called_4 : decode cX12_called 4 = .ok (.bipush 40, 2) := by decide +kernel
theorem dX12_called_6 : decode cX12_called 6 = .ok (.if_icmp .ne 6, 3) := by decide +kernel
theorem dX12_called_9 : decode cX12_called 9 = .ok (.bipush 6, 2) := by decide +kernel
theorem dX12_called_11 : decode cX12_called 11 = .ok (.ireturn, 1) := by decide +kernel
theorem dX12_called_12 : decode cX12_called 12 = .ok (.aload_n 0, 1) := by decide +kernel
theorem dX12_called_13 : decode cX12_called 13 = .ok (.iload_n 1, 1) := by decide +kernel
theorem dX12_called_14 : decode cX12_called 14 = .ok (.invokevirtual 315, 3) := by decide +kernel
theorem dX12_called_17 : decode cX12_called 17 = .ok (.iconst 0, 1) := by decide +kernel
theorem dX12_called_18 : decode cX12_called 18 = .ok (.ireturn, 1) := by decide +kernel
theorem dX12_isOut_0 : decode cX12_isOut 0 = .ok (.lload_n 1, 1) := by decide +kernel
theorem dX12_isOut_1 : decode cX12_isOut 1 = .ok (.lconst 0, 1) := by decide +kernel
theorem dX12_isOut_2 : decode cX12_isOut 2 = .ok (.lcmp, 1) := by decide +kernel
theorem dX12_isOut_3 : decode cX12_isOut 3 = .ok (.ifCond .lt 18, 3) := by decide +kernel
theorem dX12_isOut_6 : decode cX12_isOut 6 = .ok (.lload_n 1, 1) := by decide +kernel
theorem dX12_isOut_7 : decode cX12_isOut 7 = .ok (.ldc2_w 318, 3) := by decide +kernel
theorem dX12_isOut_10 : decode cX12_isOut 10 = .ok (.iload 4, 2) := by decide +kernel
theorem dX12_isOut_12 : decode cX12_isOut 12 = .ok (.i2l, 1) := by decide +kernel
theorem dX12_isOut_13 : decode cX12_isOut 13 = .ok (.lsub, 1) := by decide +kernel
theorem dX12_isOut_14 : decode cX12_isOut 14 = .ok (.iload_n 3, 1) := by decide +kernel
theorem dX12_isOut_15 : decode cX12_isOut 15 = .ok (.i2l, 1) := by decide +kernel
theorem dX12_isOut_16 : decode cX12_isOut 16 = .ok (.lsub, 1) := by decide +kernel
theorem dX12_isOut_17 : decode cX12_isOut 17 = .ok (.lcmp, 1) := by decide +kernel
theorem dX12_isOut_18 : decode cX12_isOut 18 = .ok (.ifCond .le 7, 3) := by decide +kernel
theorem dX12_isOut_21 : decode cX12_isOut 21 = .ok (.iconst 1, 1) := by decide +kernel
theorem dX12_isOut_22 : decode cX12_isOut 22 = .ok (.goto 4, 3) := by decide +kernel
theorem dX12_isOut_25 : decode cX12_isOut 25 = .ok (.iconst 0, 1) := by decide +kernel
theorem dX12_isOut_26 : decode cX12_isOut 26 = .ok (.ireturn, 1) := by decide +kernel
theorem dX12_load_0 : decode cX12_load 0 = .ok (.lconst 0, 1) := by decide +kernel
theorem dX12_load_1 : decode cX12_load 1 = .ok (.lstore_n 3, 1) := by decide +kernel
theorem dX12_load_2 : decode cX12_load 2 = .ok (.iload_n 2, 1) := by decide +kernel
theorem dX12_load_3 : decode cX12_load 3 = .ok (.iconst 1, 1) := by decide +kernel
theorem dX12_load_4 : decode cX12_load 4 = .ok (.isub, 1) := by decide +kernel
theorem dX12_load_5 : decode cX12_load 5 = .ok (.istore 5, 2) := by decide +kernel
theorem dX12_load_7 : decode cX12_load 7 = .ok (.iload 5, 2) := by decide +kernel
theorem dX12_load_9 : decode cX12_load 9 = .ok (.ifCond .lt 29, 3) := by decide +kernel
theorem dX12_load_12 : decode cX12_load 12 = .ok (.lload_n 3, 1) := by decide +kernel
theorem dX12_load_13 : decode cX12_load 13 = .ok (.bipush 8, 2) := by decide +kernel
theorem dX12_load_15 : decode cX12_load 15 = .ok (.lshl, 1) := by decide +kernel
theorem dX12_load_16 : decode cX12_load 16 = .ok (.aload_n 0, 1) := by decide +kernel
theorem dX12_load_17 : decode cX12_load 17 = .ok (.getfield 76, 3) := by decide +kernel
theorem dX12_load_20 : decode cX12_load 20 = .ok (.iload_n 1, 1) := by decide +kernel
theorem dX12_load_21 : decode cX12_load 21 = .ok (.iload 5, 2) := by decide +kernel
theorem dX12_load_23 : decode cX12_load 23 = .ok (.iadd, 1) := by decide +kernel
theorem dX12_load_24 : decode cX12_load 24 = .ok (.baload, 1) := by decide +kernel
theorem dX12_load_25 : decode cX12_load 25 = .ok (.sipush 255, 3) := by decide +kernel
theorem dX12_load_28 : decode cX12_load 28 = .ok (.iand, 1) := by decide +kernel
theorem dX12_load_29 : decode cX12_load 29 = .ok (.i2l, 1) := by decide +kernel
theorem dX12_load_30 : decode cX12_load 30 = .ok (.lor, 1) := by decide +kernel
theorem dX12_load_31 : decode cX12_load 31 = .ok (.lstore_n 3, 1) := by decide +kernel
theorem dX12_load_32 : decode cX12_load 32 = .ok (.iinc 5 (-1), 3) := by decide +kernel
theorem dX12_load_35 : decode cX12_load 35 = .ok (.goto (-28), 3) := by decide +kernel
theorem dX12_load_38 : decode cX12_load 38 = .ok (.lload_n 3, 1) := by decide +kernel
theorem dX12_load_39 : decode cX12_load 39 = .ok (.lreturn, 1) := by decide +kernel
theorem dX12_branch_0 : decode cX12_branch 0 = .ok (.aload_n 0, 1) := by decide +kernel
theorem dX12_branch_1 : decode cX12_branch 1 = .ok (.getfield 95, 3) := by decide +kernel
theorem dX12_branch_4 : decode cX12_branch 4 = .ok (.iload_n 1, 1) := by decide +kernel
theorem dX12_branch_5 : decode cX12_branch 5 = .ok (.iaload, 1) := by decide +kernel
theorem dX12_branch_6 : decode cX12_branch 6 = .ok (.istore_n 3, 1) := by decide +kernel
theorem dX12_branch_7 : decode cX12_branch 7 = .ok (.iload_n 2, 1) := by decide +kernel
theorem dX12_branch_8 : decode cX12_branch 8 = .ok (.aload_n 0, 1) := by decide +kernel
theorem dX12_branch_9 : decode cX12_branch 9 = .ok (.getfield 303, 3) := by decide +kernel
theorem dX12_branch_12 : decode cX12_branch 12 = .ok (.aload_n 0, 1) := by decide +kernel
theorem dX12_branch_13 : decode cX12_branch 13 = .ok (.getfield 104, 3) := by decide +kernel
theorem dX12_branch_16 : decode cX12_branch 16 = .ok (.iload_n 1, 1) := by decide +kernel
theorem dX12_branch_17 : decode cX12_branch 17 = .ok (.iaload, 1) := by decide +kernel
theorem dX12_branch_18 : decode cX12_branch 18 = .ok (.isub, 1) := by decide +kernel
theorem dX12_branch_19 : decode cX12_branch 19 = .ok (.if_icmp .ne 8, 3) := by decide +kernel
theorem dX12_branch_22 : decode cX12_branch 22 = .ok (.aload_n 0, 1) := by decide +kernel
theorem dX12_branch_23 : decode cX12_branch 23 = .ok (.invokevirtual 320, 3) := by decide +kernel
theorem dX12_branch_26 : decode cX12_branch 26 = .ok (.return_, 1) := by decide +kernel
theorem dX12_branch_27 : decode cX12_branch 27 = .ok (.aload_n 0, 1) := by decide +kernel
theorem dX12_branch_28 : decode cX12_branch 28 = .ok (.getfield 303, 3) := by decide +kernel
theorem dX12_branch_31 : decode cX12_branch 31 = .ok (.iconst 1, 1) := by decide +kernel
theorem dX12_branch_32 : decode cX12_branch 32 = .ok (.isub, 1) := by decide +kernel
theorem dX12_branch_33 : decode cX12_branch 33 = .ok (.iload_n 2, 1) := by decide +kernel
theorem dX12_branch_34 : decode cX12_branch 34 = .ok (.isub, 1) := by decide +kernel
theorem dX12_branch_35 : decode cX12_branch 35 = .ok (.istore 4, 2) := by decide +kernel
theorem dX12_branch_37 : decode cX12_branch 37 = .ok (.aload_n 0, 1) := by decide +kernel
theorem dX12_branch_38 : decode cX12_branch 38 = .ok (.getfield 114, 3) := by decide +kernel
theorem dX12_branch_41 : decode cX12_branch 41 = .ok (.iload 4, 2) := by decide +kernel
theorem dX12_branch_43 : decode cX12_branch 43 = .ok (.iaload, 1) := by decide +kernel
theorem dX12_branch_44 : decode cX12_branch 44 = .ok (.istore 5, 2) := by decide +kernel
theorem dX12_branch_46 : decode cX12_branch 46 = .ok (.aload_n 0, 1) := by decide +kernel
theorem dX12_branch_47 : decode cX12_branch 47 = .ok (.getfield 31, 3) := by decide +kernel
theorem dX12_branch_50 : decode cX12_branch 50 = .ok (.bipush 60, 2) := by decide +kernel
theorem dX12_branch_52 : decode cX12_branch 52 = .ok (.iload_n 3, 1) := by decide +kernel
theorem dX12_branch_53 : decode cX12_branch 53 = .ok (.imul, 1) := by decide +kernel
theorem dX12_branch_54 : decode cX12_branch 54 = .ok (.iload 5, 2) := by decide +kernel
theorem dX12_branch_56 : decode cX12_branch 56 = .ok (.iadd, 1) := by decide +kernel
theorem dX12_branch_57 : decode cX12_branch 57 = .ok (.iaload, 1) := by decide +kernel
theorem dX12_branch_58 : decode cX12_branch 58 = .ok (.istore 6, 2) := by decide +kernel
theorem dX12_branch_60 : decode cX12_branch 60 = .ok (.iload 6, 2) := by decide +kernel
theorem dX12_branch_62 : decode cX12_branch 62 = .ok (.bipush 24, 2) := by decide +kernel
theorem dX12_branch_64 : decode cX12_branch 64 = .ok (.if_icmp .ne 34, 3) := by decide +kernel
theorem dX12_branch_67 : decode cX12_branch 67 = .ok (.aload_n 0, 1) := by decide +kernel
theorem dX12_branch_68 : decode cX12_branch 68 = .ok (.iload 4, 2) := by decide +kernel
theorem dX12_branch_70 : decode cX12_branch 70 = .ok (.iconst 1, 1) := by decide +kernel
theorem dX12_branch_71 : decode cX12_branch 71 = .ok (.iadd, 1) := by decide +kernel
theorem dX12_branch_72 : decode cX12_branch 72 = .ok (.putfield 303, 3) := by decide +kernel
theorem dX12_branch_75 : decode cX12_branch 75 = .ok (.aload_n 0, 1) := by decide +kernel
theorem dX12_branch_76 : decode cX12_branch 76 = .ok (.aload_n 0, 1) := by decide +kernel
theorem dX12_branch_77 : decode cX12_branch 77 = .ok (.getfield 117, 3) := by decide +kernel
theorem dX12_branch_80 : decode cX12_branch 80 = .ok (.iload 4, 2) := by decide +kernel
theorem dX12_branch_82 : decode cX12_branch 82 = .ok (.iaload, 1) := by decide +kernel
theorem dX12_branch_83 : decode cX12_branch 83 = .ok (.iconst 0, 1) := by decide +kernel
theorem dX12_branch_84 : decode cX12_branch 84 = .ok (.invokevirtual 312, 3) := by decide +kernel
theorem dX12_branch_87 : decode cX12_branch 87 = .ok (.aload_n 0, 1) := by decide +kernel
theorem dX12_branch_88 : decode cX12_branch 88 = .ok (.getfield 98, 3) := by decide +kernel
theorem dX12_branch_91 : decode cX12_branch 91 = .ok (.iload_n 1, 1) := by decide +kernel
theorem dX12_branch_92 : decode cX12_branch 92 = .ok (.iload 5, 2) := by decide +kernel
theorem dX12_branch_94 : decode cX12_branch 94 = .ok (.iconst 1, 1) := by decide +kernel
theorem dX12_branch_95 : decode cX12_branch 95 = .ok (.iadd, 1) := by decide +kernel
theorem dX12_branch_96 : decode cX12_branch 96 = .ok (.iastore, 1) := by decide +kernel
theorem dX12_branch_97 : decode cX12_branch 97 = .ok (.return_, 1) := by decide +kernel
theorem dX12_branch_98 : decode cX12_branch 98 = .ok (.aload_n 0, 1) := by decide +kernel
theorem dX12_branch_99 : decode cX12_branch 99 = .ok (.iload 4, 2) := by decide +kernel
theorem dX12_branch_101 : decode cX12_branch 101 = .ok (.putfield 303, 3) := by decide +kernel
theorem dX12_branch_104 : decode cX12_branch 104 = .ok (.aload_n 0, 1) := by decide +kernel
theorem dX12_branch_105 : decode cX12_branch 105 = .ok (.aload_n 0, 1) := by decide +kernel
theorem dX12_branch_106 : decode cX12_branch 106 = .ok (.getfield 117, 3) := by decide +kernel
theorem dX12_branch_109 : decode cX12_branch 109 = .ok (.iload 4, 2) := by decide +kernel
theorem dX12_branch_111 : decode cX12_branch 111 = .ok (.iaload, 1) := by decide +kernel
theorem dX12_branch_112 : decode cX12_branch 112 = .ok (.aload_n 0, 1) := by decide +kernel
theorem dX12_branch_113 : decode cX12_branch 113 = .ok (.getfield 34, 3) := by decide +kernel
theorem dX12_branch_116 : decode cX12_branch 116 = .ok (.bipush 60, 2) := by decide +kernel
theorem dX12_branch_118 : decode cX12_branch 118 = .ok (.iload_n 3, 1) := by decide +kernel
theorem dX12_branch_119 : decode cX12_branch 119 = .ok (.imul, 1) := by decide +kernel
theorem dX12_branch_120 : decode cX12_branch 120 = .ok (.iload 5, 2) := by decide +kernel
theorem dX12_branch_122 : decode cX12_branch 122 = .ok (.iadd, 1) := by decide +kernel
theorem dX12_branch_123 : decode cX12_branch 123 = .ok (.iaload, 1) := by decide +kernel
theorem dX12_branch_124 : decode cX12_branch 124 = .ok (.invokevirtual 312, 3) := by decide +kernel
theorem dX12_branch_127 : decode cX12_branch 127 = .ok (.aload_n 0, 1) := by decide +kernel
theorem dX12_branch_128 : decode cX12_branch 128 = .ok (.getfield 98, 3) := by decide +kernel
theorem dX12_branch_131 : decode cX12_branch 131 = .ok (.iload_n 1, 1) := by decide +kernel
theorem dX12_branch_132 : decode cX12_branch 132 = .ok (.aload_n 0, 1) := by decide +kernel
theorem dX12_branch_133 : decode cX12_branch 133 = .ok (.iload_n 3, 1) := by decide +kernel
theorem dX12_branch_134 : decode cX12_branch 134 = .ok (.iload 5, 2) := by decide +kernel
theorem dX12_branch_136 : decode cX12_branch 136 = .ok (.iconst 0, 1) := by decide +kernel
theorem dX12_branch_137 : decode cX12_branch 137 = .ok (.invokevirtual 323, 3) := by decide +kernel
theorem dX12_branch_140 : decode cX12_branch 140 = .ok (.iconst 1, 1) := by decide +kernel
theorem dX12_branch_141 : decode cX12_branch 141 = .ok (.iadd, 1) := by decide +kernel
theorem dX12_branch_142 : decode cX12_branch 142 = .ok (.iastore, 1) := by decide +kernel
theorem dX12_branch_143 : decode cX12_branch 143 = .ok (.return_, 1) := by decide +kernel
theorem dX12_worked_0 : decode cX12_worked 0 = .ok (.iload_n 0, 1) := by decide +kernel
theorem dX12_worked_1 : decode cX12_worked 1 = .ok (.tableswitch 162 3 15 #[67, 71, 75, 79, 83, 99, 103, 107, 111, 120, 129, 138, 150], 67) := by decide +kernel
theorem dX12_worked_68 : decode cX12_worked 68 = .ok (.lload_n 1, 1) := by decide +kernel
theorem dX12_worked_69 : decode cX12_worked 69 = .ok (.lload_n 3, 1) := by decide +kernel
theorem dX12_worked_70 : decode cX12_worked 70 = .ok (.ladd, 1) := by decide +kernel
theorem dX12_worked_71 : decode cX12_worked 71 = .ok (.lreturn, 1) := by decide +kernel
theorem dX12_worked_72 : decode cX12_worked 72 = .ok (.lload_n 1, 1) := by decide +kernel
theorem dX12_worked_73 : decode cX12_worked 73 = .ok (.lload_n 3, 1) := by decide +kernel
theorem dX12_worked_74 : decode cX12_worked 74 = .ok (.lsub, 1) := by decide +kernel
theorem dX12_worked_75 : decode cX12_worked 75 = .ok (.lreturn, 1) := by decide +kernel
theorem dX12_worked_76 : decode cX12_worked 76 = .ok (.lload_n 1, 1) := by decide +kernel
theorem dX12_worked_77 : decode cX12_worked 77 = .ok (.lload_n 3, 1) := by decide +kernel
theorem dX12_worked_78 : decode cX12_worked 78 = .ok (.lmul, 1) := by decide +kernel
theorem dX12_worked_79 : decode cX12_worked 79 = .ok (.lreturn, 1) := by decide +kernel
theorem dX12_worked_80 : decode cX12_worked 80 = .ok (.lload_n 1, 1) := by decide +kernel
theorem dX12_worked_81 : decode cX12_worked 81 = .ok (.lload_n 3, 1) := by decide +kernel
theorem dX12_worked_82 : decode cX12_worked 82 = .ok (.ldiv, 1) := by decide +kernel
theorem dX12_worked_83 : decode cX12_worked 83 = .ok (.lreturn, 1) := by decide +kernel
theorem dX12_worked_84 : decode cX12_worked 84 = .ok (.lload_n 3, 1) := by decide +kernel
theorem dX12_worked_85 : decode cX12_worked 85 = .ok (.ldc2_w 327, 3) := by decide +kernel
theorem dX12_worked_88 : decode cX12_worked 88 = .ok (.lcmp, 1) := by decide +kernel
theorem dX12_worked_89 : decode cX12_worked 89 = .ok (.ifCond .ne 7, 3) := by decide +kernel
theorem dX12_worked_92 : decode cX12_worked 92 = .ok (.lconst 0, 1) := by decide +kernel
theorem dX12_worked_93 : decode cX12_worked 93 = .ok (.goto 6, 3) := by decide +kernel
theorem dX12_worked_96 : decode cX12_worked 96 = .ok (.lload_n 1, 1) := by decide +kernel
theorem dX12_worked_97 : decode cX12_worked 97 = .ok (.lload_n 3, 1) := by decide +kernel
theorem dX12_worked_98 : decode cX12_worked 98 = .ok (.lrem, 1) := by decide +kernel
theorem dX12_worked_99 : decode cX12_worked 99 = .ok (.lreturn, 1) := by decide +kernel
theorem dX12_worked_100 : decode cX12_worked 100 = .ok (.lload_n 1, 1) := by decide +kernel
theorem dX12_worked_101 : decode cX12_worked 101 = .ok (.lload_n 3, 1) := by decide +kernel
theorem dX12_worked_102 : decode cX12_worked 102 = .ok (.land, 1) := by decide +kernel
theorem dX12_worked_103 : decode cX12_worked 103 = .ok (.lreturn, 1) := by decide +kernel
theorem dX12_worked_104 : decode cX12_worked 104 = .ok (.lload_n 1, 1) := by decide +kernel
theorem dX12_worked_105 : decode cX12_worked 105 = .ok (.lload_n 3, 1) := by decide +kernel
theorem dX12_worked_106 : decode cX12_worked 106 = .ok (.lor, 1) := by decide +kernel
theorem dX12_worked_107 : decode cX12_worked 107 = .ok (.lreturn, 1) := by decide +kernel
theorem dX12_worked_108 : decode cX12_worked 108 = .ok (.lload_n 1, 1) := by decide +kernel
theorem dX12_worked_109 : decode cX12_worked 109 = .ok (.lload_n 3, 1) := by decide +kernel
theorem dX12_worked_110 : decode cX12_worked 110 = .ok (.lxor, 1) := by decide +kernel
theorem dX12_worked_111 : decode cX12_worked 111 = .ok (.lreturn, 1) := by decide +kernel
theorem dX12_worked_112 : decode cX12_worked 112 = .ok (.lload_n 1, 1) := by decide +kernel
theorem dX12_worked_113 : decode cX12_worked 113 = .ok (.lload_n 3, 1) := by decide +kernel
theorem dX12_worked_114 : decode cX12_worked 114 = .ok (.ldc2_w 241, 3) := by decide +kernel
theorem dX12_worked_117 : decode cX12_worked 117 = .ok (.land, 1) := by decide +kernel
theorem dX12_worked_118 : decode cX12_worked 118 = .ok (.l2i, 1) := by decide +kernel
theorem dX12_worked_119 : decode cX12_worked 119 = .ok (.lshl, 1) := by decide +kernel
theorem dX12_worked_120 : decode cX12_worked 120 = .ok (.lreturn, 1) := by decide +kernel
theorem dX12_worked_121 : decode cX12_worked 121 = .ok (.lload_n 1, 1) := by decide +kernel
theorem dX12_worked_122 : decode cX12_worked 122 = .ok (.lload_n 3, 1) := by decide +kernel
theorem dX12_worked_123 : decode cX12_worked 123 = .ok (.ldc2_w 241, 3) := by decide +kernel
theorem dX12_worked_126 : decode cX12_worked 126 = .ok (.land, 1) := by decide +kernel
theorem dX12_worked_127 : decode cX12_worked 127 = .ok (.l2i, 1) := by decide +kernel
theorem dX12_worked_128 : decode cX12_worked 128 = .ok (.lshr, 1) := by decide +kernel
theorem dX12_worked_129 : decode cX12_worked 129 = .ok (.lreturn, 1) := by decide +kernel
theorem dX12_worked_130 : decode cX12_worked 130 = .ok (.lload_n 1, 1) := by decide +kernel
theorem dX12_worked_131 : decode cX12_worked 131 = .ok (.lload_n 3, 1) := by decide +kernel
theorem dX12_worked_132 : decode cX12_worked 132 = .ok (.ldc2_w 241, 3) := by decide +kernel
theorem dX12_worked_135 : decode cX12_worked 135 = .ok (.land, 1) := by decide +kernel
theorem dX12_worked_136 : decode cX12_worked 136 = .ok (.l2i, 1) := by decide +kernel
theorem dX12_worked_137 : decode cX12_worked 137 = .ok (.lushr, 1) := by decide +kernel
theorem dX12_worked_138 : decode cX12_worked 138 = .ok (.lreturn, 1) := by decide +kernel
theorem dX12_worked_139 : decode cX12_worked 139 = .ok (.lload_n 1, 1) := by decide +kernel
theorem dX12_worked_140 : decode cX12_worked 140 = .ok (.lload_n 3, 1) := by decide +kernel
theorem dX12_worked_141 : decode cX12_worked 141 = .ok (.lcmp, 1) := by decide +kernel
theorem dX12_worked_142 : decode cX12_worked 142 = .ok (.ifCond .ne 7, 3) := by decide +kernel
theorem dX12_worked_145 : decode cX12_worked 145 = .ok (.lconst 1, 1) := by decide +kernel
theorem dX12_worked_146 : decode cX12_worked 146 = .ok (.goto 4, 3) := by decide +kernel
theorem dX12_worked_149 : decode cX12_worked 149 = .ok (.lconst 0, 1) := by decide +kernel
theorem dX12_worked_150 : decode cX12_worked 150 = .ok (.lreturn, 1) := by decide +kernel
theorem dX12_worked_151 : decode cX12_worked 151 = .ok (.lload_n 1, 1) := by decide +kernel
theorem dX12_worked_152 : decode cX12_worked 152 = .ok (.lload_n 3, 1) := by decide +kernel
theorem dX12_worked_153 : decode cX12_worked 153 = .ok (.lcmp, 1) := by decide +kernel
theorem dX12_worked_154 : decode cX12_worked 154 = .ok (.ifCond .ge 7, 3) := by decide +kernel
theorem dX12_worked_157 : decode cX12_worked 157 = .ok (.lconst 1, 1) := by decide +kernel
theorem dX12_worked_158 : decode cX12_worked 158 = .ok (.goto 4, 3) := by decide +kernel
theorem dX12_worked_161 : decode cX12_worked 161 = .ok (.lconst 0, 1) := by decide +kernel
theorem dX12_worked_162 : decode cX12_worked 162 = .ok (.lreturn, 1) := by decide +kernel
theorem dX12_worked_163 : decode cX12_worked 163 = .ok (.lload_n 1, 1) := by decide +kernel
theorem dX12_worked_164 : decode cX12_worked 164 = .ok (.ldc2_w 329, 3) := by decide +kernel
theorem dX12_worked_167 : decode cX12_worked 167 = .ok (.ladd, 1) := by decide +kernel
theorem dX12_worked_168 : decode cX12_worked 168 = .ok (.lload_n 3, 1) := by decide +kernel
theorem dX12_worked_169 : decode cX12_worked 169 = .ok (.ldc2_w 329, 3) := by decide +kernel
theorem dX12_worked_172 : decode cX12_worked 172 = .ok (.ladd, 1) := by decide +kernel
theorem dX12_worked_173 : decode cX12_worked 173 = .ok (.lcmp, 1) := by decide +kernel
theorem dX12_worked_174 : decode cX12_worked 174 = .ok (.ifCond .ge 7, 3) := by decide +kernel
theorem dX12_worked_177 : decode cX12_worked 177 = .ok (.lconst 1, 1) := by decide +kernel
theorem dX12_worked_178 : decode cX12_worked 178 = .ok (.goto 4, 3) := by decide +kernel
theorem dX12_worked_181 : decode cX12_worked 181 = .ok (.lconst 0, 1) := by decide +kernel
theorem dX12_worked_182 : decode cX12_worked 182 = .ok (.lreturn, 1) := by decide +kernel
theorem dX12_isBadQuotient_0 : decode cX12_isBadQuotient 0 = .ok (.iload_n 0, 1) := by decide +kernel
theorem dX12_isBadQuotient_1 : decode cX12_isBadQuotient 1 = .ok (.bipush 6, 2) := by decide +kernel
theorem dX12_isBadQuotient_3 : decode cX12_isBadQuotient 3 = .ok (.if_icmp .eq 9, 3) := by decide +kernel
theorem dX12_isBadQuotient_6 : decode cX12_isBadQuotient 6 = .ok (.iload_n 0, 1) := by decide +kernel
theorem dX12_isBadQuotient_7 : decode cX12_isBadQuotient 7 = .ok (.bipush 7, 2) := by decide +kernel
theorem dX12_isBadQuotient_9 : decode cX12_isBadQuotient 9 = .ok (.if_icmp .ne 9, 3) := by decide +kernel
theorem dX12_isBadQuotient_12 : decode cX12_isBadQuotient 12 = .ok (.lload_n 3, 1) := by decide +kernel
theorem dX12_isBadQuotient_13 : decode cX12_isBadQuotient 13 = .ok (.lconst 0, 1) := by decide +kernel
theorem dX12_isBadQuotient_14 : decode cX12_isBadQuotient 14 = .ok (.lcmp, 1) := by decide +kernel
theorem dX12_isBadQuotient_15 : decode cX12_isBadQuotient 15 = .ok (.ifCond .eq 25, 3) := by decide +kernel
theorem dX12_isBadQuotient_18 : decode cX12_isBadQuotient 18 = .ok (.iload_n 0, 1) := by decide +kernel
theorem dX12_isBadQuotient_19 : decode cX12_isBadQuotient 19 = .ok (.bipush 6, 2) := by decide +kernel
theorem dX12_isBadQuotient_21 : decode cX12_isBadQuotient 21 = .ok (.if_icmp .ne 23, 3) := by decide +kernel
theorem dX12_isBadQuotient_24 : decode cX12_isBadQuotient 24 = .ok (.lload_n 1, 1) := by decide +kernel
theorem dX12_isBadQuotient_25 : decode cX12_isBadQuotient 25 = .ok (.ldc2_w 329, 3) := by decide +kernel
theorem dX12_isBadQuotient_28 : decode cX12_isBadQuotient 28 = .ok (.lcmp, 1) := by decide +kernel
theorem dX12_isBadQuotient_29 : decode cX12_isBadQuotient 29 = .ok (.ifCond .ne 15, 3) := by decide +kernel
theorem dX12_isBadQuotient_32 : decode cX12_isBadQuotient 32 = .ok (.lload_n 3, 1) := by decide +kernel
theorem dX12_isBadQuotient_33 : decode cX12_isBadQuotient 33 = .ok (.ldc2_w 327, 3) := by decide +kernel
theorem dX12_isBadQuotient_36 : decode cX12_isBadQuotient 36 = .ok (.lcmp, 1) := by decide +kernel
theorem dX12_isBadQuotient_37 : decode cX12_isBadQuotient 37 = .ok (.ifCond .ne 7, 3) := by decide +kernel
theorem dX12_isBadQuotient_40 : decode cX12_isBadQuotient 40 = .ok (.iconst 1, 1) := by decide +kernel
theorem dX12_isBadQuotient_41 : decode cX12_isBadQuotient 41 = .ok (.goto 4, 3) := by decide +kernel
theorem dX12_isBadQuotient_44 : decode cX12_isBadQuotient 44 = .ok (.iconst 0, 1) := by decide +kernel
theorem dX12_isBadQuotient_45 : decode cX12_isBadQuotient 45 = .ok (.ireturn, 1) := by decide +kernel
theorem dX12_step_0 : decode cX12_step 0 = .ok (.aload_n 0, 1) := by decide +kernel
theorem dX12_step_1 : decode cX12_step 1 = .ok (.getfield 95, 3) := by decide +kernel
theorem dX12_step_4 : decode cX12_step 4 = .ok (.iload_n 1, 1) := by decide +kernel
theorem dX12_step_5 : decode cX12_step 5 = .ok (.iaload, 1) := by decide +kernel
theorem dX12_step_6 : decode cX12_step 6 = .ok (.istore_n 2, 1) := by decide +kernel
theorem dX12_step_7 : decode cX12_step 7 = .ok (.aload_n 0, 1) := by decide +kernel
theorem dX12_step_8 : decode cX12_step 8 = .ok (.getfield 98, 3) := by decide +kernel
theorem dX12_step_11 : decode cX12_step 11 = .ok (.iload_n 1, 1) := by decide +kernel
theorem dX12_step_12 : decode cX12_step 12 = .ok (.iaload, 1) := by decide +kernel
theorem dX12_step_13 : decode cX12_step 13 = .ok (.istore_n 3, 1) := by decide +kernel
theorem dX12_step_14 : decode cX12_step 14 = .ok (.aload_n 0, 1) := by decide +kernel
theorem dX12_step_15 : decode cX12_step 15 = .ok (.getfield 31, 3) := by decide +kernel
theorem dX12_step_18 : decode cX12_step 18 = .ok (.bipush 60, 2) := by decide +kernel
theorem dX12_step_20 : decode cX12_step 20 = .ok (.iload_n 2, 1) := by decide +kernel
theorem dX12_step_21 : decode cX12_step 21 = .ok (.imul, 1) := by decide +kernel
theorem dX12_step_22 : decode cX12_step 22 = .ok (.iload_n 3, 1) := by decide +kernel
theorem dX12_step_23 : decode cX12_step 23 = .ok (.iadd, 1) := by decide +kernel
theorem dX12_step_24 : decode cX12_step 24 = .ok (.iaload, 1) := by decide +kernel
theorem dX12_step_25 : decode cX12_step 25 = .ok (.istore 4, 2) := by decide +kernel
theorem dX12_step_27 : decode cX12_step 27 = .ok (.aload_n 0, 1) := by decide +kernel
theorem dX12_step_28 : decode cX12_step 28 = .ok (.getfield 34, 3) := by decide +kernel
theorem dX12_step_31 : decode cX12_step 31 = .ok (.bipush 60, 2) := by decide +kernel
theorem dX12_step_33 : decode cX12_step 33 = .ok (.iload_n 2, 1) := by decide +kernel
theorem dX12_step_34 : decode cX12_step 34 = .ok (.imul, 1) := by decide +kernel
theorem dX12_step_35 : decode cX12_step 35 = .ok (.iload_n 3, 1) := by decide +kernel
theorem dX12_step_36 : decode cX12_step 36 = .ok (.iadd, 1) := by decide +kernel
theorem dX12_step_37 : decode cX12_step 37 = .ok (.iaload, 1) := by decide +kernel
theorem dX12_step_38 : decode cX12_step 38 = .ok (.istore 5, 2) := by decide +kernel
theorem dX12_step_40 : decode cX12_step 40 = .ok (.aload_n 0, 1) := by decide +kernel
theorem dX12_step_41 : decode cX12_step 41 = .ok (.getfield 98, 3) := by decide +kernel
theorem dX12_step_44 : decode cX12_step 44 = .ok (.iload_n 1, 1) := by decide +kernel
theorem dX12_step_45 : decode cX12_step 45 = .ok (.iload_n 3, 1) := by decide +kernel
theorem dX12_step_46 : decode cX12_step 46 = .ok (.iconst 1, 1) := by decide +kernel
theorem dX12_step_47 : decode cX12_step 47 = .ok (.iadd, 1) := by decide +kernel
theorem dX12_step_48 : decode cX12_step 48 = .ok (.iastore, 1) := by decide +kernel
theorem dX12_step_49 : decode cX12_step 49 = .ok (.iload 4, 2) := by decide +kernel
theorem dX12_step_51 : decode cX12_step 51 = .ok (.iconst 3, 1) := by decide +kernel
theorem dX12_step_52 : decode cX12_step 52 = .ok (.if_icmp .lt 51, 3) := by decide +kernel
theorem dX12_step_55 : decode cX12_step 55 = .ok (.iload 4, 2) := by decide +kernel
theorem dX12_step_57 : decode cX12_step 57 = .ok (.bipush 16, 2) := by decide +kernel
theorem dX12_step_59 : decode cX12_step 59 = .ok (.if_icmp .gt 44, 3) := by decide +kernel
theorem dX12_step_62 : decode cX12_step 62 = .ok (.aload_n 0, 1) := by decide +kernel
theorem dX12_step_63 : decode cX12_step 63 = .ok (.invokevirtual 331, 3) := by decide +kernel
theorem dX12_step_66 : decode cX12_step 66 = .ok (.lstore 6, 2) := by decide +kernel
theorem dX12_step_68 : decode cX12_step 68 = .ok (.aload_n 0, 1) := by decide +kernel
theorem dX12_step_69 : decode cX12_step 69 = .ok (.invokevirtual 331, 3) := by decide +kernel
theorem dX12_step_72 : decode cX12_step 72 = .ok (.lstore 8, 2) := by decide +kernel
theorem dX12_step_74 : decode cX12_step 74 = .ok (.iload 4, 2) := by decide +kernel
theorem dX12_step_76 : decode cX12_step 76 = .ok (.lload 8, 2) := by decide +kernel
theorem dX12_step_78 : decode cX12_step 78 = .ok (.lload 6, 2) := by decide +kernel
theorem dX12_step_80 : decode cX12_step 80 = .ok (.invokestatic 335, 3) := by decide +kernel
theorem dX12_step_83 : decode cX12_step 83 = .ok (.ifCond .eq 5, 3) := by decide +kernel
theorem dX12_step_86 : decode cX12_step 86 = .ok (.iconst 2, 1) := by decide +kernel
theorem dX12_step_87 : decode cX12_step 87 = .ok (.ireturn, 1) := by decide +kernel
theorem dX12_step_88 : decode cX12_step 88 = .ok (.aload_n 0, 1) := by decide +kernel
theorem dX12_step_89 : decode cX12_step 89 = .ok (.iload 4, 2) := by decide +kernel
theorem dX12_step_91 : decode cX12_step 91 = .ok (.lload 8, 2) := by decide +kernel
theorem dX12_step_93 : decode cX12_step 93 = .ok (.lload 6, 2) := by decide +kernel
theorem dX12_step_95 : decode cX12_step 95 = .ok (.invokestatic 339, 3) := by decide +kernel
theorem dX12_step_98 : decode cX12_step 98 = .ok (.invokevirtual 343, 3) := by decide +kernel
theorem dX12_step_101 : decode cX12_step 101 = .ok (.iconst 0, 1) := by decide +kernel
theorem dX12_step_102 : decode cX12_step 102 = .ok (.ireturn, 1) := by decide +kernel
theorem dX12_step_103 : decode cX12_step 103 = .ok (.iload 4, 2) := by decide +kernel
theorem dX12_step_105 : decode cX12_step 105 = .ok (.tableswitch 709 0 34 #[155, 164, 182, 709, 709, 709, 709, 709, 709, 709, 709, 709, 709, 709, 709, 709, 709, 200, 238, 250, 304, 250, 304, 388, 388, 395, 487, 512, 524, 533, 551, 557, 590, 650, 671], 155) := by decide +kernel
theorem dX12_step_260 : decode cX12_step 260 = .ok (.aload_n 0, 1) := by decide +kernel
theorem dX12_step_261 : decode cX12_step 261 = .ok (.iload 5, 2) := by decide +kernel
theorem dX12_step_263 : decode cX12_step 263 = .ok (.i2l, 1) := by decide +kernel
theorem dX12_step_264 : decode cX12_step 264 = .ok (.invokevirtual 343, 3) := by decide +kernel
theorem dX12_step_267 : decode cX12_step 267 = .ok (.iconst 0, 1) := by decide +kernel
theorem dX12_step_268 : decode cX12_step 268 = .ok (.ireturn, 1) := by decide +kernel
theorem dX12_step_269 : decode cX12_step 269 = .ok (.aload_n 0, 1) := by decide +kernel
theorem dX12_step_270 : decode cX12_step 270 = .ok (.aload_n 0, 1) := by decide +kernel
theorem dX12_step_271 : decode cX12_step 271 = .ok (.getfield 107, 3) := by decide +kernel
theorem dX12_step_274 : decode cX12_step 274 = .ok (.bipush 8, 2) := by decide +kernel
theorem dX12_step_276 : decode cX12_step 276 = .ok (.iload_n 1, 1) := by decide +kernel
theorem dX12_step_277 : decode cX12_step 277 = .ok (.imul, 1) := by decide +kernel
theorem dX12_step_278 : decode cX12_step 278 = .ok (.iload 5, 2) := by decide +kernel
theorem dX12_step_280 : decode cX12_step 280 = .ok (.iadd, 1) := by decide +kernel
theorem dX12_step_281 : decode cX12_step 281 = .ok (.laload, 1) := by decide +kernel
theorem dX12_step_282 : decode cX12_step 282 = .ok (.invokevirtual 343, 3) := by decide +kernel
theorem dX12_step_285 : decode cX12_step 285 = .ok (.iconst 0, 1) := by decide +kernel
theorem dX12_step_286 : decode cX12_step 286 = .ok (.ireturn, 1) := by decide +kernel
theorem dX12_step_287 : decode cX12_step 287 = .ok (.aload_n 0, 1) := by decide +kernel
theorem dX12_step_288 : decode cX12_step 288 = .ok (.getfield 107, 3) := by decide +kernel
theorem dX12_step_291 : decode cX12_step 291 = .ok (.bipush 8, 2) := by decide +kernel
theorem dX12_step_293 : decode cX12_step 293 = .ok (.iload_n 1, 1) := by decide +kernel
theorem dX12_step_294 : decode cX12_step 294 = .ok (.imul, 1) := by decide +kernel
theorem dX12_step_295 : decode cX12_step 295 = .ok (.iload 5, 2) := by decide +kernel
theorem dX12_step_297 : decode cX12_step 297 = .ok (.iadd, 1) := by decide +kernel
theorem dX12_step_298 : decode cX12_step 298 = .ok (.aload_n 0, 1) := by decide +kernel
theorem dX12_step_299 : decode cX12_step 299 = .ok (.invokevirtual 331, 3) := by decide +kernel
theorem dX12_step_302 : decode cX12_step 302 = .ok (.lastore, 1) := by decide +kernel
theorem dX12_step_303 : decode cX12_step 303 = .ok (.iconst 0, 1) := by decide +kernel
theorem dX12_step_304 : decode cX12_step 304 = .ok (.ireturn, 1) := by decide +kernel
theorem dX12_step_305 : decode cX12_step 305 = .ok (.aload_n 0, 1) := by decide +kernel
theorem dX12_step_306 : decode cX12_step 306 = .ok (.invokevirtual 331, 3) := by decide +kernel
theorem dX12_step_309 : decode cX12_step 309 = .ok (.lstore 6, 2) := by decide +kernel
theorem dX12_step_311 : decode cX12_step 311 = .ok (.aload_n 0, 1) := by decide +kernel
theorem dX12_step_312 : decode cX12_step 312 = .ok (.invokevirtual 331, 3) := by decide +kernel
theorem dX12_step_315 : decode cX12_step 315 = .ok (.lstore 8, 2) := by decide +kernel
theorem dX12_step_317 : decode cX12_step 317 = .ok (.aload_n 0, 1) := by decide +kernel
theorem dX12_step_318 : decode cX12_step 318 = .ok (.invokevirtual 331, 3) := by decide +kernel
theorem dX12_step_321 : decode cX12_step 321 = .ok (.lstore 10, 2) := by decide +kernel
theorem dX12_step_323 : decode cX12_step 323 = .ok (.aload_n 0, 1) := by decide +kernel
theorem dX12_step_324 : decode cX12_step 324 = .ok (.lload 6, 2) := by decide +kernel
theorem dX12_step_326 : decode cX12_step 326 = .ok (.lconst 0, 1) := by decide +kernel
theorem dX12_step_327 : decode cX12_step 327 = .ok (.lcmp, 1) := by decide +kernel
theorem dX12_step_328 : decode cX12_step 328 = .ok (.ifCond .eq 8, 3) := by decide +kernel
theorem dX12_step_331 : decode cX12_step 331 = .ok (.lload 10, 2) := by decide +kernel
theorem dX12_step_333 : decode cX12_step 333 = .ok (.goto 5, 3) := by decide +kernel
theorem dX12_step_336 : decode cX12_step 336 = .ok (.lload 8, 2) := by decide +kernel
theorem dX12_step_338 : decode cX12_step 338 = .ok (.invokevirtual 343, 3) := by decide +kernel
theorem dX12_step_341 : decode cX12_step 341 = .ok (.iconst 0, 1) := by decide +kernel
theorem dX12_step_342 : decode cX12_step 342 = .ok (.ireturn, 1) := by decide +kernel
theorem dX12_step_343 : decode cX12_step 343 = .ok (.aload_n 0, 1) := by decide +kernel
theorem dX12_step_344 : decode cX12_step 344 = .ok (.dup, 1) := by decide +kernel
theorem dX12_step_345 : decode cX12_step 345 = .ok (.getfield 300, 3) := by decide +kernel
theorem dX12_step_348 : decode cX12_step 348 = .ok (.iconst 1, 1) := by decide +kernel
theorem dX12_step_349 : decode cX12_step 349 = .ok (.isub, 1) := by decide +kernel
theorem dX12_step_350 : decode cX12_step 350 = .ok (.putfield 300, 3) := by decide +kernel
theorem dX12_step_353 : decode cX12_step 353 = .ok (.iconst 0, 1) := by decide +kernel
theorem dX12_step_354 : decode cX12_step 354 = .ok (.ireturn, 1) := by decide +kernel
theorem dX12_step_355 : decode cX12_step 355 = .ok (.aload_n 0, 1) := by decide +kernel
theorem dX12_step_356 : decode cX12_step 356 = .ok (.invokevirtual 331, 3) := by decide +kernel
theorem dX12_step_359 : decode cX12_step 359 = .ok (.lstore 12, 2) := by decide +kernel
theorem dX12_step_361 : decode cX12_step 361 = .ok (.iload 4, 2) := by decide +kernel
theorem dX12_step_363 : decode cX12_step 363 = .ok (.bipush 19, 2) := by decide +kernel
theorem dX12_step_365 : decode cX12_step 365 = .ok (.if_icmp .ne 8, 3) := by decide +kernel
theorem dX12_step_368 : decode cX12_step 368 = .ok (.bipush 8, 2) := by decide +kernel
theorem dX12_step_370 : decode cX12_step 370 = .ok (.goto 4, 3) := by decide +kernel
theorem dX12_step_373 : decode cX12_step 373 = .ok (.iconst 1, 1) := by decide +kernel
theorem dX12_step_374 : decode cX12_step 374 = .ok (.istore 14, 2) := by decide +kernel
theorem dX12_step_376 : decode cX12_step 376 = .ok (.aload_n 0, 1) := by decide +kernel
theorem dX12_step_377 : decode cX12_step 377 = .ok (.lload 12, 2) := by decide +kernel
theorem dX12_step_379 : decode cX12_step 379 = .ok (.iload 5, 2) := by decide +kernel
theorem dX12_step_381 : decode cX12_step 381 = .ok (.iload 14, 2) := by decide +kernel
theorem dX12_step_383 : decode cX12_step 383 = .ok (.invokevirtual 347, 3) := by decide +kernel
theorem dX12_step_386 : decode cX12_step 386 = .ok (.ifCond .eq 5, 3) := by decide +kernel
theorem dX12_step_389 : decode cX12_step 389 = .ok (.iconst 3, 1) := by decide +kernel
theorem dX12_step_390 : decode cX12_step 390 = .ok (.ireturn, 1) := by decide +kernel
theorem dX12_step_391 : decode cX12_step 391 = .ok (.aload_n 0, 1) := by decide +kernel
theorem dX12_step_392 : decode cX12_step 392 = .ok (.aload_n 0, 1) := by decide +kernel
theorem dX12_step_393 : decode cX12_step 393 = .ok (.lload 12, 2) := by decide +kernel
theorem dX12_step_395 : decode cX12_step 395 = .ok (.l2i, 1) := by decide +kernel
theorem dX12_step_396 : decode cX12_step 396 = .ok (.iload 5, 2) := by decide +kernel
theorem dX12_step_398 : decode cX12_step 398 = .ok (.iadd, 1) := by decide +kernel
theorem dX12_step_399 : decode cX12_step 399 = .ok (.iload 14, 2) := by decide +kernel
theorem dX12_step_401 : decode cX12_step 401 = .ok (.invokevirtual 351, 3) := by decide +kernel
theorem dX12_step_404 : decode cX12_step 404 = .ok (.invokevirtual 343, 3) := by decide +kernel
theorem dX12_step_407 : decode cX12_step 407 = .ok (.iconst 0, 1) := by decide +kernel
theorem dX12_step_408 : decode cX12_step 408 = .ok (.ireturn, 1) := by decide +kernel
theorem dX12_step_409 : decode cX12_step 409 = .ok (.aload_n 0, 1) := by decide +kernel
theorem dX12_step_410 : decode cX12_step 410 = .ok (.invokevirtual 331, 3) := by decide +kernel
theorem dX12_step_413 : decode cX12_step 413 = .ok (.lstore 15, 2) := by decide +kernel
theorem dX12_step_415 : decode cX12_step 415 = .ok (.aload_n 0, 1) := by decide +kernel
theorem dX12_step_416 : decode cX12_step 416 = .ok (.invokevirtual 331, 3) := by decide +kernel
theorem dX12_step_419 : decode cX12_step 419 = .ok (.lstore 12, 2) := by decide +kernel
theorem dX12_step_421 : decode cX12_step 421 = .ok (.iload 4, 2) := by decide +kernel
theorem dX12_step_423 : decode cX12_step 423 = .ok (.bipush 20, 2) := by decide +kernel
theorem dX12_step_425 : decode cX12_step 425 = .ok (.if_icmp .ne 8, 3) := by decide +kernel
theorem dX12_step_428 : decode cX12_step 428 = .ok (.bipush 8, 2) := by decide +kernel
theorem dX12_step_430 : decode cX12_step 430 = .ok (.goto 4, 3) := by decide +kernel
theorem dX12_step_433 : decode cX12_step 433 = .ok (.iconst 1, 1) := by decide +kernel
theorem dX12_step_434 : decode cX12_step 434 = .ok (.istore 14, 2) := by decide +kernel
theorem dX12_step_436 : decode cX12_step 436 = .ok (.aload_n 0, 1) := by decide +kernel
theorem dX12_step_437 : decode cX12_step 437 = .ok (.lload 12, 2) := by decide +kernel
theorem dX12_step_439 : decode cX12_step 439 = .ok (.iload 5, 2) := by decide +kernel
theorem dX12_step_441 : decode cX12_step 441 = .ok (.iload 14, 2) := by decide +kernel
theorem dX12_step_443 : decode cX12_step 443 = .ok (.invokevirtual 347, 3) := by decide +kernel
theorem dX12_step_446 : decode cX12_step 446 = .ok (.ifCond .eq 5, 3) := by decide +kernel
theorem dX12_step_449 : decode cX12_step 449 = .ok (.iconst 3, 1) := by decide +kernel
theorem dX12_step_450 : decode cX12_step 450 = .ok (.ireturn, 1) := by decide +kernel
theorem dX12_step_451 : decode cX12_step 451 = .ok (.iconst 0, 1) := by decide +kernel
theorem dX12_step_452 : decode cX12_step 452 = .ok (.istore 17, 2) := by decide +kernel
theorem dX12_step_454 : decode cX12_step 454 = .ok (.iload 17, 2) := by decide +kernel
theorem dX12_step_456 : decode cX12_step 456 = .ok (.iload 14, 2) := by decide +kernel
theorem dX12_step_458 : decode cX12_step 458 = .ok (.if_icmp .ge 33, 3) := by decide +kernel
theorem dX12_step_461 : decode cX12_step 461 = .ok (.aload_n 0, 1) := by decide +kernel
theorem dX12_step_462 : decode cX12_step 462 = .ok (.getfield 76, 3) := by decide +kernel
theorem dX12_step_465 : decode cX12_step 465 = .ok (.lload 12, 2) := by decide +kernel
theorem dX12_step_467 : decode cX12_step 467 = .ok (.l2i, 1) := by decide +kernel
theorem dX12_step_468 : decode cX12_step 468 = .ok (.iload 5, 2) := by decide +kernel
theorem dX12_step_470 : decode cX12_step 470 = .ok (.iadd, 1) := by decide +kernel
theorem dX12_step_471 : decode cX12_step 471 = .ok (.iload 17, 2) := by decide +kernel
theorem dX12_step_473 : decode cX12_step 473 = .ok (.iadd, 1) := by decide +kernel
theorem dX12_step_474 : decode cX12_step 474 = .ok (.lload 15, 2) := by decide +kernel
theorem dX12_step_476 : decode cX12_step 476 = .ok (.bipush 8, 2) := by decide +kernel
theorem dX12_step_478 : decode cX12_step 478 = .ok (.iload 17, 2) := by decide +kernel
theorem dX12_step_480 : decode cX12_step 480 = .ok (.imul, 1) := by decide +kernel
theorem dX12_step_481 : decode cX12_step 481 = .ok (.lshr, 1) := by decide +kernel
theorem dX12_step_482 : decode cX12_step 482 = .ok (.l2i, 1) := by decide +kernel
theorem dX12_step_483 : decode cX12_step 483 = .ok (.i2b, 1) := by decide +kernel
theorem dX12_step_484 : decode cX12_step 484 = .ok (.bastore, 1) := by decide +kernel
theorem dX12_step_485 : decode cX12_step 485 = .ok (.iinc 17 1, 3) := by decide +kernel
theorem dX12_step_488 : decode cX12_step 488 = .ok (.goto (-34), 3) := by decide +kernel
theorem dX12_step_491 : decode cX12_step 491 = .ok (.iconst 0, 1) := by decide +kernel
theorem dX12_step_492 : decode cX12_step 492 = .ok (.ireturn, 1) := by decide +kernel
theorem dX12_step_493 : decode cX12_step 493 = .ok (.aload_n 0, 1) := by decide +kernel
theorem dX12_step_494 : decode cX12_step 494 = .ok (.iload_n 3, 1) := by decide +kernel
theorem dX12_step_495 : decode cX12_step 495 = .ok (.invokevirtual 355, 3) := by decide +kernel
theorem dX12_step_498 : decode cX12_step 498 = .ok (.iconst 0, 1) := by decide +kernel
theorem dX12_step_499 : decode cX12_step 499 = .ok (.ireturn, 1) := by decide +kernel
theorem dX12_step_500 : decode cX12_step 500 = .ok (.aload_n 0, 1) := by decide +kernel
theorem dX12_step_501 : decode cX12_step 501 = .ok (.invokevirtual 331, 3) := by decide +kernel
theorem dX12_step_504 : decode cX12_step 504 = .ok (.lconst 0, 1) := by decide +kernel
theorem dX12_step_505 : decode cX12_step 505 = .ok (.lcmp, 1) := by decide +kernel
theorem dX12_step_506 : decode cX12_step 506 = .ok (.ifCond .eq 7, 3) := by decide +kernel
theorem dX12_step_509 : decode cX12_step 509 = .ok (.iconst 1, 1) := by decide +kernel
theorem dX12_step_510 : decode cX12_step 510 = .ok (.goto 4, 3) := by decide +kernel
theorem dX12_step_513 : decode cX12_step 513 = .ok (.iconst 0, 1) := by decide +kernel
theorem dX12_step_514 : decode cX12_step 514 = .ok (.istore 17, 2) := by decide +kernel
theorem dX12_step_516 : decode cX12_step 516 = .ok (.aload_n 0, 1) := by decide +kernel
theorem dX12_step_517 : decode cX12_step 517 = .ok (.iload_n 2, 1) := by decide +kernel
theorem dX12_step_518 : decode cX12_step 518 = .ok (.iload_n 3, 1) := by decide +kernel
theorem dX12_step_519 : decode cX12_step 519 = .ok (.iconst 1, 1) := by decide +kernel
theorem dX12_step_520 : decode cX12_step 520 = .ok (.invokevirtual 323, 3) := by decide +kernel
theorem dX12_step_523 : decode cX12_step 523 = .ok (.istore 18, 2) := by decide +kernel
theorem dX12_step_525 : decode cX12_step 525 = .ok (.iload 18, 2) := by decide +kernel
theorem dX12_step_527 : decode cX12_step 527 = .ok (.aload_n 0, 1) := by decide +kernel
theorem dX12_step_528 : decode cX12_step 528 = .ok (.getfield 28, 3) := by decide +kernel
theorem dX12_step_531 : decode cX12_step 531 = .ok (.iload_n 2, 1) := by decide +kernel
theorem dX12_step_532 : decode cX12_step 532 = .ok (.iaload, 1) := by decide +kernel
theorem dX12_step_533 : decode cX12_step 533 = .ok (.if_icmp .ge 24, 3) := by decide +kernel
theorem dX12_step_536 : decode cX12_step 536 = .ok (.aload_n 0, 1) := by decide +kernel
theorem dX12_step_537 : decode cX12_step 537 = .ok (.getfield 31, 3) := by decide +kernel
theorem dX12_step_540 : decode cX12_step 540 = .ok (.bipush 60, 2) := by decide +kernel
theorem dX12_step_542 : decode cX12_step 542 = .ok (.iload_n 2, 1) := by decide +kernel
theorem dX12_step_543 : decode cX12_step 543 = .ok (.imul, 1) := by decide +kernel
theorem dX12_step_544 : decode cX12_step 544 = .ok (.iload 18, 2) := by decide +kernel
theorem dX12_step_546 : decode cX12_step 546 = .ok (.iadd, 1) := by decide +kernel
theorem dX12_step_547 : decode cX12_step 547 = .ok (.iaload, 1) := by decide +kernel
theorem dX12_step_548 : decode cX12_step 548 = .ok (.bipush 26, 2) := by decide +kernel
theorem dX12_step_550 : decode cX12_step 550 = .ok (.if_icmp .ne 7, 3) := by decide +kernel
theorem dX12_step_553 : decode cX12_step 553 = .ok (.iconst 1, 1) := by decide +kernel
theorem dX12_step_554 : decode cX12_step 554 = .ok (.goto 4, 3) := by decide +kernel
theorem dX12_step_557 : decode cX12_step 557 = .ok (.iconst 0, 1) := by decide +kernel
theorem dX12_step_558 : decode cX12_step 558 = .ok (.istore 19, 2) := by decide +kernel
theorem dX12_step_560 : decode cX12_step 560 = .ok (.iload 17, 2) := by decide +kernel
theorem dX12_step_562 : decode cX12_step 562 = .ok (.ifCond .ne 8, 3) := by decide +kernel
theorem dX12_step_565 : decode cX12_step 565 = .ok (.iload 19, 2) := by decide +kernel
theorem dX12_step_567 : decode cX12_step 567 = .ok (.ifCond .eq 8, 3) := by decide +kernel
theorem dX12_step_570 : decode cX12_step 570 = .ok (.aload_n 0, 1) := by decide +kernel
theorem dX12_step_571 : decode cX12_step 571 = .ok (.iload_n 3, 1) := by decide +kernel
theorem dX12_step_572 : decode cX12_step 572 = .ok (.invokevirtual 355, 3) := by decide +kernel
theorem dX12_step_575 : decode cX12_step 575 = .ok (.iload 17, 2) := by decide +kernel
theorem dX12_step_577 : decode cX12_step 577 = .ok (.ifCond .ne 13, 3) := by decide +kernel
theorem dX12_step_580 : decode cX12_step 580 = .ok (.aload_n 0, 1) := by decide +kernel
theorem dX12_step_581 : decode cX12_step 581 = .ok (.getfield 98, 3) := by decide +kernel
theorem dX12_step_584 : decode cX12_step 584 = .ok (.iload_n 1, 1) := by decide +kernel
theorem dX12_step_585 : decode cX12_step 585 = .ok (.iload 18, 2) := by decide +kernel
theorem dX12_step_587 : decode cX12_step 587 = .ok (.iconst 1, 1) := by decide +kernel
theorem dX12_step_588 : decode cX12_step 588 = .ok (.iadd, 1) := by decide +kernel
theorem dX12_step_589 : decode cX12_step 589 = .ok (.iastore, 1) := by decide +kernel
theorem dX12_step_590 : decode cX12_step 590 = .ok (.iconst 0, 1) := by decide +kernel
theorem dX12_step_591 : decode cX12_step 591 = .ok (.ireturn, 1) := by decide +kernel
theorem dX12_step_592 : decode cX12_step 592 = .ok (.aload_n 0, 1) := by decide +kernel
theorem dX12_step_593 : decode cX12_step 593 = .ok (.getfield 98, 3) := by decide +kernel
theorem dX12_step_596 : decode cX12_step 596 = .ok (.iload_n 1, 1) := by decide +kernel
